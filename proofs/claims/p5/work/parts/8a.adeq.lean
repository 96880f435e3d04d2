/-! ===== a run that ends, taken apart: what each instruction did, on plain numbers ===== -/
def xlg : List Int → Nat → Int
  | [], _ => 0
  | a :: _, 0 => a
  | _ :: t, n + 1 => xlg t n
def xls : List Int → Nat → Int → List Int
  | [], 0, v => [v]
  | [], n + 1, v => 0 :: xls [] n v
  | _ :: t, 0, v => v :: t
  | a :: t, n + 1, v => a :: xls t n v
theorem xlg_nil (n : Nat) : xlg [] n = 0 := by cases n <;> rfl
theorem xlg_xls (v : Int) : ∀ (i j : Nat) (L : List Int), xlg (xls L i v) j = if j = i then v else xlg L j
  | 0, 0, [] => rfl
  | 0, j + 1, [] => by
    show xlg [] j = if j + 1 = 0 then v else xlg [] (j + 1)
    rw [xlg_nil, xlg_nil, if_neg (by omega)]
  | i + 1, 0, [] => by
    show (0 : Int) = if 0 = i + 1 then v else 0
    rw [if_neg (by omega)]
  | i + 1, j + 1, [] => by
    show xlg (xls [] i v) j = if j + 1 = i + 1 then v else xlg [] (j + 1)
    rw [xlg_xls v i j [], xlg_nil, xlg_nil]
    simp only [Nat.add_right_cancel_iff]
  | 0, 0, _ :: _ => rfl
  | 0, j + 1, _ :: t => by
    show xlg t j = if j + 1 = 0 then v else xlg t j
    rw [if_neg (by omega)]
  | i + 1, 0, a :: _ => by
    show a = if 0 = i + 1 then v else a
    rw [if_neg (by omega)]
  | i + 1, j + 1, a :: t => by
    show xlg (xls t i v) j = if j + 1 = i + 1 then v else xlg t j
    rw [xlg_xls v i j t]
    simp only [Nat.add_right_cancel_iff]
/-- the locals by their numbers -/
def LR (ls : PL) (L : List Int) : Prop := ∀ q ∈ ls, xlg L q.1 = q.2.2
theorem pget_mem {i : Nat} {p : pv} : ∀ {ls : PL}, pget ls i = some p → (i, p) ∈ ls
  | [], h => by cases h
  | q :: t, h => by
    unfold pget at h
    by_cases e : q.1 = i
    · rw [if_pos e] at h
      cases h
      rw [← e]
      exact List.mem_cons_self
    · rw [if_neg e] at h
      exact List.mem_cons_of_mem _ (pget_mem h)
theorem LR_get {ls : PL} {L : List Int} {i : Nat} {p : pv} (h : LR ls L) (hp : pget ls i = some p) : xlg L i = p.2 := h _ (pget_mem hp)
theorem LR_set {ls : PL} {L : List Int} {i : Nat} {w : Bool} {p : pv} (h : LR ls L) : LR (pset ls i w p) (xls L i p.2) := by
  intro q hq
  rw [xlg_xls]
  rcases List.mem_cons.mp hq with rfl | e
  · exact if_pos rfl
  · obtain ⟨e1, e2⟩ := List.mem_filter.mp e
    have hne : ¬ q.1 = i := by
      intro c
      unfold pdrop at e2
      rw [beq_iff_eq.mpr c] at e2
      cases e2
    rw [if_neg hne]
    exact h q e1
def xla : List pv → List Int
  | [] => []
  | a :: t => if a.1 = 1 then a.2 :: 0 :: xla t else a.2 :: xla t
theorem xla_ok : ∀ (as : List pv) (i : Nat), ∀ q ∈ parg i as, i ≤ q.1 ∧ xlg (xla as) (q.1 - i) = q.2.2
  | [], _, q, hq => by cases hq
  | a :: t, i, q, hq => by
    rcases List.mem_cons.mp hq with rfl | e
    · refine ⟨Nat.le_refl _, ?_⟩
      show xlg (if a.1 = 1 then a.2 :: 0 :: xla t else a.2 :: xla t) (i - i) = a.2
      rw [Nat.sub_self]
      split <;> rfl
    · by_cases h1 : a.1 = 1
      · rw [if_pos h1] at e
        obtain ⟨g1, g2⟩ := xla_ok t (i + 2) q e
        refine ⟨by omega, ?_⟩
        show xlg (if a.1 = 1 then a.2 :: 0 :: xla t else a.2 :: xla t) (q.1 - i) = q.2.2
        rw [if_pos h1, show q.1 - i = (q.1 - (i + 2)) + 1 + 1 by omega]
        exact g2
      · rw [if_neg h1] at e
        obtain ⟨g1, g2⟩ := xla_ok t (i + 1) q e
        refine ⟨by omega, ?_⟩
        show xlg (if a.1 = 1 then a.2 :: 0 :: xla t else a.2 :: xla t) (q.1 - i) = q.2.2
        rw [if_neg h1, show q.1 - i = (q.1 - (i + 1)) + 1 by omega]
        exact g2
theorem LR_arg (as : List pv) : LR (parg 0 as) (xla as) := fun q hq => (xla_ok as 0 q hq).2
/-! values by their marks -/
theorem pe_I' {v : pv} (h : zisI (pe v) = true) : v.1 = 0 := by
  obtain ⟨t, x⟩ := v
  match t, h with
  | 0, _ => rfl
  | 1, h => cases h
  | _ + 2, h => cases h
theorem pe_L' {v : pv} (h : zisL (pe v) = true) : v.1 = 1 := by
  obtain ⟨t, x⟩ := v
  match t, h with
  | 0, h => cases h
  | 1, _ => rfl
  | _ + 2, h => cases h
theorem pe_R' {v : pv} (h : zisR (pe v) = true) : 2 ≤ v.1 ∧ pe v = pe (2, v.2) ∧ 0 ≤ v.2 + 1 := by
  obtain ⟨t, x⟩ := v
  match t, h with
  | 0, h => cases h
  | 1, h => cases h
  | t + 2, h =>
    refine ⟨by show 2 ≤ t + 2; omega, rfl, ?_⟩
    show 0 ≤ x + 1
    by_cases c : 0 ≤ x + 1
    · exact c
    · have e : (x + 2).toNat = 0 := by omega
      have h : zisR (zr (x + 2).toNat) = true := h
      rw [e] at h
      cases h
theorem pe_zi {v : pv} {u : Nat} (h : pe v = zi u) : v.1 = 0 ∧ u = zu v.2 := by
  obtain ⟨t, x⟩ := v
  match t, h with
  | 0, h => exact ⟨rfl, (zi_inj h).symm⟩
  | 1, h => exact absurd (show zl x.toNat = zi u from h) (by intro q; cases q)
  | _ + 2, h => exact absurd (show zr (x + 2).toNat = zi u from h) (by intro q; cases q)
theorem pe_zl {v : pv} {u : Nat} (h : pe v = zl u) : v.1 = 1 ∧ u = v.2.toNat := by
  obtain ⟨t, x⟩ := v
  match t, h with
  | 0, h => exact absurd (show zi (zu x) = zl u from h) (by intro q; cases q)
  | 1, h => exact ⟨rfl, (zl_inj h).symm⟩
  | _ + 2, h => exact absurd (show zr (x + 2).toNat = zl u from h) (by intro q; cases q)
theorem pe_zr {v : pv} {n : Nat} (h : pe v = zr (n + 2)) : 2 ≤ v.1 ∧ v.2 = (n : Int) := by
  obtain ⟨t, x⟩ := v
  match t, h with
  | 0, h => exact absurd (show zi (zu x) = zr (n + 2) from h) (by intro q; cases q)
  | 1, h => exact absurd (show zl x.toNat = zr (n + 2) from h) (by intro q; cases q)
  | t + 2, h =>
    have h := zr_inj (show zr (x + 2).toNat = zr (n + 2) from h)
    exact ⟨by show 2 ≤ t + 2; omega, by show x = (n : Int); omega⟩
theorem pv0 {v : pv} (h : v.1 = 0) : v = (0, v.2) := by
  obtain ⟨t, x⟩ := v
  cases (h : t = 0)
  rfl
theorem pv1 {v : pv} (h : v.1 = 1) : v = (1, v.2) := by
  obtain ⟨t, x⟩ := v
  cases (h : t = 1)
  rfl
theorem peS_c1 {st : List pv} {a : zV} {r : List zV} (h : peS st = a :: r) : ∃ v t, st = v :: t ∧ a = pe v ∧ r = peS t := by
  cases st with
  | nil => cases h
  | cons v t =>
    have h : pe v :: peS t = a :: r := h
    injection h with h1 h2
    exact ⟨v, t, rfl, h1.symm, h2.symm⟩
theorem x_z1 {st : List pv} {k : zV → List zV → zO} {o} (h : z1 (peS st) k = some o) : ∃ v t, st = v :: t ∧ k (pe v) (peS t) = some o := by
  obtain ⟨a, r, e, h⟩ := z1_inv h
  obtain ⟨v, t, rfl, rfl, rfl⟩ := peS_c1 e
  exact ⟨v, t, rfl, h⟩
theorem x_z2 {st : List pv} {k : zV → zV → List zV → zO} {o} (h : z2 (peS st) k = some o) : ∃ v w t, st = w :: v :: t ∧ k (pe v) (pe w) (peS t) = some o := by
  obtain ⟨a, c, r, e, h⟩ := z2_inv h
  obtain ⟨w, t, rfl, rfl, ea⟩ := peS_c1 e
  obtain ⟨v, t, rfl, rfl, rfl⟩ := peS_c1 ea.symm
  exact ⟨v, w, t, rfl, h⟩
theorem x_z3 {st : List pv} {k : zV → zV → zV → List zV → zO} {o} (h : z3 (peS st) k = some o) : ∃ u v w t, st = w :: v :: u :: t ∧ k (pe u) (pe v) (pe w) (peS t) = some o := by
  obtain ⟨a, c, d, r, e, h⟩ := z3_inv h
  obtain ⟨w, t, rfl, rfl, ea⟩ := peS_c1 e
  obtain ⟨v, t, rfl, rfl, eb⟩ := peS_c1 ea.symm
  obtain ⟨u, t, rfl, rfl, rfl⟩ := peS_c1 eb.symm
  exact ⟨u, v, w, t, rfl, h⟩
theorem x_ld {q : zV → Bool} {ls : PL} {i : Nat} {k : zV → zO} {o} (h : zld q (peL ls) i k = some o) : ∃ v, pget ls i = some v ∧ q (pe v) = true ∧ k (pe v) = some o := by
  obtain ⟨a, h1, h2, h3⟩ := zld_inv h
  rw [zfind_pe] at h1
  cases hv : pget ls i with
  | none =>
    rw [hv] at h1
    cases h1
  | some v =>
    rw [hv] at h1
    have h1 : some (pe v) = some a := h1
    cases h1
    exact ⟨v, rfl, h2, h3⟩
theorem x_cell {h : zH} {v : pv} {k : Nat → zC → zO} {o} (hh : zcell zNC h (pe v) k = some o) : ∃ n : Nat, 2 ≤ v.1 ∧ v.2 = (n : Int) ∧ n < zNC ∧ k n (zget h n) = some o := by
  obtain ⟨i, e, h1, h2⟩ := zcell_inv hh
  obtain ⟨g1, g2⟩ := pe_zr e
  exact ⟨i, g1, g2, h1, h2⟩
theorem x_idx {n : Nat} {v : pv} {k : Nat → zO} {o} (hp : pok v) (hn : n < 100000) (hh : zidx n (pe v) k = some o) : ∃ m : Nat, v = (0, (m : Int)) ∧ m < n ∧ k m = some o := by
  obtain ⟨u, e, h1, h2⟩ := zidx_inv hh
  obtain ⟨g1, g2⟩ := pe_zi e
  have e0 := pv0 g1
  rw [e0] at hp
  have hp : zIn v.2 := hp
  unfold zIn at hp
  have : v.2 = (u : Int) := by
    have := zu_cast v.2
    omega
  refine ⟨u, ?_, h1, h2⟩
  rw [e0, this]
/-! ===== a run on plain numbers ===== -/
abbrev xE : Type := zG × Nat
abbrev xR : Type := Option zV × Nat × Nat × zH
def RUN (E : xE) (res : xR) (n : Nat) (cd : zK) (cur : List zQ) (pc : Nat) (L : List Int) (st : List pv) (H : PH) : Prop := ∃ (d : Nat) (ls : PL) (h : zH), pokL ls ∧ pokS st ∧ LR ls L ∧ zW h H ∧ zrun zM E.1 n d cd cur pc (peL ls) (peS st) zNC E.2 h = some res
def CALL (E : xE) (res : xR) (n mj : Nat) (as : List pv) (H : PH) : Prop := ∃ (d : Nat) (h : zH) (oc : Nat) (ini : Bool) (cc : ByteArray) (maxL : Nat) (rt : Option FieldType) (cdj : zK), zget zM mj = some ((mj, oc, ini, cc, maxL, rt), cdj) ∧ pokS as ∧ zW h H ∧ zrun zM E.1 n d cdj (zget cdj 0) 0 (zarg 0 (peS as)) [] zNC E.2 h = some res
def REPR (E : xE) (res : xR) (r : Option pv) (H : PH) : Prop := ∃ h, res = (r.map pe, zNC, E.2, h) ∧ zW h H ∧ ∀ p, r = some p → pok p
/-! ===== what an instruction did ===== -/
def i1 (st : List pv) (k : Int → List pv → Prop) : Prop := match st with
  | (_, x) :: r => k x r
  | [] => False
def j2 (st : List pv) (k : Int → Int → List pv → Prop) : Prop := match st with
  | (_, y) :: (_, x) :: r => k x y r
  | _ => False
def jJ (a npc : Nat) (J k : Prop) : Prop := if a = npc then k else J
noncomputable def gfOK (a i : Nat) : Bool := Nat.blt a 16 && (List.range 622).all (fun c => !Nat.beq (zSh c).1 a || Nat.blt i (zSh c).2.1)
noncomputable def pfOK (a i : Nat) : Bool := gfOK a (i % 64) && (List.range 622).all (fun c => !Nat.beq (zSh c).1 a || (!Nat.beq (ztg a (i % 64)) 2 || (zrt c (i % 64)).isNone)) && (match i / 64 with
  | 0 => Nat.beq (ztg a (i % 64)) 0
  | 1 => Nat.beq (ztg a (i % 64)) 1
  | 2 => Nat.beq (ztg a (i % 64)) 0
  | _ => Nat.beq (ztg a (i % 64)) 2)
theorem gfOK_at {a i c : Nat} (h : gfOK a i = true) (hc : c < 622) (hk : (zSh c).1 = a) : ¬ zrow a ∧ a < 16 ∧ i < (zSh c).2.1 := by
  unfold gfOK at h
  rw [Bool.and_eq_true] at h
  have h1 := Nat.blt_eq.mp h.1
  have h2 := List.all_eq_true.mp h.2 c (List.mem_range.mpr hc)
  rw [hk, Nat.beq_refl] at h2
  refine ⟨fun q => by have := q.1; omega, h1, Nat.blt_eq.mp ?_⟩
  rw [Bool.not_true, Bool.false_or] at h2
  exact h2
def xI (J : Nat → List Int → List pv → PH → Prop) (Q : Option pv → PH → Prop) (C : Nat → List pv → PH → (Option pv → PH → Prop) → Prop) (p op npc a1 a2 : Nat) (L : List Int) (st : List pv) (H : PH) (k : List Int → List pv → PH → Prop) : Prop := match op with
  | 0 => k L ((2, xlg L a1) :: st) H
  | 1 => k L ((0, xlg L a1) :: st) H
  | 2 => k L ((1, xlg L a1) :: st) H
  | 3 => i1 st (fun x r => k (xls L a1 x) r H)
  | 4 => i1 st (fun x r => k (xls L a1 x) r H)
  | 5 => i1 st (fun x r => k (xls L a1 x) r H)
  | 6 => k (xls L a1 (zw (xlg L a1 + (a2 : Int)))) st H
  | 7 => k L ((0, zw (a1 : Int)) :: st) H
  | 8 => k L ((0, zw (a1 : Int)) :: st) H
  | 9 => k L ((0, zw (a1 : Int)) :: st) H
  | 10 => k L ((0, zw (a1 : Int)) :: st) H
  | 11 => k L ((0, zw (a1 : Int)) :: st) H
  | 12 => k L ((1, (a1 : Int)) :: st) H
  | 13 => k L ((1, (a1 : Int)) :: st) H
  | 14 => j2 st (fun x y r => k L ((0, zw (x + y)) :: r) H)
  | 15 => j2 st (fun x y r => k L ((0, zw (x - y)) :: r) H)
  | 16 => j2 st (fun x y r => k L ((0, zw (x * y)) :: r) H)
  | 17 => j2 st (fun x y r => k L ((0, q2 (· / ·) x y) :: r) H)
  | 18 => j2 st (fun x y r => k L ((0, q2 (fun x y => x - x / y * y) x y) :: r) H)
  | 19 => j2 st (fun x y r => k L ((0, q2 (· &&& ·) x y) :: r) H)
  | 20 => j2 st (fun x y r => k L ((0, q2 (· ||| ·) x y) :: r) H)
  | 21 => j2 st (fun x y r => k L ((0, q2 (· ^^^ ·) x y) :: r) H)
  | 22 => j2 st (fun x y r => k L ((0, q2 (fun x y => x <<< (y &&& 31)) x y) :: r) H)
  | 23 => j2 st (fun x y r => k L ((0, q2 (fun x y => x >>> (y &&& 31)) x y) :: r) H)
  | 24 => j2 st (fun x y r => k L ((0, q2 (fun x y => (x.toUInt32 >>> (y.toUInt32 &&& Int32.toUInt32 31)).toInt32) x y) :: r) H)
  | 25 => i1 st (fun x r => k L ((0, q1 (fun x => -x) x) :: r) H)
  | 26 => i1 st (fun x r => k L ((0, q1 (fun x => x.toInt8.toInt32) x) :: r) H)
  | 27 => i1 st (fun x r => k L ((1, qil x) :: r) H)
  | 28 => i1 st (fun x r => k L ((0, qli x) :: r) H)
  | 29 => j2 st (fun x y r => k L ((1, qladd x y) :: r) H)
  | 30 => j2 st (fun x y r => k L ((1, qlshl x y) :: r) H)
  | 31 => j2 st (fun x y r => k L ((1, qlushr x y) :: r) H)
  | 32 => j2 st (fun x y r => k L ((0, qlcmp x y) :: r) H)
  | 33 => k1 st (fun v r => k L (v :: v :: r) H)
  | 34 => k1 st (fun w r => k1 r (fun v r => k L (w :: v :: w :: v :: r) H))
  | 35 => k1 st (fun v r => k L r H)
  | 36 => jJ a1 npc (J a1 L st H) (k L st H)
  | 37 => i1 st (fun x r => (x = 0 ∧ jJ a1 npc (J a1 L r H) (k L r H)) ∨ (¬ x = 0 ∧ k L r H))
  | 38 => i1 st (fun x r => (¬ x = 0 ∧ jJ a1 npc (J a1 L r H) (k L r H)) ∨ (x = 0 ∧ k L r H))
  | 39 => i1 st (fun x r => (x < 0 ∧ jJ a1 npc (J a1 L r H) (k L r H)) ∨ (0 ≤ x ∧ k L r H))
  | 40 => i1 st (fun x r => (0 ≤ x ∧ jJ a1 npc (J a1 L r H) (k L r H)) ∨ (x < 0 ∧ k L r H))
  | 41 => i1 st (fun x r => (0 < x ∧ jJ a1 npc (J a1 L r H) (k L r H)) ∨ (x ≤ 0 ∧ k L r H))
  | 42 => i1 st (fun x r => (x ≤ 0 ∧ jJ a1 npc (J a1 L r H) (k L r H)) ∨ (0 < x ∧ k L r H))
  | 43 => j2 st (fun x y r => (x = y ∧ jJ a1 npc (J a1 L r H) (k L r H)) ∨ (¬ x = y ∧ k L r H))
  | 44 => j2 st (fun x y r => (¬ x = y ∧ jJ a1 npc (J a1 L r H) (k L r H)) ∨ (x = y ∧ k L r H))
  | 45 => j2 st (fun x y r => (x < y ∧ jJ a1 npc (J a1 L r H) (k L r H)) ∨ (y ≤ x ∧ k L r H))
  | 46 => j2 st (fun x y r => (y ≤ x ∧ jJ a1 npc (J a1 L r H) (k L r H)) ∨ (x < y ∧ k L r H))
  | 47 => j2 st (fun x y r => (y < x ∧ jJ a1 npc (J a1 L r H) (k L r H)) ∨ (x ≤ y ∧ k L r H))
  | 48 => j2 st (fun x y r => (x ≤ y ∧ jJ a1 npc (J a1 L r H) (k L r H)) ∨ (y < x ∧ k L r H))
  | 49 => gfOK a1 a2 = true → i1 st (fun x r => k L ((ztg a1 a2, gv H x a2) :: r) H)
  | 50 => pfOK a1 a2 = true → i1 st (fun x r => i1 r (fun c r => k L r (pup H c ((a2 % 64 : Nat) : Int) x)))
  | 51 => j2 st (fun c i r => 0 ≤ c → k L ((0, H c i) :: r) H)
  | 52 => i1 st (fun x r => j2 r (fun c i r => k L r (pup H c i x)))
  | 53 => j2 st (fun c i r => k L ((2, gv H c i) :: r) H)
  | 54 => i1 st (fun x r => 0 ≤ x → k L ((0, ((zSh x.toNat).2.1 : Int)) :: r) H)
  | 55 => j2 st (fun x y r => k L ((0, if x < y then y else x) :: r) H)
  | 56 => j2 st (fun x y r => k L ((0, if y < x then y else x) :: r) H)
  | 57 => j2 st (fun c i r => k L ((0, H c i) :: r) H)
  | 58 => i1 st (fun x r => j2 r (fun c i r => k L r (pup H c i (qb (zSh c.toNat).1 x))))
  | 59 => i1 st (fun x r => j2 r (fun c i r => zrtL c.toNat = [] → k L r (pup H c i x)))
  | 66 => i1 st (fun x r => k L ((0, if 0 ≤ x then x else zw (0 - x)) :: r) H)
  | 100 => i1 st (fun x r => ∃ t, ptsw p 205 0 9 #[56, 75, 83, 104, 123, 134, 145, 156, 175, 186] x = some t ∧ jJ t npc (J t L r H) (k L r H))
  | 101 => i1 st (fun x r => ∃ t, ptl p (Op.lookupswitch.offset (#[(99, 38), (111, 36), (115, 34)] : Array (Int × Int)).toList 40 x) = some t ∧ jJ t npc (J t L r H) (k L r H))
  | 102 => i1 st (fun x r => ∃ t, ptl p (Op.lookupswitch.offset (#[(42, 59), (43, 51), (45, 55), (47, 63), (60, 75)] : Array (Int × Int)).toList 81 x) = some t ∧ jJ t npc (J t L r H) (k L r H))
  | 103 => i1 st (fun x r => ∃ t, ptsw p 189 0 13 #[72, 80, 88, 99, 107, 115, 123, 131, 136, 144, 153, 163, 173, 181] x = some t ∧ jJ t npc (J t L r H) (k L r H))
  | 104 => i1 st (fun x r => ∃ t, ptsw p 63 0 4 #[35, 40, 45, 53, 58] x = some t ∧ jJ t npc (J t L r H) (k L r H))
  | 105 => i1 st (fun x r => ∃ t, ptsw p 54 0 3 #[31, 36, 41, 46] x = some t ∧ jJ t npc (J t L r H) (k L r H))
  | 106 => i1 st (fun x r => ∃ t, ptsw p 85 0 4 #[35, 45, 55, 65, 75] x = some t ∧ jJ t npc (J t L r H) (k L r H))
  | 107 => i1 st (fun x r => ∃ t, ptsw p 141 0 8 #[49, 59, 69, 79, 92, 102, 112, 122, 132] x = some t ∧ jJ t npc (J t L r H) (k L r H))
  | 108 => i1 st (fun x r => ∃ t, ptsw p 79 0 5 #[39, 39, 49, 49, 61, 70] x = some t ∧ jJ t npc (J t L r H) (k L r H))
  | 109 => i1 st (fun x r => ∃ t, ptl p (Op.lookupswitch.offset (#[(42, 59), (43, 51), (45, 55), (47, 63), (60, 75)] : Array (Int × Int)).toList 86 x) = some t ∧ jJ t npc (J t L r H) (k L r H))
  | 110 => i1 st (fun x r => ∃ t, ptsw p 168 0 13 #[71, 78, 85, 92, 101, 108, 115, 122, 127, 132, 138, 145, 152, 160] x = some t ∧ jJ t npc (J t L r H) (k L r H))
  | 111 => i1 st (fun x r => ∃ t, ptsw p 85 0 4 #[36, 46, 56, 65, 75] x = some t ∧ jJ t npc (J t L r H) (k L r H))
  | 112 => i1 st (fun x r => ∃ t, ptsw p 68 0 3 #[32, 41, 50, 59] x = some t ∧ jJ t npc (J t L r H) (k L r H))
  | 113 => i1 st (fun x r => ∃ t, ptsw p 122 0 7 #[47, 54, 61, 68, 74, 91, 108, 115] x = some t ∧ jJ t npc (J t L r H) (k L r H))
  | 60 => a1 = 511 ∨ C a1 (st.take (a2 % 16)).reverse H (fun r H2 => k L (ppush r (st.drop (a2 % 16))) H2)
  | 61 => a1 = 511 ∨ C a1 (st.take (a2 % 16)).reverse H (fun r H2 => k L (ppush r (st.drop (a2 % 16))) H2)
  | 62 => k1 st (fun v _ => Q (some v) H)
  | 63 => k1 st (fun v _ => Q (some v) H)
  | 64 => k1 st (fun v _ => Q (some v) H)
  | 65 => Q none H
  | _ => False
/-- what is known of what comes behind -/
def XH (E : xE) (res : xR) (n : Nat) (cd : zK) (rest : List zQ) (npc : Nat) (J : Nat → List Int → List pv → PH → Prop) (Q : Option pv → PH → Prop) (C : Nat → List pv → PH → (Option pv → PH → Prop) → Prop) (k : List Int → List pv → PH → Prop) : Prop := (∀ m, m < n → ∀ L st H, RUN E res m cd rest npc L st H → k L st H) ∧ (∀ m, m < n → ∀ t L st H, RUN E res m cd (zget cd t) t L st H → J t L st H) ∧ (∀ r H, REPR E res r H → Q r H) ∧ (∀ m, m < n → ∀ mj as H (K : Option pv → PH → Prop), (∃ res1, CALL E res1 m mj as H ∧ ∀ r H2, REPR E res1 r H2 → K r H2) → C mj as H K)
section XS
variable {E : xE} {res : xR} {n m d : Nat} {cd : zK} {rest : List zQ} {p npc a1 a2 pc : Nat} {L L' : List Int} {ls ls' : PL} {st st' : List pv} {H H' : PH} {h h' h0 : zH} {J : Nat → List Int → List pv → PH → Prop} {Q : Option pv → PH → Prop} {C : Nat → List pv → PH → (Option pv → PH → Prop) → Prop} {k : List Int → List pv → PH → Prop} {fn : zCn} {f : zFn} {als : zLs}
theorem x_at {G : zG} {ls : zLs} {st : List zV} {sz us : Nat} (hq : zQk fn f) (hr : zrun zM G n d cd ((fun k => k p fn npc a1 a2) :: rest) pc ls st sz us h = some res) : ∃ m o, n = m + 1 ∧ p = pc ∧ f G pc npc a1 a2 ls st sz h = some o ∧ zout zM (zrun zM G m) d cd rest npc ls sz us h (some o) = some res := by
  cases n with
  | zero => cases hr
  | succ m =>
    rw [zrun_qk hq] at hr
    cases hb : Nat.beq p pc with
    | false =>
      rw [hb] at hr
      cases hr
    | true =>
      rw [hb] at hr
      have hr : zout zM (zrun zM G m) d cd rest npc ls sz us h (f G pc npc a1 a2 ls st sz h) = some res := hr
      cases ho : f G pc npc a1 a2 ls st sz h with
      | none =>
        rw [ho] at hr
        cases hr
      | some o =>
        rw [ho] at hr
        exact ⟨m, o, rfl, Nat.eq_of_beq_eq_true hb, rfl, hr⟩
theorem x_go {t : Nat} (hx : XH E res n cd rest npc J Q C k) (hm : m < n) (hl : pokL ls') (hs : pokS st') (hL : LR ls' L') (hW : zW h' H') (e : zout zM (zrun zM E.1 m) d cd rest npc als zNC E.2 h (zgo t (peL ls') (peS st') h') = some res) : jJ t npc (J t L' st' H') (k L' st' H') := by
  have e : fN (zNC + 0) (fun sz2 => fN (E.2 + 0) (fun us2 => zrun zM E.1 m d cd (Bool.rec (motive := fun _ => List zQ) (zget cd t) rest (Nat.beq t npc)) t (peL ls') (peS st') sz2 us2 h')) = some res := e
  rw [fN_eq, fN_eq] at e
  unfold jJ
  by_cases c : t = npc
  · rw [if_pos c]
    rw [c, Nat.beq_refl] at e
    exact hx.1 m hm L' st' H' ⟨d, ls', h', hl, hs, hL, hW, e⟩
  · rw [if_neg c]
    rw [zbeq_ne c] at e
    exact hx.2.1 m hm t L' st' H' ⟨d, ls', h', hl, hs, hL, hW, e⟩
theorem x_nx (hx : XH E res n cd rest npc J Q C k) (hm : m < n) (hl : pokL ls') (hs : pokS st') (hL : LR ls' L') (hW : zW h' H') (e : zout zM (zrun zM E.1 m) d cd rest npc als zNC E.2 h (zgo npc (peL ls') (peS st') h') = some res) : k L' st' H' := by
  have := x_go hx hm hl hs hL hW e
  unfold jJ at this
  rwa [if_pos rfl] at this
theorem x_push {v : pv} {o} (hx : XH E res n cd rest npc J Q C k) (hm : m < n) (hl : pokL ls) (hs : pokS st) (hv : pok v) (hL : LR ls L) (hW : zW h H) (g : zgo npc (peL ls) (pe v :: peS st) h = some o) (e : zout zM (zrun zM E.1 m) d cd rest npc als zNC E.2 h (some o) = some res) : k L (v :: st) H := by
  rw [← g] at e
  exact x_nx hx hm hl (st' := v :: st) (pokS_cons.mpr ⟨hv, hs⟩) hL hW e
theorem x_set {v : pv} {i : Nat} {w : Bool} {o} (hx : XH E res n cd rest npc J Q C k) (hm : m < n) (hl : pokL ls) (hs : pokS st) (hv : pok v) (hL : LR ls L) (hW : zW h H) (g : zstore (peL ls) i w (pe v) (fun ls' => zgo npc ls' (peS st) h) = some o) (e : zout zM (zrun zM E.1 m) d cd rest npc als zNC E.2 h (some o) = some res) : k (xls L i v.2) st H := by
  rw [zstore_pe] at g
  rw [← g] at e
  exact x_nx hx hm (pset_ok hl hv) hs (LR_set hL) hW e
/-! numbers -/
theorem x_add {v w : pv} {kk : zV → zO} {o} (h : zadd (pe v) (pe w) kk = some o) : v = (0, v.2) ∧ w = (0, w.2) ∧ kk (pe (0, zw (v.2 + w.2))) = some o := by
  obtain ⟨h1, h2, -⟩ := zadd_ok (ρ := fun _ => 0) h
  have e1 := pv0 (pe_I' h1)
  have e2 := pv0 (pe_I' h2)
  refine ⟨e1, e2, ?_⟩
  rw [e1, e2] at h
  have h : zk32 (zu v.2 + zu w.2) kk = some o := h
  rw [zk32_eq, zu_add] at h
  exact h
theorem x_sub {v w : pv} {kk : zV → zO} {o} (h : zsub (pe v) (pe w) kk = some o) : v = (0, v.2) ∧ w = (0, w.2) ∧ kk (pe (0, zw (v.2 - w.2))) = some o := by
  obtain ⟨h1, h2, -⟩ := zsub_ok (ρ := fun _ => 0) h
  have e1 := pv0 (pe_I' h1)
  have e2 := pv0 (pe_I' h2)
  refine ⟨e1, e2, ?_⟩
  rw [e1, e2] at h
  have h : zk32 (zu v.2 + (4294967296 - zu w.2 % 4294967296)) kk = some o := h
  rw [zk32_eq, zu_sub] at h
  exact h
theorem x_mul {v w : pv} {kk : zV → zO} {o} (h : zmul (pe v) (pe w) kk = some o) : v = (0, v.2) ∧ w = (0, w.2) ∧ kk (pe (0, zw (v.2 * w.2))) = some o := by
  obtain ⟨h1, h2, -⟩ := zmul_ok (ρ := fun _ => 0) h
  have e1 := pv0 (pe_I' h1)
  have e2 := pv0 (pe_I' h2)
  refine ⟨e1, e2, ?_⟩
  rw [e1, e2] at h
  have h : zk32 (zu v.2 * zu w.2) kk = some o := h
  rw [zk32_eq, zu_mul] at h
  exact h
theorem x_b2 {g : Int32 → Int32 → Int32} {v w : pv} {kk : zV → zO} {o} (h : zb2 g (pe v) (pe w) kk = some o) : v = (0, v.2) ∧ w = (0, w.2) ∧ kk (pe (0, q2 g v.2 w.2)) = some o := by
  obtain ⟨h1, h2, -⟩ := zb2_ok (ρ := fun _ => 0) h
  have e1 := pv0 (pe_I' h1)
  have e2 := pv0 (pe_I' h2)
  refine ⟨e1, e2, ?_⟩
  rw [e1, e2, zb2_pe] at h
  exact h
theorem x_and {G : zG} {v w : pv} {kk : zV → zO} {o} (h : zand G (pe v) (pe w) kk = some o) : v = (0, v.2) ∧ w = (0, w.2) ∧ kk (pe (0, q2 (· &&& ·) v.2 w.2)) = some o := by
  have e : zand G (pe v) (pe w) kk = zb2 (· &&& ·) (pe v) (pe w) kk := by
    obtain ⟨t, x⟩ := v
    match t with
    | 0 => rfl
    | 1 => rfl
    | _ + 2 => rfl
  rw [e] at h
  exact x_b2 h
theorem x_dv {g : Int32 → Int32 → Int32} {v w : pv} {kk : zV → zO} {o} (h : zdv g (pe v) (pe w) kk = some o) : v = (0, v.2) ∧ w = (0, w.2) ∧ kk (pe (0, q2 g v.2 w.2)) = some o := by
  have e : zb2 g (pe v) (pe w) kk = some o := by
    obtain ⟨t, y⟩ := w
    match t, h with
    | 0, h =>
      have h : (if zI (zu y) = 0 then none else zb2 g (pe v) (zi (zu y)) kk) = some o := h
      split at h
      · cases h
      · exact h
    | 1, h => exact absurd (show none = some o from h) (by intro q; cases q)
    | _ + 2, h => exact absurd (show none = some o from h) (by intro q; cases q)
  exact x_b2 e
theorem x_u1 {g : Int32 → Int32} {v : pv} {kk : zV → zO} {o} (h : zu1 g (pe v) kk = some o) : v = (0, v.2) ∧ kk (pe (0, q1 g v.2)) = some o := by
  obtain ⟨h1, -⟩ := zu1_ok (ρ := fun _ => 0) h
  have e1 := pv0 (pe_I' h1)
  refine ⟨e1, ?_⟩
  rw [e1, zu1_pe] at h
  exact h
theorem x_int {v : pv} {kk : Nat → zO} {o} (h : zint1 (pe v) kk = some o) : v = (0, v.2) ∧ kk (zu v.2) = some o := by
  obtain ⟨u, e, g⟩ := zint1_inv h
  obtain ⟨e1, rfl⟩ := pe_zi e
  exact ⟨pv0 e1, g⟩
theorem x_lng {v : pv} {kk : Nat → zO} {o} (h : zlong1 (pe v) kk = some o) : v = (1, v.2) ∧ kk v.2.toNat = some o := by
  obtain ⟨u, e, g⟩ := zlong1_inv h
  obtain ⟨e1, rfl⟩ := pe_zl e
  exact ⟨pv1 e1, g⟩
theorem x_br {c : Jvm.ClassFile.Cond} {v w : pv} {t e : zO} {o} (hv : pok v) (hw : pok w) (h : zbr (zcmp c (pe v) (pe w)) t e = some o) : (prel c v.2 w.2 ∧ t = some o) ∨ (¬ prel c v.2 w.2 ∧ e = some o) := by
  have hz : zisI (pe v) = true ∧ zisI (pe w) = true := by
    rcases zbr_inv h with ⟨q, -⟩ | ⟨q, -⟩
    · obtain ⟨a, b, -⟩ := zcmp_ok (ρ := fun _ => 0) q
      exact ⟨a, b⟩
    · obtain ⟨a, b, -⟩ := zcmp_ok (ρ := fun _ => 0) q
      exact ⟨a, b⟩
  have e1 := pv0 (pe_I' hz.1)
  have e2 := pv0 (pe_I' hz.2)
  rw [e1] at hv
  rw [e2] at hw
  rw [e1, e2] at h
  by_cases q : prel c v.2 w.2
  · rw [(zbr_pe (c := c) hv hw).1 q] at h
    exact Or.inl ⟨q, h⟩
  · rw [(zbr_pe (c := c) hv hw).2 q] at h
    exact Or.inr ⟨q, h⟩
theorem x_icmp {c : Jvm.ClassFile.Cond} {v w : pv} {o} (hx : XH E res n cd rest npc J Q C k) (hm : m < n) (hl : pokL ls) (hs : pokS (w :: v :: st)) (hL : LR ls L) (hW : zW h H) (g : zbr (zcmp c (pe v) (pe w)) (zgo a1 (peL ls) (peS st) h) (zgo npc (peL ls) (peS st) h) = some o) (e : zout zM (zrun zM E.1 m) d cd rest npc als zNC E.2 h (some o) = some res) : (prel c v.2 w.2 ∧ jJ a1 npc (J a1 L st H) (k L st H)) ∨ (¬ prel c v.2 w.2 ∧ k L st H) := by
  obtain ⟨hw, hs1⟩ := pokS_cons.mp hs
  obtain ⟨hv, hs2⟩ := pokS_cons.mp hs1
  rcases x_br hv hw g with ⟨q, g⟩ | ⟨q, g⟩
  · rw [← g] at e
    exact Or.inl ⟨q, x_go hx hm hl hs2 hL hW e⟩
  · rw [← g] at e
    exact Or.inr ⟨q, x_nx hx hm hl hs2 hL hW e⟩
theorem pe_00 : zi 0 = pe (0, 0) := by decide
theorem x_cond {c : Jvm.ClassFile.Cond} {v : pv} {o} (hx : XH E res n cd rest npc J Q C k) (hm : m < n) (hl : pokL ls) (hs : pokS (v :: st)) (hL : LR ls L) (hW : zW h H) (g : zbr (zcmp c (pe v) (zi 0)) (zgo a1 (peL ls) (peS st) h) (zgo npc (peL ls) (peS st) h) = some o) (e : zout zM (zrun zM E.1 m) d cd rest npc als zNC E.2 h (some o) = some res) : (prel c v.2 0 ∧ jJ a1 npc (J a1 L st H) (k L st H)) ∨ (¬ prel c v.2 0 ∧ k L st H) := by
  rw [pe_00] at g
  exact x_icmp (v := v) (w := (0, 0)) hx hm hl (pokS_cons.mpr ⟨(show pok (0, 0) from ⟨by omega, by omega⟩), hs⟩) hL hW g e
theorem x_tgt {pc : Nat} {off : Int} {kk : Nat → zO} {o} (h : ztgt pc off kk = some o) : ∃ t, ptl pc off = some t ∧ kk t = some o := by
  unfold ztgt at h
  unfold ptl
  by_cases c : 0 ≤ (pc : Int) + off
  · rw [if_pos c] at h
    rw [if_pos c]
    exact ⟨_, rfl, h⟩
  · rw [if_neg c] at h
    cases h
theorem x_sw {pc : Nat} {dd lo hi : Int} {offs : Array Int} {v : pv} {kk : Nat → zO} {o} (hv : pok v) (h : zsw pc dd lo hi offs (pe v) kk = some o) : ∃ t, ptsw pc dd lo hi offs v.2 = some t ∧ kk t = some o := by
  have e1 : v = (0, v.2) := by
    unfold zsw at h
    split at h
    · rename_i q
      exact pv0 (pe_I' (zbd_is q))
    · cases h
  rw [e1] at hv
  have hx : zIn v.2 := hv
  rw [e1] at h
  have eb : zbd (pe (0, v.2)) = some (v.2, v.2) := by
    show some ((zI (zu v.2)).toInt, (zI (zu v.2)).toInt) = _
    rw [zI_zu hx]
  unfold zsw at h
  rw [eb] at h
  have h : (if v.2 < lo ∨ hi < v.2 then ztgt pc dd kk else if v.2 = v.2 ∧ lo ≤ v.2 ∧ v.2 ≤ hi then (match offs[(v.2 - lo).toNat]? with
    | some off => ztgt pc off kk
    | none => none) else none) = some o := h
  unfold ptsw
  by_cases c : v.2 < lo ∨ hi < v.2
  · rw [if_pos c] at h ⊢
    exact x_tgt h
  · rw [if_neg c] at h ⊢
    rw [if_pos ⟨rfl, by omega, by omega⟩] at h
    cases ho : offs[(v.2 - lo).toNat]? with
    | none =>
      rw [ho] at h
      cases h
    | some off =>
      rw [ho] at h
      exact x_tgt h
theorem x_lk {pc : Nat} {dd : Int} {ps : Array (Int × Int)} {v : pv} {kk : Nat → zO} {o} (hv : pok v) (h : zlk pc dd ps (pe v) kk = some o) : ∃ t, ptl pc (Op.lookupswitch.offset ps.toList dd v.2) = some t ∧ kk t = some o := by
  obtain ⟨t, x⟩ := v
  match t, hv, h with
  | 0, hv, h =>
    have hx : zIn x := hv
    have h : ztgt pc (Op.lookupswitch.offset ps.toList dd (zI (zu x)).toInt) kk = some o := h
    rw [zI_zu hx] at h
    exact x_tgt h
  | 1, _, h => exact absurd (show none = some o from h) (by intro q; cases q)
  | _ + 2, _, h => exact absurd (show none = some o from h) (by intro q; cases q)
/-! cells -/
theorem x_idx' {nn : Nat} {v : pv} {kk : Nat → zO} {o} (hp : pok v) (hn : nn < 100000) (hh : zidx nn (pe v) kk = some o) : ∃ mm : Nat, v.1 = 0 ∧ v.2 = (mm : Int) ∧ mm < nn ∧ kk mm = some o := by
  obtain ⟨mm, e, a, b⟩ := x_idx hp hn hh
  rw [e]
  exact ⟨mm, rfl, rfl, a, b⟩
theorem x_getf {v : pv} {o} (hx : XH E res n cd rest npc J Q C k) (hm : m < n) (hl : pokL ls) (hs : pokS (v :: st)) (hL : LR ls L) (hW : zW h H) (hg : gfOK a1 a2 = true) (g : zcell zNC h (pe v) (fun _ c => zwhen (Nat.beq c.1 a1) (zgo npc (peL ls) (zget c.2.2.2 a2 :: peS st) h)) = some o) (e : zout zM (zrun zM E.1 m) d cd rest npc als zNC E.2 h (some o) = some res) : k L ((ztg a1 a2, gv H v.2 a2) :: st) H := by
  obtain ⟨i, e1, e2, e3, e4⟩ := x_cell g
  obtain ⟨g1, g2⟩ := zwhen_inv e4
  obtain ⟨w1, w2, -, w4⟩ := hW.2.1 i e3
  have g1 := Nat.eq_of_beq_eq_true g1
  obtain ⟨q1, q2, q3⟩ := gfOK_at hg e3 (by rw [← w1]; exact g1)
  have ek : (zSh i).1 = a1 := by rw [← w1]; exact g1
  obtain ⟨-, -, w5⟩ := w4 (by rw [ek]; exact q1)
  obtain ⟨w6, w7⟩ := w5 a2 q3
  rw [ek] at w6 w7
  rw [w6] at g2
  rw [e2, gv_RF hW.2.2 (by omega) (by omega) (by omega)]
  exact x_push hx hm hl (pokS_cons.mp hs).2 w7 hL hW g2 e
theorem x_row {i : Nat} {mm : Nat} (hW : zW h H) (hi : i < zNC) (hk : 16 ≤ (zSh i).1 ∧ (zSh i).1 ≤ 18) (hm : mm < (zSh i).2.1) : zde (zdg (zget h i).2.2.1 mm) = pe (0, H i mm) ∧ zIn (H i mm) := by
  obtain ⟨-, -, w3, -⟩ := hW.2.1 i hi
  obtain ⟨w6, w7⟩ := w3 hk mm hm
  rw [w6, zde_pe]
  exact ⟨rfl, w7⟩
theorem x_ist {i : Nat} {v w : pv} {o} (hx : XH E res n cd rest npc J Q C k) (hm : m < n) (hl : pokL ls) (hs : pokS st) (hL : LR ls L) (hW : zW h H) (hi : i < zNC) (hk : 16 ≤ (zSh i).1 ∧ (zSh i).1 ≤ 18) (hv : pok v) (hw : pok w) (hw0 : w.1 = 0) (g : zist npc (peL ls) (peS st) h i (zget h i) (pe v) (pe w) = some o) (e : zout zM (zrun zM E.1 m) d cd rest npc als zNC E.2 h (some o) = some res) : 0 ≤ v.2 ∧ v.2 < (zSh i).2.1 ∧ k L st (pup H i v.2 w.2) := by
  have hlen := zSh_len_lt i hi
  obtain ⟨w1, w2, -, -⟩ := hW.2.1 i hi
  have g' := g
  unfold zist at g'
  rw [w2] at g'
  obtain ⟨mm, e1, e2, e3, -⟩ := x_idx' hv hlen g'
  have ev : v = (0, (mm : Int)) := by rw [pv0 e1, e2]
  have ew := pv0 hw0
  rw [ew] at hw
  obtain ⟨h2, q1, q2⟩ := zist_pe (npc := npc) (ls := ls) (st := st) hW hi hk e3 (x := w.2) hw
  rw [ev, ew, q2] at g
  rw [← g] at e
  rw [e2]
  exact ⟨by omega, by omega, x_nx hx hm hl hs hL q1 e⟩
theorem x_putf {v w : pv} {o} (hx : XH E res n cd rest npc J Q C k) (hm : m < n) (hl : pokL ls) (hs : pokS (v :: w :: st)) (hL : LR ls L) (hW : zW h H) (hg : pfOK a1 a2 = true) (g : zputf npc a1 a2 (peL ls) (peS st) zNC h (pe w) (pe v) = some o) (e : zout zM (zrun zM E.1 m) d cd rest npc als zNC E.2 h (some o) = some res) : k L st (pup H w.2 ((a2 % 64 : Nat) : Int) v.2) := by
  unfold zputf at g
  obtain ⟨i, e1, e2, e3, e4⟩ := x_cell g
  obtain ⟨g1, g2⟩ := zwhen_inv e4
  rw [Bool.and_eq_true] at g1
  obtain ⟨gk, gf⟩ := g1
  obtain ⟨w1, w2, -, w4⟩ := hW.2.1 i e3
  have gk := Nat.eq_of_beq_eq_true gk
  have ek : (zSh i).1 = a1 := by rw [← w1]; exact gk
  have hg0 := hg
  unfold pfOK at hg
  rw [Bool.and_eq_true, Bool.and_eq_true] at hg
  obtain ⟨⟨hg1, hg2⟩, hg3⟩ := hg
  obtain ⟨q1, q2, q3⟩ := gfOK_at hg1 e3 ek
  have hz := List.all_eq_true.mp hg2 i (List.mem_range.mpr e3)
  rw [ek, Nat.beq_refl] at hz
  obtain ⟨w5, w6, w7⟩ := w4 (by rw [ek]; exact q1)
  have hpv := (pokS_cons.mp hs).1
  have hnr : ¬ zrow (zSh i).1 := by rw [ek]; exact q1
  -- the value fits: its mark is the field's
  have hvt : pe v = pe (ztg a1 (a2 % 64), v.2) ∧ pok (ztg a1 (a2 % 64), v.2) := by
    have gf : zfit (a2 / 64) (pe v) = true := gf
    match hq : a2 / 64, gf, hg3 with
    | 0, gf, hg3 =>
      have t0 := Nat.eq_of_beq_eq_true hg3
      have tv := pv0 (pe_I' gf)
      rw [t0, ← tv]
      exact ⟨rfl, hpv⟩
    | 1, gf, hg3 =>
      have t0 := Nat.eq_of_beq_eq_true hg3
      have tv := pv1 (pe_L' gf)
      rw [t0, ← tv]
      exact ⟨rfl, hpv⟩
    | 2, gf, hg3 =>
      have t0 := Nat.eq_of_beq_eq_true hg3
      have tv : v = (0, v.2) := by
        obtain ⟨t, x⟩ := v
        match t, gf with
        | 0, _ => rfl
        | 1, gf => cases gf
        | _ + 2, gf => cases gf
      rw [t0, ← tv]
      exact ⟨rfl, hpv⟩
    | _ + 3, gf, hg3 =>
      have t0 := Nat.eq_of_beq_eq_true hg3
      obtain ⟨-, b2, b3⟩ := pe_R' gf
      rw [t0]
      exact ⟨b2, by show -2 ≤ v.2; omega⟩
  obtain ⟨hve, hvp⟩ := hvt
  rw [zset_eq, zset_eq] at g2
  rw [← g2] at e
  rw [e2]
  refine x_nx hx hm hl (pokS_cons.mp (pokS_cons.mp hs).2).2 hL ?_ e
  refine zW_put hW e3 (q := ((zget h i).1, (zget h i).2.1, (zget h i).2.2.1, zput (zget h i).2.2.2 (pe v) (a2 % 64))) ⟨w1, w2, fun q => absurd q hnr, fun _ => ⟨zput_full _ _ _ _ _ w5, w6, fun j hj => ?_⟩⟩ (fun c hc j => pup_other (fun q => hc (by omega))) (RF_pup hW.2.2 ⟨by omega, by omega, by omega, by rw [show ((i : Int)).toNat = i by omega]; omega⟩ (fun n' m' hn' e1' e2' => by
    have en : i = n' := by omega
    have em : m' = a2 % 64 := by omega
    subst en
    subst em
    match hq : zrt i (a2 % 64) with
    | none => rfl
    | some u =>
      have := (zrt_kind e3 hq).2 (by rw [ek]; exact q2)
      rw [ek] at this
      rw [this, hq] at hz
      cases hz))
  have hgz := zget_zput (pe v) (a2 % 64) j (zSh i).2.2 0 (zget h i).2.2.2 w5 (by omega) (by omega) (by omega) (by omega)
  show zget (zput (zget h i).2.2.2 (pe v) (a2 % 64)) j = _ ∧ _
  rw [hgz]
  by_cases ej : j = a2 % 64
  · rw [if_pos ej, ej, ek, pup_same]
    exact ⟨hve, hvp⟩
  · rw [if_neg ej, pup_other (fun q => ej (by omega))]
    exact w7 j hj
theorem x_aast {u v w : pv} {o} (hx : XH E res n cd rest npc J Q C k) (hm : m < n) (hl : pokL ls) (hs : pokS (w :: v :: u :: st)) (hL : LR ls L) (hW : zW h H) (hz : zrtL u.2.toNat = []) (g : zaast npc (peL ls) (peS st) zNC h (pe u) (pe v) (pe w) = some o) (e : zout zM (zrun zM E.1 m) d cd rest npc als zNC E.2 h (some o) = some res) : 0 ≤ v.2 ∧ v.2 < (zSh u.2.toNat).2.1 ∧ k L st (pup H u.2 v.2 w.2) := by
  unfold zaast at g
  obtain ⟨i, e1, e2, e3, e4⟩ := x_cell g
  obtain ⟨b, f1, f2, f3, f4⟩ := x_cell e4
  obtain ⟨g1, g2⟩ := zwhen_inv f4
  have g1 := Nat.eq_of_beq_eq_true g1
  obtain ⟨hw, hs1⟩ := pokS_cons.mp hs
  obtain ⟨hv, hs2⟩ := pokS_cons.mp hs1
  obtain ⟨-, hs3⟩ := pokS_cons.mp hs2
  obtain ⟨w1, w2, -, w4⟩ := hW.2.1 i e3
  obtain ⟨v1, -, -, -⟩ := hW.2.1 b f3
  have hlen := zSh_len_lt i e3
  unfold zast at g2
  rw [w2] at g2
  obtain ⟨mm, a1, a2', a3, a4⟩ := x_idx' hv hlen g2
  rw [e2] at hz
  have e0 : ((i : Int)).toNat = i := by omega
  rw [e0] at hz
  have hk20 : 20 ≤ (zSh i).1 := by
    rw [w1] at g1
    have hb : (zSh b).1 < 23 := by
      have hall : (List.range 622).all (fun c => Nat.blt (zSh c).1 23) = true := by decide +kernel
      exact Nat.blt_eq.mp (List.all_eq_true.mp hall b (List.mem_range.mpr f3))
    rw [v1] at g1
    by_cases c : 20 ≤ (zSh i).1
    · exact c
    · exfalso
      have : zcls (zSh i).1 = 99 := by
        match hq : (zSh i).1, c with
        | 20, c => omega
        | 21, c => omega
        | 22, c => omega
        | 0, _ => rfl
        | 1, _ => rfl
        | 2, _ => rfl
        | 3, _ => rfl
        | 4, _ => rfl
        | 5, _ => rfl
        | 6, _ => rfl
        | 7, _ => rfl
        | 8, _ => rfl
        | 9, _ => rfl
        | 10, _ => rfl
        | 11, _ => rfl
        | 12, _ => rfl
        | 13, _ => rfl
        | 14, _ => rfl
        | 15, _ => rfl
        | 16, _ => rfl
        | 17, _ => rfl
        | 18, _ => rfl
        | 19, _ => rfl
        | q + 23, c => omega
      omega
  have hnr : ¬ zrow (zSh i).1 := fun q => by have := q.2; omega
  obtain ⟨w5, w6, w7⟩ := w4 hnr
  rw [zset_eq, zset_eq] at a4
  rw [← a4] at e
  have hwe : pe w = pe (2, w.2) := by
    obtain ⟨t, x⟩ := w
    match t, f1 with
    | t + 2, _ => rfl
  have hwp : pok (2, w.2) := by show -2 ≤ w.2; omega
  rw [e2, e0, a2']
  refine ⟨by omega, by omega, x_nx hx hm hl hs3 hL ?_ e⟩
  refine zW_put hW e3 (q := ((zget h i).1, (zSh i).2.1, (zget h i).2.2.1, zput (zget h i).2.2.2 (pe w) mm)) ⟨w1, rfl, fun q => absurd q hnr, fun _ => ⟨zput_full _ _ _ _ _ w5, w6, fun j hj => ?_⟩⟩ (fun c hc j => pup_other (fun q => hc (by omega))) (RF_pup (c := (i : Int)) (i := (mm : Int)) (v := w.2) hW.2.2 ⟨by omega, by omega, by omega, by rw [e0]; omega⟩ (fun n' m' hn' e1' e2' => by
    have en : i = n' := by omega
    subst en
    unfold zrt
    rw [hz]
    rfl))
  have hgz := zget_zput (pe w) mm j (zSh i).2.2 0 (zget h i).2.2.2 w5 (by omega) (by omega) (by omega) (by omega)
  show zget (zput (zget h i).2.2.2 (pe w) mm) j = _ ∧ _
  rw [hgz]
  by_cases ej : j = mm
  · rw [if_pos ej, ej, ztg_19 _ _ (by omega), pup_same]
    exact ⟨hwe, hwp⟩
  · rw [if_neg ej, pup_other (fun q => ej (by omega))]
    exact w7 j hj
/-! calls, answers -/
theorem peS_take (n : Nat) (st : List pv) : peS (st.take n) = (peS st).take n := by unfold peS; rw [List.map_take]
theorem peS_drop (n : Nat) (st : List pv) : peS (st.drop n) = (peS st).drop n := by unfold peS; rw [List.map_drop]
theorem x_call {o} (hx : XH E res n cd rest npc J Q C k) (hm : m < n) (hl : pokL ls) (hs : pokS st) (hL : LR ls L) (hW : zW h H) (g : zcall npc a1 a2 (peS st) zNC h = some o) (e : zout zM (zrun zM E.1 m) d cd rest npc (peL ls) zNC E.2 h (some o) = some res) : a1 = 511 ∨ C a1 (st.take (a2 % 16)).reverse H (fun r H2 => k L (ppush r (st.drop (a2 % 16))) H2) := by
  unfold zcall at g
  obtain ⟨xs, rs, e1, e2, e3⟩ := ztk_inv g
  have ex : xs = peS (st.take (a2 % 16)) := by
    rw [peS_take, e1, List.take_append_of_le_length (by rw [e2]; exact Nat.le_refl _), List.take_of_length_le (by rw [e2]; exact Nat.le_refl _)]
  have er : rs = peS (st.drop (a2 % 16)) := by
    rw [peS_drop, e1, List.drop_append_of_le_length (by rw [e2]; exact Nat.le_refl _), List.drop_of_length_le (by rw [e2]; exact Nat.le_refl _)]
    rfl
  have ho : o = .inr (.inl (a1, xs.reverse ++ [], rs, npc)) := by
    cases hb : Nat.beq (Nat.div a2 (nat_lit 16)) (nat_lit 0) with
    | true =>
      rw [hb] at e3
      exact (Option.some.inj e3).symm
    | false =>
      rw [hb] at e3
      dsimp only at e3
      split at e3
      · obtain ⟨i, -, -, e4⟩ := zcell_inv e3
        obtain ⟨-, e5⟩ := zwhen_inv e4
        have e5 := (Option.some.inj e5).symm
        first
          | exact e5
          | (rename_i heq; rw [heq]; exact e5)
      · cases e3
  rw [ho, List.append_nil] at e
  have e : zinv zM (zrun zM E.1 m) d cd rest (peL ls) zNC E.2 h a1 xs.reverse rs npc = some res := e
  obtain ⟨d', rfl, q⟩ := zinv_inv e
  rcases q with ⟨q, -⟩ | ⟨-, oc, ini, cc, maxL, rt, cdj, v1, sz1, us1, h1, z1, z2, z3, z4, z5⟩
  · exact Or.inl q
  · refine Or.inr (hx.2.2.2 m hm _ _ _ _ ⟨(v1, sz1, us1, h1), ⟨d', h, oc, ini, cc, maxL, rt, cdj, z1, ?_, hW, ?_⟩, ?_⟩)
    · exact fun p hp => hs p (List.take_subset _ _ (List.mem_reverse.mp hp))
    · rw [ex] at z4
      have : peS (st.take (a2 % 16)).reverse = (peS (st.take (a2 % 16))).reverse := by unfold peS; rw [List.map_reverse]
      rw [this]
      exact z4
    · rintro r H2 ⟨h2, r1, r2, r3⟩
      have r1 : (v1, sz1, us1, h1) = (r.map pe, zNC, E.2, h2) := r1
      cases r1
      refine hx.1 m hm _ _ _ ⟨d' + 1, ls, _, hl, ?_, hL, r2, ?_⟩
      · have hd : pokS (st.drop (a2 % 16)) := fun p hp => hs p (List.drop_subset _ _ hp)
        cases r with
        | none => exact hd
        | some v => exact pokS_cons.mpr ⟨r3 v rfl, hd⟩
      · rw [er] at z5
        cases r with
        | none => exact z5
        | some v => exact z5
theorem x_ret {q : zV → Bool} {o} (hx : XH E res n cd rest npc J Q C k) (hs : pokS st) (hW : zW h H) (g : zret q (peS st) = some o) (e : zout zM (zrun zM E.1 m) d cd rest npc als zNC E.2 h (some o) = some res) : k1 st (fun v _ => Q (some v) H) := by
  obtain ⟨a, e1, -, e3⟩ := zret_inv g
  obtain ⟨v, t, rfl, rfl, e4⟩ := peS_c1 e1
  rw [e3] at e
  have e : some (some (pe v), zNC, E.2, h) = some res := e
  exact hx.2.2.1 (some v) H ⟨h, (Option.some.inj e).symm, hW, fun p hp => by cases hp; exact (pokS_cons.mp hs).1⟩
end XS
theorem x_none {G : zG} {d : Nat} {cd : zK} {rest : List zQ} {p npc a1 a2 pc : Nat} {ls : zLs} {st : List zV} {sz us : Nat} {h : zH} {res : xR} (n : Nat) : ¬ zrun zM G n d cd ((fun k => k p yo_none npc a1 a2) :: rest) pc ls st sz us h = some res := by
  intro hr
  obtain ⟨m, o, -, -, e, -⟩ := x_at (f := so_none) (fun _ _ _ _ _ _ _ _ _ _ _ _ _ _ _ => rfl) hr
  cases e
def aOK (op a1 : Nat) : Prop := (op < 12 → a1 < 4294967296) ∧ (op < 14 → (a1 : Int) < 18446744073709551616)
section XT
variable {E : xE} {res : xR} {n : Nat} {cd : zK} {rest : List zQ} {p npc a1 a2 pc : Nat} {L : List Int} {st : List pv} {H : PH} {J : Nat → List Int → List pv → PH → Prop} {Q : Option pv → PH → Prop} {C : Nat → List pv → PH → (Option pv → PH → Prop) → Prop} {k : List Int → List pv → PH → Prop}
set_option maxHeartbeats 4000000 in
theorem x_step (op : Nat) (hx : XH E res n cd rest npc J Q C k) (ha : aOK op a1) (hr : RUN E res n cd ((fun k => k p (zop op) npc a1 a2) :: rest) pc L st H) : p = pc ∧ xI J Q C p op npc a1 a2 L st H k := by
  obtain ⟨d, ls, h, hl, hs, hL, hW, hr⟩ := hr
  match op, ha, hr with
  | 0, ha, hr =>
    obtain ⟨m, o, rfl, rfl, e1, e2⟩ := x_at (f := so_aload) yk_aload hr
    refine ⟨rfl, ?_⟩
    obtain ⟨v, g1, g2, g3⟩ := x_ld e1
    obtain ⟨-, ep, c0⟩ := pe_R' g2
    rw [ep, ← LR_get hL g1] at g3
    exact x_push hx (Nat.lt_succ_self _) hl hs (show -2 ≤ xlg L a1 by rw [LR_get hL g1]; omega) hL hW g3 e2
  | 1, ha, hr =>
    obtain ⟨m, o, rfl, rfl, e1, e2⟩ := x_at (f := so_iload) yk_iload hr
    refine ⟨rfl, ?_⟩
    obtain ⟨v, g1, g2, g3⟩ := x_ld e1
    have ev := pv0 (pe_I' g2)
    have hp := pget_ok hl g1
    rw [ev, ← LR_get hL g1] at g3 hp
    exact x_push hx (Nat.lt_succ_self _) hl hs hp hL hW g3 e2
  | 2, ha, hr =>
    obtain ⟨m, o, rfl, rfl, e1, e2⟩ := x_at (f := so_lload) (fun _ _ _ _ _ _ _ _ _ _ _ _ _ _ _ => rfl) hr
    refine ⟨rfl, ?_⟩
    obtain ⟨v, g1, g2, g3⟩ := x_ld e1
    have ev := pv1 (pe_L' g2)
    have hp := pget_ok hl g1
    rw [ev, ← LR_get hL g1] at g3 hp
    exact x_push hx (Nat.lt_succ_self _) hl hs hp hL hW g3 e2
  | 3, ha, hr =>
    obtain ⟨m, o, rfl, rfl, e1, e2⟩ := x_at (f := so_istore) yk_istore hr
    refine ⟨rfl, ?_⟩
    obtain ⟨v, t, rfl, g⟩ := x_z1 e1
    obtain ⟨-, g⟩ := zwhen_inv g
    exact x_set hx (Nat.lt_succ_self _) hl (pokS_cons.mp hs).2 (pokS_cons.mp hs).1 hL hW g e2
  | 4, ha, hr =>
    obtain ⟨m, o, rfl, rfl, e1, e2⟩ := x_at (f := so_astore) (fun _ _ _ _ _ _ _ _ _ _ _ _ _ _ _ => rfl) hr
    refine ⟨rfl, ?_⟩
    obtain ⟨v, t, rfl, g⟩ := x_z1 e1
    obtain ⟨-, g⟩ := zwhen_inv g
    exact x_set hx (Nat.lt_succ_self _) hl (pokS_cons.mp hs).2 (pokS_cons.mp hs).1 hL hW g e2
  | 5, ha, hr =>
    obtain ⟨m, o, rfl, rfl, e1, e2⟩ := x_at (f := so_lstore) (fun _ _ _ _ _ _ _ _ _ _ _ _ _ _ _ => rfl) hr
    refine ⟨rfl, ?_⟩
    obtain ⟨v, t, rfl, g⟩ := x_z1 e1
    obtain ⟨-, g⟩ := zwhen_inv g
    exact x_set hx (Nat.lt_succ_self _) hl (pokS_cons.mp hs).2 (pokS_cons.mp hs).1 hL hW g e2
  | 6, ha, hr =>
    obtain ⟨m, o, rfl, rfl, e1, e2⟩ := x_at (f := so_iinc) yk_iinc hr
    refine ⟨rfl, ?_⟩
    obtain ⟨v, g1, g2, g3⟩ := x_ld e1
    have ev := pv0 (pe_I' g2)
    rw [ev] at g3
    have g3 : zk32 (zu v.2 + a2) (fun v => zstore (peL ls) a1 false v (fun ls' => zgo npc ls' (peS st) h)) = some o := g3
    rw [zk32_eq, zu_addc, ← LR_get hL g1] at g3
    exact x_set (v := (0, zw (xlg L a1 + (a2 : Int)))) hx (Nat.lt_succ_self _) hl hs (zw_in _) hL hW g3 e2
  | 7, ha, hr =>
    obtain ⟨m, o, rfl, rfl, e1, e2⟩ := x_at (f := so_iconst) yk_iconst hr
    refine ⟨rfl, ?_⟩
    have ha := ha.1 (by decide)
    have e1 : zgo npc (peL ls) (zi a1 :: peS st) h = some o := e1
    rw [← pe_k ha] at e1
    exact x_push hx (Nat.lt_succ_self _) hl hs (zw_in _) hL hW e1 e2
  | 8, ha, hr =>
    obtain ⟨m, o, rfl, rfl, e1, e2⟩ := x_at (f := so_bipush) yk_bipush hr
    refine ⟨rfl, ?_⟩
    have ha := ha.1 (by decide)
    have e1 : zgo npc (peL ls) (zi a1 :: peS st) h = some o := e1
    rw [← pe_k ha] at e1
    exact x_push hx (Nat.lt_succ_self _) hl hs (zw_in _) hL hW e1 e2
  | 9, ha, hr =>
    obtain ⟨m, o, rfl, rfl, e1, e2⟩ := x_at (f := so_sipush) yk_sipush hr
    refine ⟨rfl, ?_⟩
    have ha := ha.1 (by decide)
    have e1 : zgo npc (peL ls) (zi a1 :: peS st) h = some o := e1
    rw [← pe_k ha] at e1
    exact x_push hx (Nat.lt_succ_self _) hl hs (zw_in _) hL hW e1 e2
  | 10, ha, hr =>
    obtain ⟨m, o, rfl, rfl, e1, e2⟩ := x_at (f := so_ldc) (fun _ _ _ _ _ _ _ _ _ _ _ _ _ _ _ => rfl) hr
    refine ⟨rfl, ?_⟩
    have ha := ha.1 (by decide)
    have e1 : zgo npc (peL ls) (zi a1 :: peS st) h = some o := e1
    rw [← pe_k ha] at e1
    exact x_push hx (Nat.lt_succ_self _) hl hs (zw_in _) hL hW e1 e2
  | 11, ha, hr =>
    obtain ⟨m, o, rfl, rfl, e1, e2⟩ := x_at (f := so_ldc_w) (fun _ _ _ _ _ _ _ _ _ _ _ _ _ _ _ => rfl) hr
    refine ⟨rfl, ?_⟩
    have ha := ha.1 (by decide)
    have e1 : zgo npc (peL ls) (zi a1 :: peS st) h = some o := e1
    rw [← pe_k ha] at e1
    exact x_push hx (Nat.lt_succ_self _) hl hs (zw_in _) hL hW e1 e2
  | 12, ha, hr =>
    obtain ⟨m, o, rfl, rfl, e1, e2⟩ := x_at (f := so_lconst) (fun _ _ _ _ _ _ _ _ _ _ _ _ _ _ _ => rfl) hr
    refine ⟨rfl, ?_⟩
    have ha := ha.2 (by decide)
    exact x_push (v := (1, (a1 : Int))) hx (Nat.lt_succ_self _) hl hs (pok_l (by omega) ha) hL hW e1 e2
  | 13, ha, hr =>
    obtain ⟨m, o, rfl, rfl, e1, e2⟩ := x_at (f := so_ldc2_w) (fun _ _ _ _ _ _ _ _ _ _ _ _ _ _ _ => rfl) hr
    refine ⟨rfl, ?_⟩
    have ha := ha.2 (by decide)
    exact x_push (v := (1, (a1 : Int))) hx (Nat.lt_succ_self _) hl hs (pok_l (by omega) ha) hL hW e1 e2
  | 14, ha, hr =>
    obtain ⟨m, o, rfl, rfl, e1, e2⟩ := x_at (f := so_iadd) (fun _ _ _ _ _ _ _ _ _ _ _ _ _ _ _ => rfl) hr
    refine ⟨rfl, ?_⟩
    obtain ⟨v, w, t, rfl, g⟩ := x_z2 e1
    obtain ⟨-, -, g⟩ := x_add g
    exact x_push hx (Nat.lt_succ_self _) hl (pokS_cons.mp (pokS_cons.mp hs).2).2 (zw_in _) hL hW g e2
  | 15, ha, hr =>
    obtain ⟨m, o, rfl, rfl, e1, e2⟩ := x_at (f := so_isub) (fun _ _ _ _ _ _ _ _ _ _ _ _ _ _ _ => rfl) hr
    refine ⟨rfl, ?_⟩
    obtain ⟨v, w, t, rfl, g⟩ := x_z2 e1
    obtain ⟨-, -, g⟩ := x_sub g
    exact x_push hx (Nat.lt_succ_self _) hl (pokS_cons.mp (pokS_cons.mp hs).2).2 (zw_in _) hL hW g e2
  | 16, ha, hr =>
    obtain ⟨m, o, rfl, rfl, e1, e2⟩ := x_at (f := so_imul) (fun _ _ _ _ _ _ _ _ _ _ _ _ _ _ _ => rfl) hr
    refine ⟨rfl, ?_⟩
    obtain ⟨v, w, t, rfl, g⟩ := x_z2 e1
    obtain ⟨-, -, g⟩ := x_mul g
    exact x_push hx (Nat.lt_succ_self _) hl (pokS_cons.mp (pokS_cons.mp hs).2).2 (zw_in _) hL hW g e2
  | 17, ha, hr =>
    obtain ⟨m, o, rfl, rfl, e1, e2⟩ := x_at (f := so_idiv) (fun _ _ _ _ _ _ _ _ _ _ _ _ _ _ _ => rfl) hr
    refine ⟨rfl, ?_⟩
    obtain ⟨v, w, t, rfl, g⟩ := x_z2 e1
    obtain ⟨-, -, g⟩ := x_dv g
    exact x_push hx (Nat.lt_succ_self _) hl (pokS_cons.mp (pokS_cons.mp hs).2).2 (zIn_toInt _) hL hW g e2
  | 18, ha, hr =>
    obtain ⟨m, o, rfl, rfl, e1, e2⟩ := x_at (f := so_irem) (fun _ _ _ _ _ _ _ _ _ _ _ _ _ _ _ => rfl) hr
    refine ⟨rfl, ?_⟩
    obtain ⟨v, w, t, rfl, g⟩ := x_z2 e1
    obtain ⟨-, -, g⟩ := x_dv g
    exact x_push hx (Nat.lt_succ_self _) hl (pokS_cons.mp (pokS_cons.mp hs).2).2 (zIn_toInt _) hL hW g e2
  | 19, ha, hr =>
    obtain ⟨m, o, rfl, rfl, e1, e2⟩ := x_at (f := so_iand) (fun _ _ _ _ _ _ _ _ _ _ _ _ _ _ _ => rfl) hr
    refine ⟨rfl, ?_⟩
    obtain ⟨v, w, t, rfl, g⟩ := x_z2 e1
    obtain ⟨-, -, g⟩ := x_and g
    exact x_push hx (Nat.lt_succ_self _) hl (pokS_cons.mp (pokS_cons.mp hs).2).2 (zIn_toInt _) hL hW g e2
  | 20, ha, hr =>
    obtain ⟨m, o, rfl, rfl, e1, e2⟩ := x_at (f := so_ior) (fun _ _ _ _ _ _ _ _ _ _ _ _ _ _ _ => rfl) hr
    refine ⟨rfl, ?_⟩
    obtain ⟨v, w, t, rfl, g⟩ := x_z2 e1
    obtain ⟨-, -, g⟩ := x_b2 g
    exact x_push hx (Nat.lt_succ_self _) hl (pokS_cons.mp (pokS_cons.mp hs).2).2 (zIn_toInt _) hL hW g e2
  | 21, ha, hr =>
    obtain ⟨m, o, rfl, rfl, e1, e2⟩ := x_at (f := so_ixor) (fun _ _ _ _ _ _ _ _ _ _ _ _ _ _ _ => rfl) hr
    refine ⟨rfl, ?_⟩
    obtain ⟨v, w, t, rfl, g⟩ := x_z2 e1
    obtain ⟨-, -, g⟩ := x_b2 g
    exact x_push hx (Nat.lt_succ_self _) hl (pokS_cons.mp (pokS_cons.mp hs).2).2 (zIn_toInt _) hL hW g e2
  | 22, ha, hr =>
    obtain ⟨m, o, rfl, rfl, e1, e2⟩ := x_at (f := so_ishl) (fun _ _ _ _ _ _ _ _ _ _ _ _ _ _ _ => rfl) hr
    refine ⟨rfl, ?_⟩
    obtain ⟨v, w, t, rfl, g⟩ := x_z2 e1
    obtain ⟨-, -, g⟩ := x_b2 g
    exact x_push hx (Nat.lt_succ_self _) hl (pokS_cons.mp (pokS_cons.mp hs).2).2 (zIn_toInt _) hL hW g e2
  | 23, ha, hr =>
    obtain ⟨m, o, rfl, rfl, e1, e2⟩ := x_at (f := so_ishr) (fun _ _ _ _ _ _ _ _ _ _ _ _ _ _ _ => rfl) hr
    refine ⟨rfl, ?_⟩
    obtain ⟨v, w, t, rfl, g⟩ := x_z2 e1
    obtain ⟨-, -, g⟩ := x_b2 g
    exact x_push hx (Nat.lt_succ_self _) hl (pokS_cons.mp (pokS_cons.mp hs).2).2 (zIn_toInt _) hL hW g e2
  | 24, ha, hr =>
    obtain ⟨m, o, rfl, rfl, e1, e2⟩ := x_at (f := so_iushr) (fun _ _ _ _ _ _ _ _ _ _ _ _ _ _ _ => rfl) hr
    refine ⟨rfl, ?_⟩
    obtain ⟨v, w, t, rfl, g⟩ := x_z2 e1
    obtain ⟨-, -, g⟩ := x_b2 g
    exact x_push hx (Nat.lt_succ_self _) hl (pokS_cons.mp (pokS_cons.mp hs).2).2 (zIn_toInt _) hL hW g e2
  | 25, ha, hr =>
    obtain ⟨m, o, rfl, rfl, e1, e2⟩ := x_at (f := so_ineg) (fun _ _ _ _ _ _ _ _ _ _ _ _ _ _ _ => rfl) hr
    refine ⟨rfl, ?_⟩
    obtain ⟨v, t, rfl, g⟩ := x_z1 e1
    obtain ⟨-, g⟩ := x_u1 g
    exact x_push hx (Nat.lt_succ_self _) hl (pokS_cons.mp hs).2 (zIn_toInt _) hL hW g e2
  | 26, ha, hr =>
    obtain ⟨m, o, rfl, rfl, e1, e2⟩ := x_at (f := so_i2b) (fun _ _ _ _ _ _ _ _ _ _ _ _ _ _ _ => rfl) hr
    refine ⟨rfl, ?_⟩
    obtain ⟨v, t, rfl, g⟩ := x_z1 e1
    obtain ⟨-, g⟩ := x_u1 g
    exact x_push hx (Nat.lt_succ_self _) hl (pokS_cons.mp hs).2 (zIn_toInt _) hL hW g e2
  | 27, ha, hr =>
    obtain ⟨m, o, rfl, rfl, e1, e2⟩ := x_at (f := so_i2l) (fun _ _ _ _ _ _ _ _ _ _ _ _ _ _ _ => rfl) hr
    refine ⟨rfl, ?_⟩
    obtain ⟨v, t, rfl, g⟩ := x_z1 e1
    obtain ⟨-, g⟩ := x_int g
    rw [zkl_pe] at g
    exact x_push (v := (1, qil v.2)) hx (Nat.lt_succ_self _) hl (pokS_cons.mp hs).2 (pok_l (Int.natCast_nonneg _) (zU6_lt _)) hL hW g e2
  | 28, ha, hr =>
    obtain ⟨m, o, rfl, rfl, e1, e2⟩ := x_at (f := so_l2i) (fun _ _ _ _ _ _ _ _ _ _ _ _ _ _ _ => rfl) hr
    refine ⟨rfl, ?_⟩
    obtain ⟨v, t, rfl, g⟩ := x_z1 e1
    obtain ⟨-, g⟩ := x_lng g
    rw [zki_pe] at g
    exact x_push (v := (0, qli v.2)) hx (Nat.lt_succ_self _) hl (pokS_cons.mp hs).2 (zIn_toInt _) hL hW g e2
  | 29, ha, hr =>
    obtain ⟨m, o, rfl, rfl, e1, e2⟩ := x_at (f := so_ladd) (fun _ _ _ _ _ _ _ _ _ _ _ _ _ _ _ => rfl) hr
    refine ⟨rfl, ?_⟩
    obtain ⟨v, w, t, rfl, g⟩ := x_z2 e1
    obtain ⟨-, g⟩ := x_lng g
    obtain ⟨-, g⟩ := x_lng g
    rw [zkl_pe] at g
    exact x_push (v := (1, qladd v.2 w.2)) hx (Nat.lt_succ_self _) hl (pokS_cons.mp (pokS_cons.mp hs).2).2 (pok_l (Int.natCast_nonneg _) (zU6_lt _)) hL hW g e2
  | 30, ha, hr =>
    obtain ⟨m, o, rfl, rfl, e1, e2⟩ := x_at (f := so_lshl) (fun _ _ _ _ _ _ _ _ _ _ _ _ _ _ _ => rfl) hr
    refine ⟨rfl, ?_⟩
    obtain ⟨v, w, t, rfl, g⟩ := x_z2 e1
    obtain ⟨-, g⟩ := x_lng g
    obtain ⟨-, g⟩ := x_int g
    rw [zkl_pe] at g
    exact x_push (v := (1, qlshl v.2 w.2)) hx (Nat.lt_succ_self _) hl (pokS_cons.mp (pokS_cons.mp hs).2).2 (pok_l (Int.natCast_nonneg _) (zU6_lt _)) hL hW g e2
  | 31, ha, hr =>
    obtain ⟨m, o, rfl, rfl, e1, e2⟩ := x_at (f := so_lushr) (fun _ _ _ _ _ _ _ _ _ _ _ _ _ _ _ => rfl) hr
    refine ⟨rfl, ?_⟩
    obtain ⟨v, w, t, rfl, g⟩ := x_z2 e1
    obtain ⟨-, g⟩ := x_lng g
    obtain ⟨-, g⟩ := x_int g
    rw [zkl_pe] at g
    exact x_push (v := (1, qlushr v.2 w.2)) hx (Nat.lt_succ_self _) hl (pokS_cons.mp (pokS_cons.mp hs).2).2 (pok_l (Int.natCast_nonneg _) (zU6_lt _)) hL hW g e2
  | 32, ha, hr =>
    obtain ⟨m, o, rfl, rfl, e1, e2⟩ := x_at (f := so_lcmp) (fun _ _ _ _ _ _ _ _ _ _ _ _ _ _ _ => rfl) hr
    refine ⟨rfl, ?_⟩
    obtain ⟨v, w, t, rfl, g⟩ := x_z2 e1
    obtain ⟨-, g⟩ := x_lng g
    obtain ⟨-, g⟩ := x_lng g
    rw [zki_pe] at g
    exact x_push (v := (0, qlcmp v.2 w.2)) hx (Nat.lt_succ_self _) hl (pokS_cons.mp (pokS_cons.mp hs).2).2 (zIn_toInt _) hL hW g e2
  | 33, ha, hr =>
    obtain ⟨m, o, rfl, rfl, e1, e2⟩ := x_at (f := so_dup) (fun _ _ _ _ _ _ _ _ _ _ _ _ _ _ _ => rfl) hr
    refine ⟨rfl, ?_⟩
    obtain ⟨v, t, rfl, g⟩ := x_z1 e1
    obtain ⟨-, g⟩ := zwhen_inv g
    exact x_push (st := v :: t) hx (Nat.lt_succ_self _) hl hs (pokS_cons.mp hs).1 hL hW g e2
  | 34, ha, hr =>
    obtain ⟨m, o, rfl, rfl, e1, e2⟩ := x_at (f := so_dup2) (fun _ _ _ _ _ _ _ _ _ _ _ _ _ _ _ => rfl) hr
    refine ⟨rfl, ?_⟩
    obtain ⟨v, w, t, rfl, g⟩ := x_z2 e1
    obtain ⟨-, g⟩ := zwhen_inv g
    exact x_push (st := v :: w :: v :: t) hx (Nat.lt_succ_self _) hl (pokS_cons.mpr ⟨(pokS_cons.mp (pokS_cons.mp hs).2).1, hs⟩) (pokS_cons.mp hs).1 hL hW g e2
  | 35, ha, hr =>
    obtain ⟨m, o, rfl, rfl, e1, e2⟩ := x_at (f := so_pop) (fun _ _ _ _ _ _ _ _ _ _ _ _ _ _ _ => rfl) hr
    refine ⟨rfl, ?_⟩
    obtain ⟨v, t, rfl, g⟩ := x_z1 e1
    obtain ⟨-, g⟩ := zwhen_inv g
    rw [← g] at e2
    exact x_nx hx (Nat.lt_succ_self _) hl (pokS_cons.mp hs).2 hL hW e2
  | 36, ha, hr =>
    obtain ⟨m, o, rfl, rfl, e1, e2⟩ := x_at (f := so_goto) yk_goto hr
    refine ⟨rfl, ?_⟩
    rw [← e1] at e2
    exact x_go hx (Nat.lt_succ_self _) hl hs hL hW e2
  | 37, ha, hr =>
    obtain ⟨m, o, rfl, rfl, e1, e2⟩ := x_at (f := so_ifCond_eq) yk_cond_eq hr
    refine ⟨rfl, ?_⟩
    obtain ⟨v, t, rfl, g⟩ := x_z1 e1
    exact (x_cond (c := .eq) hx (Nat.lt_succ_self _) hl hs hL hW g e2).imp (fun q => ⟨q.1, q.2⟩) (fun q => ⟨(fun q => q) q.1, q.2⟩)
  | 43, ha, hr =>
    obtain ⟨m, o, rfl, rfl, e1, e2⟩ := x_at (f := so_if_icmp_eq) yk_icmp_eq hr
    refine ⟨rfl, ?_⟩
    obtain ⟨v, w, t, rfl, g⟩ := x_z2 e1
    exact (x_icmp (c := .eq) hx (Nat.lt_succ_self _) hl hs hL hW g e2).imp (fun q => ⟨q.1, q.2⟩) (fun q => ⟨(fun q => q) q.1, q.2⟩)
  | 38, ha, hr =>
    obtain ⟨m, o, rfl, rfl, e1, e2⟩ := x_at (f := so_ifCond_ne) yk_cond_ne hr
    refine ⟨rfl, ?_⟩
    obtain ⟨v, t, rfl, g⟩ := x_z1 e1
    exact (x_cond (c := .ne) hx (Nat.lt_succ_self _) hl hs hL hW g e2).imp (fun q => ⟨q.1, q.2⟩) (fun q => ⟨(fun q => Decidable.not_not.mp q) q.1, q.2⟩)
  | 44, ha, hr =>
    obtain ⟨m, o, rfl, rfl, e1, e2⟩ := x_at (f := so_if_icmp_ne) yk_icmp_ne hr
    refine ⟨rfl, ?_⟩
    obtain ⟨v, w, t, rfl, g⟩ := x_z2 e1
    exact (x_icmp (c := .ne) hx (Nat.lt_succ_self _) hl hs hL hW g e2).imp (fun q => ⟨q.1, q.2⟩) (fun q => ⟨(fun q => Decidable.not_not.mp q) q.1, q.2⟩)
  | 39, ha, hr =>
    obtain ⟨m, o, rfl, rfl, e1, e2⟩ := x_at (f := so_ifCond_lt) yk_cond_lt hr
    refine ⟨rfl, ?_⟩
    obtain ⟨v, t, rfl, g⟩ := x_z1 e1
    exact (x_cond (c := .lt) hx (Nat.lt_succ_self _) hl hs hL hW g e2).imp (fun q => ⟨q.1, q.2⟩) (fun q => ⟨(fun q => Int.not_lt.mp q) q.1, q.2⟩)
  | 45, ha, hr =>
    obtain ⟨m, o, rfl, rfl, e1, e2⟩ := x_at (f := so_if_icmp_lt) yk_icmp_lt hr
    refine ⟨rfl, ?_⟩
    obtain ⟨v, w, t, rfl, g⟩ := x_z2 e1
    exact (x_icmp (c := .lt) hx (Nat.lt_succ_self _) hl hs hL hW g e2).imp (fun q => ⟨q.1, q.2⟩) (fun q => ⟨(fun q => Int.not_lt.mp q) q.1, q.2⟩)
  | 40, ha, hr =>
    obtain ⟨m, o, rfl, rfl, e1, e2⟩ := x_at (f := so_ifCond_ge) yk_cond_ge hr
    refine ⟨rfl, ?_⟩
    obtain ⟨v, t, rfl, g⟩ := x_z1 e1
    exact (x_cond (c := .ge) hx (Nat.lt_succ_self _) hl hs hL hW g e2).imp (fun q => ⟨q.1, q.2⟩) (fun q => ⟨(fun q => Int.not_le.mp q) q.1, q.2⟩)
  | 46, ha, hr =>
    obtain ⟨m, o, rfl, rfl, e1, e2⟩ := x_at (f := so_if_icmp_ge) yk_icmp_ge hr
    refine ⟨rfl, ?_⟩
    obtain ⟨v, w, t, rfl, g⟩ := x_z2 e1
    exact (x_icmp (c := .ge) hx (Nat.lt_succ_self _) hl hs hL hW g e2).imp (fun q => ⟨q.1, q.2⟩) (fun q => ⟨(fun q => Int.not_le.mp q) q.1, q.2⟩)
  | 41, ha, hr =>
    obtain ⟨m, o, rfl, rfl, e1, e2⟩ := x_at (f := so_ifCond_gt) yk_cond_gt hr
    refine ⟨rfl, ?_⟩
    obtain ⟨v, t, rfl, g⟩ := x_z1 e1
    exact (x_cond (c := .gt) hx (Nat.lt_succ_self _) hl hs hL hW g e2).imp (fun q => ⟨q.1, q.2⟩) (fun q => ⟨(fun q => Int.not_lt.mp q) q.1, q.2⟩)
  | 47, ha, hr =>
    obtain ⟨m, o, rfl, rfl, e1, e2⟩ := x_at (f := so_if_icmp_gt) yk_icmp_gt hr
    refine ⟨rfl, ?_⟩
    obtain ⟨v, w, t, rfl, g⟩ := x_z2 e1
    exact (x_icmp (c := .gt) hx (Nat.lt_succ_self _) hl hs hL hW g e2).imp (fun q => ⟨q.1, q.2⟩) (fun q => ⟨(fun q => Int.not_lt.mp q) q.1, q.2⟩)
  | 42, ha, hr =>
    obtain ⟨m, o, rfl, rfl, e1, e2⟩ := x_at (f := so_ifCond_le) yk_cond_le hr
    refine ⟨rfl, ?_⟩
    obtain ⟨v, t, rfl, g⟩ := x_z1 e1
    exact (x_cond (c := .le) hx (Nat.lt_succ_self _) hl hs hL hW g e2).imp (fun q => ⟨q.1, q.2⟩) (fun q => ⟨(fun q => Int.not_le.mp q) q.1, q.2⟩)
  | 48, ha, hr =>
    obtain ⟨m, o, rfl, rfl, e1, e2⟩ := x_at (f := so_if_icmp_le) yk_icmp_le hr
    refine ⟨rfl, ?_⟩
    obtain ⟨v, w, t, rfl, g⟩ := x_z2 e1
    exact (x_icmp (c := .le) hx (Nat.lt_succ_self _) hl hs hL hW g e2).imp (fun q => ⟨q.1, q.2⟩) (fun q => ⟨(fun q => Int.not_le.mp q) q.1, q.2⟩)
  | 49, ha, hr =>
    obtain ⟨m, o, rfl, rfl, e1, e2⟩ := x_at (f := so_getfield) yk_getfield hr
    refine ⟨rfl, ?_⟩
    intro hg
    obtain ⟨v, t, rfl, g⟩ := x_z1 e1
    exact x_getf hx (Nat.lt_succ_self _) hl hs hL hW hg g e2
  | 50, ha, hr =>
    obtain ⟨m, o, rfl, rfl, e1, e2⟩ := x_at (f := so_putfield) (fun _ _ _ _ _ _ _ _ _ _ _ _ _ _ _ => rfl) hr
    refine ⟨rfl, ?_⟩
    intro hg
    obtain ⟨w, v, t, rfl, g⟩ := x_z2 e1
    exact x_putf hx (Nat.lt_succ_self _) hl hs hL hW hg g e2
  | 51, ha, hr =>
    obtain ⟨m, o, rfl, rfl, e1, e2⟩ := x_at (f := so_iaload) yk_iaload hr
    refine ⟨rfl, ?_⟩
    obtain ⟨v, w, t, rfl, g⟩ := x_z2 e1
    intro hc
    have hc : 0 ≤ v.2 := hc
    obtain ⟨hw, hs1⟩ := pokS_cons.mp hs
    obtain ⟨hv, hs2⟩ := pokS_cons.mp hs1
    have g2 : zcell zNC h (pe v) (fun _ c => zwhen (Nat.beq c.1 (nat_lit 16)) (zidx c.2.1 (pe w) (fun u => zkde (zdg c.2.2.1 u) (fun a => zgo npc (peL ls) (a :: peS t) h)))) = some o := by
      obtain ⟨tg, x⟩ := v
      match tg, g, hc with
      | 0, g, _ => exact g
      | 1, g, _ => exact g
      | tg + 2, g, hc =>
        have hc : 0 ≤ x := hc
        have ex : pe (tg + 2, x) = zr (x.toNat + 2) := by
          show zr (x + 2).toNat = _
          rw [show (x + 2).toNat = x.toNat + 2 by omega]
        rw [ex] at g ⊢
        exact g
    obtain ⟨i, -, q2, q3, q4⟩ := x_cell g2
    obtain ⟨q5, q6⟩ := zwhen_inv q4
    have q5 : (zget h i).1 = 16 := Nat.eq_of_beq_eq_true q5
    obtain ⟨w1, w2, -, -⟩ := hW.2.1 i q3
    have hlen := zSh_len_lt i q3
    rw [w2] at q6
    obtain ⟨mm, -, r2, r3, r4⟩ := x_idx' hw hlen q6
    obtain ⟨s1, s2⟩ := x_row hW q3 (by rw [← w1, q5]; exact ⟨by omega, by omega⟩) r3
    rw [zkde_eq, s1] at r4
    show k L ((0, H v.2 w.2) :: t) H
    rw [r2, q2]
    exact x_push hx (Nat.lt_succ_self _) hl hs2 s2 hL hW r4 e2
  | 52, ha, hr =>
    obtain ⟨m, o, rfl, rfl, e1, e2⟩ := x_at (f := so_iastore) (fun _ _ _ _ _ _ _ _ _ _ _ _ _ _ _ => rfl) hr
    refine ⟨rfl, ?_⟩
    obtain ⟨u, v, w, t, rfl, g⟩ := x_z3 e1
    obtain ⟨hw, hs1⟩ := pokS_cons.mp hs
    obtain ⟨hv, hs2⟩ := pokS_cons.mp hs1
    obtain ⟨hu, hs3⟩ := pokS_cons.mp hs2
    obtain ⟨i, -, q2, q3, q4⟩ := x_cell g
    obtain ⟨q5, q6⟩ := zwhen_inv q4
    rw [Bool.and_eq_true] at q5
    have q7 : (zget h i).1 = 16 := Nat.eq_of_beq_eq_true q5.1
    obtain ⟨w1, w2, -, -⟩ := hW.2.1 i q3
    show k L t (pup H u.2 v.2 w.2)
    rw [q2]
    exact (x_ist hx (Nat.lt_succ_self _) hl hs3 hL hW q3 (by rw [← w1, q7]; exact ⟨by omega, by omega⟩) hv hw (pe_I' q5.2) q6 e2).2.2
  | 53, ha, hr =>
    obtain ⟨m, o, rfl, rfl, e1, e2⟩ := x_at (f := so_aaload) (fun _ _ _ _ _ _ _ _ _ _ _ _ _ _ _ => rfl) hr
    refine ⟨rfl, ?_⟩
    obtain ⟨v, w, t, rfl, g⟩ := x_z2 e1
    obtain ⟨hw, hs1⟩ := pokS_cons.mp hs
    obtain ⟨hv, hs2⟩ := pokS_cons.mp hs1
    obtain ⟨i, -, q2, q3, q4⟩ := x_cell g
    obtain ⟨q5, q6⟩ := zwhen_inv q4
    have q5 : 19 ≤ (zget h i).1 := Nat.le_of_ble_eq_true q5
    obtain ⟨w1, w2, -, w4⟩ := hW.2.1 i q3
    have hlen := zSh_len_lt i q3
    rw [w2] at q6
    obtain ⟨mm, -, r2, r3, r4⟩ := x_idx' hw hlen q6
    obtain ⟨-, r5⟩ := zwhen_inv r4
    rw [w1] at q5
    obtain ⟨-, -, w5⟩ := w4 (fun q => by have := q.2; omega)
    obtain ⟨w6, w7⟩ := w5 mm r3
    rw [ztg_19 _ _ q5] at w6 w7
    rw [w6] at r5
    show k L ((2, gv H v.2 w.2) :: t) H
    rw [r2, q2, gv_RF hW.2.2 (by omega) (by omega) (by omega)]
    exact x_push hx (Nat.lt_succ_self _) hl hs2 w7 hL hW r5 e2
  | 54, ha, hr =>
    obtain ⟨m, o, rfl, rfl, e1, e2⟩ := x_at (f := so_arraylength) (fun _ _ _ _ _ _ _ _ _ _ _ _ _ _ _ => rfl) hr
    refine ⟨rfl, ?_⟩
    obtain ⟨v, t, rfl, g⟩ := x_z1 e1
    intro hc
    have hc : 0 ≤ v.2 := hc
    have g2 : zcell zNC h (pe v) (fun _ c => zwhen (Nat.ble (nat_lit 16) c.1) (zgo npc (peL ls) (zi c.2.1 :: peS t) h)) = some o := by
      obtain ⟨tg, x⟩ := v
      match tg, g, hc with
      | 0, g, _ => exact g
      | 1, g, _ => exact g
      | tg + 2, g, hc =>
        have hc : 0 ≤ x := hc
        have ex : pe (tg + 2, x) = zr (x.toNat + 2) := by
          show zr (x + 2).toNat = _
          rw [show (x + 2).toNat = x.toNat + 2 by omega]
        rw [ex] at g ⊢
        exact g
    obtain ⟨i, -, q2, q3, q4⟩ := x_cell g2
    obtain ⟨-, q6⟩ := zwhen_inv q4
    obtain ⟨w1, w2, -, -⟩ := hW.2.1 i q3
    have hlen := zSh_len_lt i q3
    rw [w2] at q6
    have ez : zi (zSh i).2.1 = pe (0, ((zSh i).2.1 : Int)) := by
      show zi (zSh i).2.1 = zi (zu ((zSh i).2.1 : Int))
      rw [zu_nat (by omega)]
    rw [ez] at q6
    rw [q2, show ((i : Int)).toNat = i by omega]
    exact x_push hx (Nat.lt_succ_self _) hl (pokS_cons.mp hs).2 (show zIn _ from ⟨by omega, by omega⟩) hL hW q6 e2
  | 55, ha, hr =>
    obtain ⟨m, o, rfl, rfl, e1, e2⟩ := x_at (f := so_mmax) (fun _ _ _ _ _ _ _ _ _ _ _ _ _ _ _ => rfl) hr
    refine ⟨rfl, ?_⟩
    obtain ⟨v, w, t, rfl, g⟩ := x_z2 e1
    obtain ⟨-, g⟩ := zwhen_inv g
    obtain ⟨hw, hs1⟩ := pokS_cons.mp hs
    obtain ⟨hv, hs2⟩ := pokS_cons.mp hs1
    have hz : zisI (pe v) = true ∧ zisI (pe w) = true := by
      rcases zbr_inv g with ⟨q, -⟩ | ⟨q, -⟩
      · obtain ⟨a, b, -⟩ := zcmp_ok (ρ := fun _ => 0) q
        exact ⟨a, b⟩
      · obtain ⟨a, b, -⟩ := zcmp_ok (ρ := fun _ => 0) q
        exact ⟨a, b⟩
    have ea := pv0 (pe_I' hz.1)
    have eb := pv0 (pe_I' hz.2)
    show k L ((0, if v.2 < w.2 then w.2 else v.2) :: t) H
    rcases x_br hv hw g with ⟨q, g⟩ | ⟨q, g⟩
    · have q : v.2 < w.2 := q
      rw [if_pos q]
      rw [eb] at g
      exact x_push hx (Nat.lt_succ_self _) hl hs2 (by have := hw; rwa [eb] at this) hL hW g e2
    · have q : ¬ v.2 < w.2 := q
      rw [if_neg q]
      rw [ea] at g
      exact x_push hx (Nat.lt_succ_self _) hl hs2 (by have := hv; rwa [ea] at this) hL hW g e2
  | 56, ha, hr =>
    obtain ⟨m, o, rfl, rfl, e1, e2⟩ := x_at (f := so_mmin) (fun _ _ _ _ _ _ _ _ _ _ _ _ _ _ _ => rfl) hr
    refine ⟨rfl, ?_⟩
    obtain ⟨v, w, t, rfl, g⟩ := x_z2 e1
    obtain ⟨-, g⟩ := zwhen_inv g
    obtain ⟨hw, hs1⟩ := pokS_cons.mp hs
    obtain ⟨hv, hs2⟩ := pokS_cons.mp hs1
    have hz : zisI (pe w) = true ∧ zisI (pe v) = true := by
      rcases zbr_inv g with ⟨q, -⟩ | ⟨q, -⟩
      · obtain ⟨a, b, -⟩ := zcmp_ok (ρ := fun _ => 0) q
        exact ⟨a, b⟩
      · obtain ⟨a, b, -⟩ := zcmp_ok (ρ := fun _ => 0) q
        exact ⟨a, b⟩
    have ea := pv0 (pe_I' hz.1)
    have eb := pv0 (pe_I' hz.2)
    show k L ((0, if w.2 < v.2 then w.2 else v.2) :: t) H
    rcases x_br hw hv g with ⟨q, g⟩ | ⟨q, g⟩
    · have q : w.2 < v.2 := q
      rw [if_pos q]
      rw [ea] at g
      exact x_push hx (Nat.lt_succ_self _) hl hs2 (by have := hw; rwa [ea] at this) hL hW g e2
    · have q : ¬ w.2 < v.2 := q
      rw [if_neg q]
      rw [eb] at g
      exact x_push hx (Nat.lt_succ_self _) hl hs2 (by have := hv; rwa [eb] at this) hL hW g e2
  | 57, ha, hr =>
    obtain ⟨m, o, rfl, rfl, e1, e2⟩ := x_at (f := so_baload) (fun _ _ _ _ _ _ _ _ _ _ _ _ _ _ _ => rfl) hr
    refine ⟨rfl, ?_⟩
    obtain ⟨v, w, t, rfl, g⟩ := x_z2 e1
    obtain ⟨hw, hs1⟩ := pokS_cons.mp hs
    obtain ⟨hv, hs2⟩ := pokS_cons.mp hs1
    obtain ⟨i, -, q2, q3, q4⟩ := x_cell g
    obtain ⟨q5, q6⟩ := zwhen_inv q4
    rw [Bool.or_eq_true] at q5
    obtain ⟨w1, w2, -, -⟩ := hW.2.1 i q3
    have hlen := zSh_len_lt i q3
    rw [w2] at q6
    obtain ⟨mm, -, r2, r3, r4⟩ := x_idx' hw hlen q6
    have hk : 16 ≤ (zSh i).1 ∧ (zSh i).1 ≤ 18 := by
      rw [← w1]
      rcases q5 with q | q
      · have q : (zget h i).1 = 17 := Nat.eq_of_beq_eq_true q
        omega
      · have q : (zget h i).1 = 18 := Nat.eq_of_beq_eq_true q
        omega
    obtain ⟨s1, s2⟩ := x_row hW q3 hk r3
    rw [zkde_eq, s1] at r4
    show k L ((0, H v.2 w.2) :: t) H
    rw [r2, q2]
    exact x_push hx (Nat.lt_succ_self _) hl hs2 s2 hL hW r4 e2
  | 58, ha, hr =>
    obtain ⟨m, o, rfl, rfl, e1, e2⟩ := x_at (f := so_bastore) (fun _ _ _ _ _ _ _ _ _ _ _ _ _ _ _ => rfl) hr
    refine ⟨rfl, ?_⟩
    obtain ⟨u, v, w, t, rfl, g⟩ := x_z3 e1
    obtain ⟨hw, hs1⟩ := pokS_cons.mp hs
    obtain ⟨hv, hs2⟩ := pokS_cons.mp hs1
    obtain ⟨hu, hs3⟩ := pokS_cons.mp hs2
    unfold zbast at g
    obtain ⟨i, -, q2, q3, q4⟩ := x_cell g
    obtain ⟨w1, w2, -, -⟩ := hW.2.1 i q3
    show k L t (pup H u.2 v.2 (qb (zSh u.2.toNat).1 w.2))
    rw [q2, show ((i : Int)).toNat = i by omega]
    cases hb : Nat.beq (zget h i).1 (nat_lit 17) with
    | true =>
      rw [hb] at q4
      have h17 : (zget h i).1 = 17 := Nat.eq_of_beq_eq_true hb
      rw [w1] at h17
      obtain ⟨ew, q5⟩ := x_u1 q4
      have eq : qb (zSh i).1 w.2 = q1 (fun x => x.toInt8.toInt32) w.2 := by
        unfold qb
        rw [if_pos h17]
      rw [eq]
      have hq0 : zIn (q1 (fun x => x.toInt8.toInt32) w.2) := zIn_toInt _
      have hq : pok (0, q1 (fun x => x.toInt8.toInt32) w.2) := hq0
      exact (x_ist (w := (0, q1 (fun x => x.toInt8.toInt32) w.2)) hx (Nat.lt_succ_self _) hl hs3 hL hW q3 (by rw [h17]; exact ⟨by omega, by omega⟩) hv hq rfl q5 e2).2.2
    | false =>
      rw [hb] at q4
      obtain ⟨h18, q4⟩ := zwhen_inv q4
      have h18 : (zget h i).1 = 18 := Nat.eq_of_beq_eq_true h18
      rw [w1] at h18
      obtain ⟨ew, q5⟩ := x_u1 q4
      have eq : qb (zSh i).1 w.2 = q1 (fun x => x &&& 1) w.2 := by
        unfold qb
        rw [if_neg (by rw [h18]; omega)]
      rw [eq]
      have hq0 : zIn (q1 (fun x => x &&& 1) w.2) := zIn_toInt _
      have hq : pok (0, q1 (fun x => x &&& 1) w.2) := hq0
      exact (x_ist (w := (0, q1 (fun x => x &&& 1) w.2)) hx (Nat.lt_succ_self _) hl hs3 hL hW q3 (by rw [h18]; exact ⟨by omega, by omega⟩) hv hq rfl q5 e2).2.2
  | 59, ha, hr =>
    obtain ⟨m, o, rfl, rfl, e1, e2⟩ := x_at (f := so_aastore) (fun _ _ _ _ _ _ _ _ _ _ _ _ _ _ _ => rfl) hr
    refine ⟨rfl, ?_⟩
    obtain ⟨u, v, w, t, rfl, g⟩ := x_z3 e1
    intro hz
    exact (x_aast hx (Nat.lt_succ_self _) hl hs hL hW hz g e2).2.2
  | 66, ha, hr =>
    obtain ⟨m, o, rfl, rfl, e1, e2⟩ := x_at (f := so_mabs) (fun _ _ _ _ _ _ _ _ _ _ _ _ _ _ _ => rfl) hr
    refine ⟨rfl, ?_⟩
    obtain ⟨v, t, rfl, g⟩ := x_z1 e1
    obtain ⟨-, g⟩ := zwhen_inv g
    obtain ⟨hv, hs1⟩ := pokS_cons.mp hs
    rw [pe_00] at g
    have hz : zisI (pe v) = true := by
      rcases zbr_inv g with ⟨q, -⟩ | ⟨q, -⟩
      · exact (zcmp_ok (ρ := fun _ => 0) q).1
      · exact (zcmp_ok (ρ := fun _ => 0) q).1
    have ea := pv0 (pe_I' hz)
    show k L ((0, if 0 ≤ v.2 then v.2 else zw (0 - v.2)) :: t) H
    rcases x_br hv (show pok (0, 0) from ⟨by omega, by omega⟩) g with ⟨q, g⟩ | ⟨q, g⟩
    · have q : 0 ≤ v.2 := q
      rw [if_pos q]
      rw [ea] at g
      exact x_push hx (Nat.lt_succ_self _) hl hs1 (by have := hv; rwa [ea] at this) hL hW g e2
    · have q : ¬ 0 ≤ v.2 := q
      rw [if_neg q]
      obtain ⟨-, -, g⟩ := x_sub g
      exact x_push hx (Nat.lt_succ_self _) hl hs1 (zw_in _) hL hW g e2
  | 100, ha, hr =>
    obtain ⟨m, o, rfl, rfl, e1, e2⟩ := x_at (f := (so_tableswitch 205 0 9 #[56, 75, 83, 104, 123, 134, 145, 156, 175, 186])) (fun _ _ _ _ _ _ _ _ _ _ _ _ _ _ _ => rfl) hr
    refine ⟨rfl, ?_⟩
    obtain ⟨v, t, rfl, g⟩ := x_z1 e1
    obtain ⟨tt, g1, g2⟩ := x_sw (pokS_cons.mp hs).1 g
    rw [← g2] at e2
    exact ⟨tt, g1, x_go hx (Nat.lt_succ_self _) hl (pokS_cons.mp hs).2 hL hW e2⟩
  | 101, ha, hr =>
    obtain ⟨m, o, rfl, rfl, e1, e2⟩ := x_at (f := (so_lookupswitch 40 #[(99, 38), (111, 36), (115, 34)])) (fun _ _ _ _ _ _ _ _ _ _ _ _ _ _ _ => rfl) hr
    refine ⟨rfl, ?_⟩
    obtain ⟨v, t, rfl, g⟩ := x_z1 e1
    obtain ⟨tt, g1, g2⟩ := x_lk (pokS_cons.mp hs).1 g
    rw [← g2] at e2
    exact ⟨tt, g1, x_go hx (Nat.lt_succ_self _) hl (pokS_cons.mp hs).2 hL hW e2⟩
  | 102, ha, hr =>
    obtain ⟨m, o, rfl, rfl, e1, e2⟩ := x_at (f := (so_lookupswitch 81 #[(42, 59), (43, 51), (45, 55), (47, 63), (60, 75)])) (fun _ _ _ _ _ _ _ _ _ _ _ _ _ _ _ => rfl) hr
    refine ⟨rfl, ?_⟩
    obtain ⟨v, t, rfl, g⟩ := x_z1 e1
    obtain ⟨tt, g1, g2⟩ := x_lk (pokS_cons.mp hs).1 g
    rw [← g2] at e2
    exact ⟨tt, g1, x_go hx (Nat.lt_succ_self _) hl (pokS_cons.mp hs).2 hL hW e2⟩
  | 103, ha, hr =>
    obtain ⟨m, o, rfl, rfl, e1, e2⟩ := x_at (f := (so_tableswitch 189 0 13 #[72, 80, 88, 99, 107, 115, 123, 131, 136, 144, 153, 163, 173, 181])) (fun _ _ _ _ _ _ _ _ _ _ _ _ _ _ _ => rfl) hr
    refine ⟨rfl, ?_⟩
    obtain ⟨v, t, rfl, g⟩ := x_z1 e1
    obtain ⟨tt, g1, g2⟩ := x_sw (pokS_cons.mp hs).1 g
    rw [← g2] at e2
    exact ⟨tt, g1, x_go hx (Nat.lt_succ_self _) hl (pokS_cons.mp hs).2 hL hW e2⟩
  | 104, ha, hr =>
    obtain ⟨m, o, rfl, rfl, e1, e2⟩ := x_at (f := (so_tableswitch 63 0 4 #[35, 40, 45, 53, 58])) (fun _ _ _ _ _ _ _ _ _ _ _ _ _ _ _ => rfl) hr
    refine ⟨rfl, ?_⟩
    obtain ⟨v, t, rfl, g⟩ := x_z1 e1
    obtain ⟨tt, g1, g2⟩ := x_sw (pokS_cons.mp hs).1 g
    rw [← g2] at e2
    exact ⟨tt, g1, x_go hx (Nat.lt_succ_self _) hl (pokS_cons.mp hs).2 hL hW e2⟩
  | 105, ha, hr =>
    obtain ⟨m, o, rfl, rfl, e1, e2⟩ := x_at (f := (so_tableswitch 54 0 3 #[31, 36, 41, 46])) (fun _ _ _ _ _ _ _ _ _ _ _ _ _ _ _ => rfl) hr
    refine ⟨rfl, ?_⟩
    obtain ⟨v, t, rfl, g⟩ := x_z1 e1
    obtain ⟨tt, g1, g2⟩ := x_sw (pokS_cons.mp hs).1 g
    rw [← g2] at e2
    exact ⟨tt, g1, x_go hx (Nat.lt_succ_self _) hl (pokS_cons.mp hs).2 hL hW e2⟩
  | 106, ha, hr =>
    obtain ⟨m, o, rfl, rfl, e1, e2⟩ := x_at (f := (so_tableswitch 85 0 4 #[35, 45, 55, 65, 75])) (fun _ _ _ _ _ _ _ _ _ _ _ _ _ _ _ => rfl) hr
    refine ⟨rfl, ?_⟩
    obtain ⟨v, t, rfl, g⟩ := x_z1 e1
    obtain ⟨tt, g1, g2⟩ := x_sw (pokS_cons.mp hs).1 g
    rw [← g2] at e2
    exact ⟨tt, g1, x_go hx (Nat.lt_succ_self _) hl (pokS_cons.mp hs).2 hL hW e2⟩
  | 107, ha, hr =>
    obtain ⟨m, o, rfl, rfl, e1, e2⟩ := x_at (f := (so_tableswitch 141 0 8 #[49, 59, 69, 79, 92, 102, 112, 122, 132])) (fun _ _ _ _ _ _ _ _ _ _ _ _ _ _ _ => rfl) hr
    refine ⟨rfl, ?_⟩
    obtain ⟨v, t, rfl, g⟩ := x_z1 e1
    obtain ⟨tt, g1, g2⟩ := x_sw (pokS_cons.mp hs).1 g
    rw [← g2] at e2
    exact ⟨tt, g1, x_go hx (Nat.lt_succ_self _) hl (pokS_cons.mp hs).2 hL hW e2⟩
  | 108, ha, hr =>
    obtain ⟨m, o, rfl, rfl, e1, e2⟩ := x_at (f := (so_tableswitch 79 0 5 #[39, 39, 49, 49, 61, 70])) (fun _ _ _ _ _ _ _ _ _ _ _ _ _ _ _ => rfl) hr
    refine ⟨rfl, ?_⟩
    obtain ⟨v, t, rfl, g⟩ := x_z1 e1
    obtain ⟨tt, g1, g2⟩ := x_sw (pokS_cons.mp hs).1 g
    rw [← g2] at e2
    exact ⟨tt, g1, x_go hx (Nat.lt_succ_self _) hl (pokS_cons.mp hs).2 hL hW e2⟩
  | 109, ha, hr =>
    obtain ⟨m, o, rfl, rfl, e1, e2⟩ := x_at (f := (so_lookupswitch 86 #[(42, 59), (43, 51), (45, 55), (47, 63), (60, 75)])) (fun _ _ _ _ _ _ _ _ _ _ _ _ _ _ _ => rfl) hr
    refine ⟨rfl, ?_⟩
    obtain ⟨v, t, rfl, g⟩ := x_z1 e1
    obtain ⟨tt, g1, g2⟩ := x_lk (pokS_cons.mp hs).1 g
    rw [← g2] at e2
    exact ⟨tt, g1, x_go hx (Nat.lt_succ_self _) hl (pokS_cons.mp hs).2 hL hW e2⟩
  | 110, ha, hr =>
    obtain ⟨m, o, rfl, rfl, e1, e2⟩ := x_at (f := (so_tableswitch 168 0 13 #[71, 78, 85, 92, 101, 108, 115, 122, 127, 132, 138, 145, 152, 160])) (fun _ _ _ _ _ _ _ _ _ _ _ _ _ _ _ => rfl) hr
    refine ⟨rfl, ?_⟩
    obtain ⟨v, t, rfl, g⟩ := x_z1 e1
    obtain ⟨tt, g1, g2⟩ := x_sw (pokS_cons.mp hs).1 g
    rw [← g2] at e2
    exact ⟨tt, g1, x_go hx (Nat.lt_succ_self _) hl (pokS_cons.mp hs).2 hL hW e2⟩
  | 111, ha, hr =>
    obtain ⟨m, o, rfl, rfl, e1, e2⟩ := x_at (f := (so_tableswitch 85 0 4 #[36, 46, 56, 65, 75])) (fun _ _ _ _ _ _ _ _ _ _ _ _ _ _ _ => rfl) hr
    refine ⟨rfl, ?_⟩
    obtain ⟨v, t, rfl, g⟩ := x_z1 e1
    obtain ⟨tt, g1, g2⟩ := x_sw (pokS_cons.mp hs).1 g
    rw [← g2] at e2
    exact ⟨tt, g1, x_go hx (Nat.lt_succ_self _) hl (pokS_cons.mp hs).2 hL hW e2⟩
  | 112, ha, hr =>
    obtain ⟨m, o, rfl, rfl, e1, e2⟩ := x_at (f := (so_tableswitch 68 0 3 #[32, 41, 50, 59])) (fun _ _ _ _ _ _ _ _ _ _ _ _ _ _ _ => rfl) hr
    refine ⟨rfl, ?_⟩
    obtain ⟨v, t, rfl, g⟩ := x_z1 e1
    obtain ⟨tt, g1, g2⟩ := x_sw (pokS_cons.mp hs).1 g
    rw [← g2] at e2
    exact ⟨tt, g1, x_go hx (Nat.lt_succ_self _) hl (pokS_cons.mp hs).2 hL hW e2⟩
  | 113, ha, hr =>
    obtain ⟨m, o, rfl, rfl, e1, e2⟩ := x_at (f := (so_tableswitch 122 0 7 #[47, 54, 61, 68, 74, 91, 108, 115])) (fun _ _ _ _ _ _ _ _ _ _ _ _ _ _ _ => rfl) hr
    refine ⟨rfl, ?_⟩
    obtain ⟨v, t, rfl, g⟩ := x_z1 e1
    obtain ⟨tt, g1, g2⟩ := x_sw (pokS_cons.mp hs).1 g
    rw [← g2] at e2
    exact ⟨tt, g1, x_go hx (Nat.lt_succ_self _) hl (pokS_cons.mp hs).2 hL hW e2⟩
  | 60, ha, hr =>
    obtain ⟨m, o, rfl, rfl, e1, e2⟩ := x_at (f := so_invokestatic) (fun _ _ _ _ _ _ _ _ _ _ _ _ _ _ _ => rfl) hr
    refine ⟨rfl, ?_⟩
    exact x_call hx (Nat.lt_succ_self _) hl hs hL hW e1 e2
  | 61, ha, hr =>
    obtain ⟨m, o, rfl, rfl, e1, e2⟩ := x_at (f := so_invokevirtual) (fun _ _ _ _ _ _ _ _ _ _ _ _ _ _ _ => rfl) hr
    refine ⟨rfl, ?_⟩
    exact x_call hx (Nat.lt_succ_self _) hl hs hL hW e1 e2
  | 62, ha, hr =>
    obtain ⟨m, o, rfl, rfl, e1, e2⟩ := x_at (f := so_ireturn) (fun _ _ _ _ _ _ _ _ _ _ _ _ _ _ _ => rfl) hr
    refine ⟨rfl, ?_⟩
    exact x_ret hx hs hW e1 e2
  | 63, ha, hr =>
    obtain ⟨m, o, rfl, rfl, e1, e2⟩ := x_at (f := so_areturn) (fun _ _ _ _ _ _ _ _ _ _ _ _ _ _ _ => rfl) hr
    refine ⟨rfl, ?_⟩
    exact x_ret hx hs hW e1 e2
  | 64, ha, hr =>
    obtain ⟨m, o, rfl, rfl, e1, e2⟩ := x_at (f := so_lreturn) (fun _ _ _ _ _ _ _ _ _ _ _ _ _ _ _ => rfl) hr
    refine ⟨rfl, ?_⟩
    exact x_ret hx hs hW e1 e2
  | 65, ha, hr =>
    obtain ⟨m, o, rfl, rfl, e1, e2⟩ := x_at (f := so_return_) (fun _ _ _ _ _ _ _ _ _ _ _ _ _ _ _ => rfl) hr
    refine ⟨rfl, ?_⟩
    cases st with
    | nil =>
      have e1 : some (.inr (.inr none)) = some o := e1
      rw [← e1] at e2
      have e2 : some ((none : Option zV), zNC, E.2, h) = some res := e2
      exact hx.2.2.1 none H ⟨h, (Option.some.inj e2).symm, hW, fun p hp => by cases hp⟩
    | cons a b => exact absurd (show none = some o from e1) (by intro q; cases q)
  | 67, ha, hr => exact absurd hr (x_none n)
  | 68, ha, hr => exact absurd hr (x_none n)
  | 69, ha, hr => exact absurd hr (x_none n)
  | 70, ha, hr => exact absurd hr (x_none n)
  | 71, ha, hr => exact absurd hr (x_none n)
  | 72, ha, hr => exact absurd hr (x_none n)
  | 73, ha, hr => exact absurd hr (x_none n)
  | 74, ha, hr => exact absurd hr (x_none n)
  | 75, ha, hr => exact absurd hr (x_none n)
  | 76, ha, hr => exact absurd hr (x_none n)
  | 77, ha, hr => exact absurd hr (x_none n)
  | 78, ha, hr => exact absurd hr (x_none n)
  | 79, ha, hr => exact absurd hr (x_none n)
  | 80, ha, hr => exact absurd hr (x_none n)
  | 81, ha, hr => exact absurd hr (x_none n)
  | 82, ha, hr => exact absurd hr (x_none n)
  | 83, ha, hr => exact absurd hr (x_none n)
  | 84, ha, hr => exact absurd hr (x_none n)
  | 85, ha, hr => exact absurd hr (x_none n)
  | 86, ha, hr => exact absurd hr (x_none n)
  | 87, ha, hr => exact absurd hr (x_none n)
  | 88, ha, hr => exact absurd hr (x_none n)
  | 89, ha, hr => exact absurd hr (x_none n)
  | 90, ha, hr => exact absurd hr (x_none n)
  | 91, ha, hr => exact absurd hr (x_none n)
  | 92, ha, hr => exact absurd hr (x_none n)
  | 93, ha, hr => exact absurd hr (x_none n)
  | 94, ha, hr => exact absurd hr (x_none n)
  | 95, ha, hr => exact absurd hr (x_none n)
  | 96, ha, hr => exact absurd hr (x_none n)
  | 97, ha, hr => exact absurd hr (x_none n)
  | 98, ha, hr => exact absurd hr (x_none n)
  | 99, ha, hr => exact absurd hr (x_none n)
  | q + 114, ha, hr => exact absurd hr (x_none n)
end XT
/-! ===== a block ===== -/
def xB (J : Nat → List Int → List pv → PH → Prop) (Q : Option pv → PH → Prop) (C : Nat → List pv → PH → (Option pv → PH → Prop) → Prop) (nx : Option Nat) : List VE → Nat → List Int → List pv → PH → Prop
  | [], pc, L, st, H => match nx with
    | some t => t = pc → J t L st H
    | none => False
  | e :: t, _, L, st, H => xI J Q C e.1 e.2.1 e.2.2.1 e.2.2.2.1 e.2.2.2.2 L st H (xB J Q C nx t e.2.2.1)
def aOKb (b : List VE) : Bool := b.all (fun e => (Nat.ble 12 e.2.1 || Nat.blt e.2.2.2.1 4294967296) && (Nat.ble 14 e.2.1 || Nat.blt e.2.2.2.1 18446744073709551616))
theorem aOKb_1 {e : VE} {t : List VE} (h : aOKb (e :: t) = true) : aOK e.2.1 e.2.2.2.1 ∧ aOKb t = true := by
  unfold aOKb at h
  rw [List.all_cons, Bool.and_eq_true, Bool.and_eq_true, Bool.or_eq_true, Bool.or_eq_true] at h
  obtain ⟨⟨h1, h2⟩, h3⟩ := h
  refine ⟨⟨fun q => ?_, fun q => ?_⟩, h3⟩
  · rcases h1 with h | h
    · have := Nat.le_of_ble_eq_true h
      omega
    · exact Nat.blt_eq.mp h
  · rcases h2 with h | h
    · have := Nat.le_of_ble_eq_true h
      omega
    · have := Nat.blt_eq.mp h
      omega
/-- what a run goes on with: at a place that is jumped to, at its end, in a method that it calls -/
def xJ (E : xE) (res : xR) (n : Nat) (cd : zK) (t : Nat) (L : List Int) (st : List pv) (H : PH) : Prop := ∃ m, m < n ∧ RUN E res m cd (zget cd t) t L st H
def xC (E : xE) (n mj : Nat) (as : List pv) (H : PH) (K : Option pv → PH → Prop) : Prop := ∃ m res1, m < n ∧ CALL E res1 m mj as H ∧ ∀ r H2, REPR E res1 r H2 → K r H2
theorem x_blk0 {E : xE} {res : xR} {N : Nat} {cd : zK} {nx : Option Nat} : ∀ (b : List VE) (n pc : Nat) (L : List Int) (st : List pv) (H : PH), aOKb b = true → n < N → RUN E res n cd (b.map vq ++ vrest cd nx) pc L st H → xB (xJ E res N cd) (REPR E res) (xC E N) nx b pc L st H
  | [], n, pc, L, st, H, _, hn, h => by
    cases nx with
    | none =>
      obtain ⟨d, ls, h0, -, -, -, -, hr⟩ := h
      cases n with
      | zero => cases hr
      | succ n => cases hr
    | some t =>
      intro e
      subst e
      exact ⟨n, hn, h⟩
  | e :: t, n, pc, L, st, H, ha, hn, h => by
    obtain ⟨a1, a2⟩ := aOKb_1 ha
    exact (x_step e.2.1 (J := xJ E res N cd) (Q := REPR E res) (C := xC E N) (k := xB (xJ E res N cd) (REPR E res) (xC E N) nx t e.2.2.1) ⟨fun m hm L st H q => x_blk0 t m e.2.2.1 L st H a2 (by omega) q, fun m hm t L st H q => ⟨m, by omega, q⟩, fun r H q => q, fun m hm mj as H K q => by
      obtain ⟨res1, q1, q2⟩ := q
      exact ⟨m, res1, by omega, q1, q2⟩⟩ a1 h).2
theorem x_blk {E : xE} {res : xR} {n : Nat} {cd : zK} {t : Nat} {nx : Option Nat} {L : List Int} {st : List pv} {H : PH} (b : List VE) (hb : zget cd t = b.map vq ++ vrest cd nx) (ha : (aOKb b && !b.isEmpty) = true) (h : RUN E res n cd (zget cd t) t L st H) : xB (xJ E res n cd) (REPR E res) (xC E n) nx b t L st H := by
  rw [hb] at h
  rw [Bool.and_eq_true] at ha
  cases b with
  | nil => cases ha.2
  | cons e b =>
    obtain ⟨a1, a2⟩ := aOKb_1 ha.1
    exact (x_step e.2.1 (J := xJ E res n cd) (Q := REPR E res) (C := xC E n) (k := xB (xJ E res n cd) (REPR E res) (xC E n) nx b e.2.2.1) ⟨fun m hm L st H q => x_blk0 b m e.2.2.1 L st H a2 hm q, fun m hm t L st H q => ⟨m, hm, q⟩, fun r H q => q, fun m hm mj as H K q => by
      obtain ⟨res1, q1, q2⟩ := q
      exact ⟨m, res1, hm, q1, q2⟩⟩ a1 h).2
/-! ===== a method: what it answers ===== -/
def SPEC (mj : Nat) (as : List pv) (H : PH) (Post : Option pv → PH → Prop) : Prop := ∀ (E : xE) (n : Nat) (res : xR), CALL E res n mj as H → ∃ r H', REPR E res r H' ∧ Post r H'
theorem call_run {E : xE} {res : xR} {n mj : Nat} {as : List pv} {H : PH} {oc : Nat} {ini : Bool} {cc : ByteArray} {maxL : Nat} {rt : Option FieldType} {cd : zK} (hm : zget zM mj = some ((mj, oc, ini, cc, maxL, rt), cd)) (h : CALL E res n mj as H) : RUN E res n cd (zget cd 0) 0 (xla as) [] H := by
  obtain ⟨d, h0, oc', ini', cc', maxL', rt', cdj, a1, a2, a3, a4⟩ := h
  have e := Option.some.inj (a1.symm.trans hm)
  cases e
  rw [zarg_pe] at a4
  exact ⟨d, parg 0 as, h0, parg_ok as 0 a2, (fun q hq => by cases hq), LR_arg as, a3, a4⟩
/-- a call in a run, and what it answers -/
theorem xc_use {E : xE} {n mj : Nat} {as : List pv} {H : PH} {K Post : Option pv → PH → Prop} (h : xC E n mj as H K) (hs : SPEC mj as H Post) : ∃ r H', Post r H' ∧ K r H' := by
  obtain ⟨m, res1, -, h1, h2⟩ := h
  obtain ⟨r, H', g1, g2⟩ := hs E m res1 h1
  exact ⟨r, H', g2, h2 r H' g1⟩
/-- for methods that call one another: what is known of shorter runs -/
def SPECn (N mj : Nat) (as : List pv) (H : PH) (Post : Option pv → PH → Prop) : Prop := ∀ (E : xE) (n : Nat) (res : xR), n < N → CALL E res n mj as H → ∃ r H', REPR E res r H' ∧ Post r H'
theorem xc_usen {E : xE} {n N mj : Nat} {as : List pv} {H : PH} {K Post : Option pv → PH → Prop} (hn : n ≤ N) (h : xC E n mj as H K) (hs : SPECn N mj as H Post) : ∃ r H', Post r H' ∧ K r H' := by
  obtain ⟨m, res1, hm, h1, h2⟩ := h
  obtain ⟨r, H', g1, g2⟩ := hs E m res1 (by omega) h1
  exact ⟨r, H', g2, h2 r H' g1⟩
/-- a method that returns, and what it answers then -/
theorem Ca_spec {G : zG} {us D mj : Nat} {as : List pv} {H : PH} {K Post : Option pv → PH → Prop} (h : Ca G us D mj as H K) (hs : SPEC mj as H Post) (hpo : pokS as) (t1 : ∀ p H', K (some p) H' → p.1 ≤ 2) (t2 : ∀ p H', Post (some p) H' → p.1 ≤ 2) : Ca G us D mj as H (fun r H' => K r H' ∧ Post r H') := by
  obtain ⟨oc, ini, cc, maxL, rt, cdj, a1, a2, a3⟩ := h
  refine ⟨oc, ini, cc, maxL, rt, cdj, a1, a2, fun hl hs0 h0 hW => ?_⟩
  obtain ⟨r, h', H', n0, b1, b2, b3, b4⟩ := a3 hl hs0 h0 hW
  have b5 := b4 D (Nat.le_refl _) n0 (Nat.le_refl _)
  have hc : CALL (G, us) (r.map pe, zNC, us, h') n0 mj as H := ⟨D, h0, oc, ini, cc, maxL, rt, cdj, a1, hpo, hW, by rw [zarg_pe]; exact b5⟩
  obtain ⟨r2, H2, ⟨h2, c1, c2, c3⟩, c4⟩ := hs (G, us) n0 _ hc
  have c1 : (r.map pe, zNC, us, h') = (r2.map pe, zNC, us, h2) := c1
  have er : r.map pe = r2.map pe := congrArg (fun q => q.1) c1
  have eh : h' = h2 := congrArg (fun q => q.2.2.2) c1
  subst eh
  have eH := zW_eq b1 c2
  subst eH
  have err : r = r2 := by
    cases r with
    | none =>
      cases r2 with
      | none => rfl
      | some q => cases er
    | some p =>
      cases r2 with
      | none => cases er
      | some q =>
        have e2 : pe p = pe q := Option.some.inj er
        rw [pe_inj (t1 p _ b2) (t2 q _ c4) (b3 p rfl) (c3 q rfl) e2]
  subst err
  exact ⟨r, h', H', n0, b1, ⟨b2, c4⟩, b3, b4⟩
