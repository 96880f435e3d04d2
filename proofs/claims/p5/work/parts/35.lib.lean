/-! ===== small laws of numbers ===== -/
theorem zw_m1 : zw 4294967295 = -1 := by decide
theorem zw_m2 : zw 4294967294 = -2 := by decide
theorem zw_m3 : zw 4294967293 = -3 := by decide
theorem zU_and (a b : Int32) : zU (a &&& b) = zU a &&& zU b := by
  show (a &&& b).toBitVec.toNat = _
  rw [Int32.toBitVec_and, BitVec.toNat_and]
  rfl
theorem toInt_small {r : Int32} (h : zU r < 2147483648) : r.toInt = (zU r : Int) := by
  have e : r.toInt = if 2 * r.toBitVec.toNat < 2 ^ 32 then (r.toBitVec.toNat : Int) else (r.toBitVec.toNat : Int) - ((2 ^ 32 : Nat) : Int) := BitVec.toInt_eq_toNat_cond r.toBitVec
  unfold zU at h ⊢
  rw [e, if_pos (by omega)]
theorem zU_zI {u : Nat} (h : u < 4294967296) : zU (zI u) = u := by
  unfold zU zI
  simp
  omega
theorem q2_and {x y : Int} (hy0 : 0 ≤ y) (hy : y < 2147483648) : 0 ≤ q2 (· &&& ·) x y ∧ q2 (· &&& ·) x y ≤ y := by
  have e1 : zu y = y.toNat := by
    unfold zu
    omega
  have h1 : zU (zI (zu x) &&& zI (zu y)) ≤ y.toNat := by
    rw [zU_and, zU_zI (zu_lt y), e1]
    exact Nat.and_le_right
  have h2 : zU (zI (zu x) &&& zI (zu y)) < 2147483648 := by omega
  have h3 := toInt_small h2
  unfold q2
  show 0 ≤ (zI (zu x) &&& zI (zu y)).toInt ∧ (zI (zu x) &&& zI (zu y)).toInt ≤ y
  omega
theorem q2_div {x y : Int} (hx0 : 0 ≤ x) (hx : x < 2147483648) (hy0 : 0 < y) (hy : y < 2147483648) : q2 (· / ·) x y = x / y := by
  have a := zI_zu (x := x) ⟨by omega, by omega⟩
  have b := zI_zu (x := y) ⟨by omega, by omega⟩
  have h1 : 0 ≤ x / y := Int.ediv_nonneg hx0 (by omega)
  have h2 : x / y ≤ x := Int.ediv_le_self y hx0
  unfold q2
  show (zI (zu x) / zI (zu y)).toInt = _
  rw [Int32.toInt_div, a, b, Int.tdiv_eq_ediv_of_nonneg hx0, Int.bmod_def]
  omega
theorem q2_rem {x y : Int} (hx0 : 0 ≤ x) (hx : x < 2147483648) (hy0 : 0 < y) (hy : y < 2147483648) : q2 (fun x y => x - x / y * y) x y = x % y := by
  have a := zI_zu (x := x) ⟨by omega, by omega⟩
  have b := zI_zu (x := y) ⟨by omega, by omega⟩
  have h1 : 0 ≤ x / y := Int.ediv_nonneg hx0 (by omega)
  have h2 : x / y ≤ x := Int.ediv_le_self y hx0
  have h3 : (zI (zu x) / zI (zu y)).toInt = x / y := q2_div hx0 hx hy0 hy
  have h4 := Int.emod_nonneg x (by omega : y ≠ 0)
  have h5 := Int.emod_lt_of_pos x hy0
  have h6 := Int.mul_ediv_add_emod x y
  unfold q2
  show (zI (zu x) - zI (zu x) / zI (zu y) * zI (zu y)).toInt = _
  have h7 : y * (x / y) = x / y * y := Int.mul_comm _ _
  rw [Int32.toInt_sub, Int32.toInt_mul, h3, a, b, Int.bmod_def, Int.bmod_def]
  omega
theorem Ca_use {G : zG} {us D D' mj : Nat} {as : List pv} {H : PH} {K K' : Option pv → PH → Prop} (h : Ca G us D mj as H K) (hD : D ≤ D') (hK : ∀ r H', K r H' → K' r H') : Ca G us D' mj as H K' := Ca_mono hD hK h
/-! locals without longs -/
def pnl (ls : PL) : Prop := ∀ q ∈ ls, q.2.1 ≠ 1
theorem pget_filter {ls : PL} (h : pnl ls) {i j : Nat} (hj : j ≠ i) : pget (ls.filter (fun q => !pdrop i false q)) j = pget ls j := by
  induction ls with
  | nil => rfl
  | cons q t ih =>
    have ht : pnl t := fun x hx => h x (List.mem_cons_of_mem _ hx)
    have hq : q.2.1 ≠ 1 := h q List.mem_cons_self
    rw [List.filter_cons]
    by_cases e : q.1 = i
    · have hd : pdrop i false q = true := by
        unfold pdrop
        rw [beq_iff_eq.mpr e]
        rfl
      have e2 : ¬ q.1 = j := by omega
      rw [hd]
      show pget (t.filter _) j = pget (q :: t) j
      rw [ih ht]
      show _ = if q.1 = j then some q.2 else pget t j
      rw [if_neg e2]
    · have hd : pdrop i false q = false := by
        unfold pdrop
        rw [beq_eq_false_iff_ne.mpr e, beq_eq_false_iff_ne.mpr hq, Bool.and_false]
        rfl
      rw [hd]
      show pget (q :: t.filter _) j = pget (q :: t) j
      show (if q.1 = j then some q.2 else pget (t.filter _) j) = if q.1 = j then some q.2 else pget t j
      rw [ih ht]
theorem pget_pset {ls : PL} {i j : Nat} {v : pv} (h : pnl ls) : pget (pset ls i false v) j = if i = j then some v else pget ls j := by
  show (if i = j then some v else pget (ls.filter _) j) = _
  by_cases e : i = j
  · rw [if_pos e, if_pos e]
  · rw [if_neg e, if_neg e, pget_filter h (fun q => e q.symm)]
theorem pnl_pset {ls : PL} {i : Nat} {v : pv} (h : pnl ls) (hv : v.1 ≠ 1) : pnl (pset ls i false v) := by
  intro q hq
  rcases List.mem_cons.mp hq with rfl | e
  · exact hv
  · exact h q (List.mem_filter.mp e).1
theorem pnl_nil : pnl [] := fun q hq => by cases hq
theorem pnl_cons {q : Nat × pv} {ls : PL} : pnl (q :: ls) ↔ q.2.1 ≠ 1 ∧ pnl ls := ⟨fun h => ⟨h q List.mem_cons_self, fun x hx => h x (List.mem_cons_of_mem _ hx)⟩, fun h x hx => by
  rcases List.mem_cons.mp hx with rfl | e
  · exact h.1
  · exact h.2 x e⟩
