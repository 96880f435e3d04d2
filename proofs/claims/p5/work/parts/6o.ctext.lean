/-! ===== text of the class ===== -/
def GT (H0 H : PH) : Prop := SC H0 H ∧ H0 1 2 ≤ H 1 2 ∧ ∀ x, 0 ≤ x → x < H0 1 2 → rem H x = rem H0 x
theorem SC_refl (H : PH) : SC H H := ⟨rfl, rfl, fun _ _ _ => rfl⟩
theorem SC_trans {H H' H'' : PH} (h : SC H H') (h' : SC H' H'') : SC H H'' := ⟨h'.1.trans h.1, h'.2.1.trans h.2.1, fun j a b => (h'.2.2 j a b).trans (h.2.2 j a b)⟩
theorem GT_refl (H : PH) : GT H H := ⟨SC_refl H, Int.le_refl _, fun _ _ _ => rfl⟩
theorem GT_step {lv : Nat} {g : Nat → Nat → Int} {H0 H H' : PH} (hW : WT lv g H0) (h : GT H0 H) (s : SC H H') (h1 : H 1 2 ≤ H' 1 2) (h2 : ∀ x, 0 ≤ x → x ≤ 11 → x < H 1 2 → rem H' x = rem H x) : GT H0 H' := by
  have hb := rf_1_2 hW
  exact ⟨SC_trans h.1 s, Int.le_trans h.2.1 h1, fun x a b => (h2 x a (by omega) (by have := h.2.1; omega)).trans (h.2.2 x a b)⟩
theorem frz_SC {H H' : PH} (h : WT 0 (gH H) H') : SC H H' ∧ H' 1 2 = H 1 2 ∧ (∀ x, 0 ≤ x → x ≤ 11 → rem H' x = rem H x) ∧ H' 213 1 = H 213 1 := by
  have f : ∀ c i : Nat, c < 622 → i < (zSh c).2.1 → fz 0 (tau c) i = true → gv H' c i = gv H c i := fun c i a b q => (h c i a b).2 q
  refine ⟨⟨f 0 7 (by decide) (by decide +kernel) (by decide +kernel), f 0 8 (by decide) (by decide +kernel) (by decide +kernel), fun j j0 j1 => ?_⟩, f 1 2 (by decide) (by decide +kernel) (by decide +kernel), fun x x0 x1 => ?_, f 213 1 (by decide) (by decide +kernel) (by decide +kernel)⟩
  · have hs := sh_deedN j.toNat (by omega)
    have ec : ((469 + 6 * j.toNat : Nat) : Int) = 469 + 6 * j := by omega
    have k : ∀ i : Nat, i < 4 → gv H' (469 + 6 * j) i = gv H (469 + 6 * j) i := fun i hi => by
      have := f (469 + 6 * j.toNat) i (by omega) (by rw [hs.2.1]; omega) (by
        rw [hs.2.2.2.2.2.2.2.2]
        rcases (by omega : i = 0 ∨ i = 1 ∨ i = 2 ∨ i = 3) with rfl | rfl | rfl | rfl <;> rfl)
      rw [ec] at this
      exact this
    have g1 := gv_deed (X := H) j0 j1
    have g2 := gv_deed (X := H') j0 j1
    have k0 := k 0 (by omega)
    have k1' := k 1 (by omega)
    have k2' := k 2 (by omega)
    have k3 := k 3 (by omega)
    have e0 : ((0 : Nat) : Int) = 0 := rfl
    have e1 : ((1 : Nat) : Int) = 1 := rfl
    have e2 : ((2 : Nat) : Int) = 2 := rfl
    have e3 : ((3 : Nat) : Int) = 3 := rfl
    rw [e0, g2.1, g1.1] at k0
    rw [e1, g2.2.1, g1.2.1] at k1'
    rw [e2, g2.2.2.1, g1.2.2.1] at k2'
    rw [e3, g2.2.2.2, g1.2.2.2] at k3
    unfold ent
    rw [k0, k1', k2', k3]
  · have hs := sh_bill (l := x.toNat) (by omega)
    have ec : ((57 + 3 * x.toNat : Nat) : Int) = 57 + 3 * x := by omega
    have := f (57 + 3 * x.toNat) 5 (by omega) (by rw [hs.2.1]; omega) (by rw [hs.2.2.2.2.2.1]; rfl)
    rw [ec] at this
    have e5 : ((5 : Nat) : Int) = 5 := rfl
    rw [e5, gv_rem x0 x1, gv_rem x0 x1] at this
    exact this
theorem GT_frz {lv : Nat} {g : Nat → Nat → Int} {H0 H H' : PH} (hW : WT lv g H0) (h : GT H0 H) (q : WT 0 (gH H) H') : GT H0 H' := by
  obtain ⟨a, b, c, _⟩ := frz_SC q
  exact GT_step hW h a (by omega) (fun x x0 x1 _ => c x x0 x1)
theorem sh_billx {l : Nat} (h : l < 12) : zrt (57 + 3 * l) 0 = none ∧ zrt (57 + 3 * l) 1 = none ∧ zrt (57 + 3 * l) 2 = none := by
  have := sh_bill0 l h
  simp only [Bool.and_eq_true, beq_iff_eq] at this
  obtain ⟨⟨⟨⟨⟨⟨⟨⟨⟨⟨⟨a, b⟩, c⟩, d⟩, e⟩, f⟩, q⟩, r⟩, s⟩, t⟩, u⟩, v⟩ := this
  exact ⟨Option.isNone_iff_eq_none.mp s, Option.isNone_iff_eq_none.mp c, Option.isNone_iff_eq_none.mp d⟩

def cq_X1_takeBill : aC := (7, 9, [(2, 0, 0, 1), (2, 0, 0, 10)], some (0, 0, 1, 1), [], 0, [10, 3010, 4010], [((2, 213, 2), 0, 599)], [], [])
def tq_X1_takeBill : List aL := [(0, ([(0, ((2, 0, 0, 1), (0, 0, 0), (0, 0), [])), (1, ((2, 0, 0, 10), (0, 0, 0), (0, 0), []))], [], [((2, 213, 2), 0, 599)]), 9, []),
  (103, ([(0, ((2, 0, 0, 1), (0, 0, 0), (0, 0), [])), (1, ((2, 0, 0, 10), (0, 0, 0), (0, 0), [])), (2, ((0, 1, 600, 1), (0, 0, 0), (0, 0), [])), (3, ((1, 1, 0, 0), (0, 0, 0), (0, 0), [])), (5, ((0, -2147483648, 2147483647, 1), (0, 0, 0), (0, 0), []))], [], [((2, 1, 2), 0, 11)]), 3, []),
  (104, ([(0, ((2, 0, 0, 1), (0, 0, 0), (0, 0), [])), (1, ((2, 0, 0, 10), (0, 0, 0), (0, 0), [])), (2, ((0, 1, 600, 1), (0, 0, 0), (0, 0), [])), (3, ((1, 1, 0, 0), (0, 0, 0), (0, 0), [])), (5, ((0, -2147483648, 2147483647, 1), (0, 0, 0), (0, 0), []))], [((0, -2147483648, 2147483647, 1), (0, 0, 0), (0, 0), [])], [((2, 1, 2), 0, 11)]), 2, []),
  (120, ([(0, ((2, 0, 0, 1), (0, 0, 0), (0, 0), [])), (1, ((2, 0, 0, 10), (0, 0, 0), (0, 0), [])), (2, ((0, 1, 600, 1), (0, 0, 0), (0, 0), [])), (3, ((1, 1, 0, 0), (0, 0, 0), (0, 0), [])), (5, ((0, -2147483648, 2147483647, 1), (0, 0, 0), (0, 0), [])), (6, ((0, -2147483648, 2147483647, 1), (0, 0, 0), (0, 0), []))], [], [((2, 1, 2), 0, 11)]), 0, []),
  (18, ([(0, ((2, 0, 0, 1), (0, 0, 0), (0, 0), [])), (1, ((2, 0, 0, 10), (0, 0, 0), (0, 0), []))], [], [((2, 1, 2), 0, 11), ((2, 213, 2), 0, 599)]), 8, []),
  (47, ([(0, ((2, 0, 0, 1), (0, 0, 0), (0, 0), [])), (1, ((2, 0, 0, 10), (0, 0, 0), (0, 0), [])), (2, ((0, 1, 600, 1), (0, 0, 0), (0, 0), [])), (3, ((1, 1, 0, 0), (0, 0, 0), (0, 0), []))], [], [((2, 1, 2), 0, 11)]), 7, []),
  (61, ([(0, ((2, 0, 0, 1), (0, 0, 0), (0, 0), [])), (1, ((2, 0, 0, 10), (0, 0, 0), (0, 0), [])), (2, ((0, 1, 600, 1), (0, 0, 0), (0, 0), [])), (3, ((1, 1, 0, 0), (0, 0, 0), (0, 0), []))], [], [((2, 1, 2), 0, 11)]), 6, []),
  (78, ([(0, ((2, 0, 0, 1), (0, 0, 0), (0, 0), [])), (1, ((2, 0, 0, 10), (0, 0, 0), (0, 0), [])), (2, ((0, 1, 600, 1), (0, 0, 0), (0, 0), [])), (3, ((1, 1, 0, 0), (0, 0, 0), (0, 0), []))], [], [((2, 1, 2), 0, 11)]), 5, []),
  (79, ([(0, ((2, 0, 0, 1), (0, 0, 0), (0, 0), [])), (1, ((2, 0, 0, 10), (0, 0, 0), (0, 0), [])), (2, ((0, 1, 600, 1), (0, 0, 0), (0, 0), [])), (3, ((1, 1, 0, 0), (0, 0, 0), (0, 0), []))], [((0, -2147483648, 2147483647, 1), (0, 0, 0), (0, 0), [])], [((2, 1, 2), 0, 11)]), 4, [])]
def aq_X1_takeBill : List aL := [(122, ([(0, ((2, 0, 0, 1), (0, 0, 0), (0, 0), [])), (1, ((2, 0, 0, 10), (0, 0, 0), (0, 0), [])), (2, ((0, 1, 600, 1), (0, 0, 0), (0, 0), [])), (3, ((1, 1, 0, 0), (0, 0, 0), (0, 0), [])), (5, ((0, -2147483648, 2147483647, 1), (0, 0, 0), (0, 0), [])), (6, ((0, -2147483648, 2147483647, 1), (0, 0, 0), (0, 0), []))], [], [((2, 1, 2), 0, 11)]), 1, [])]
def bq_X1_takeBill : List aB := [(0, vb_X1_takeBill_0, some 18), (18, vb_X1_takeBill_18, some 47), (47, vb_X1_takeBill_47, some 61), (61, vb_X1_takeBill_61, some 78), (78, vb_X1_takeBill_78, some 79), (79, vb_X1_takeBill_79, some 103), (103, vb_X1_takeBill_103, some 104), (104, vb_X1_takeBill_104, some 120), (120, vb_X1_takeBill_120, some 122)]
def zq_X1_takeBill : List (Nat × aC) := [(14, cc_X10_fail), (35, cc_X10_signs), (49, cc_X1_isTold), (57, cc_X10_fail), (64, cc_X10_skip), (72, cc_X10_amount), (89, cc_X10_skip), (97, cc_X10_amount), (114, cc_X10_skip)]
theorem kq_X1_takeBill : amchkA (some (0, 0, 0, 0)) tq_X1_takeBill aq_X1_takeBill bq_X1_takeBill zq_X1_takeBill cq_X1_takeBill = true := by decide +kernel
theorem bk_X1_takeBill : blOK kd_X1_takeBill bq_X1_takeBill := ⟨ve_X1_takeBill_0, ve_X1_takeBill_18, ve_X1_takeBill_47, ve_X1_takeBill_61, ve_X1_takeBill_78, ve_X1_takeBill_79, ve_X1_takeBill_103, ve_X1_takeBill_104, ve_X1_takeBill_120, trivial⟩
theorem zk_X1_takeBill : csOK zq_X1_takeBill := ⟨ct_X10_fail, ct_X10_signs, ct_X1_isTold, ct_X10_fail, ct_X10_skip, ct_X10_amount, ct_X10_skip, ct_X10_amount, ct_X10_skip, trivial⟩

set_option maxRecDepth 20000 in
set_option maxHeartbeats 4000000 in
theorem ca_X0_begin {G : zG} {us : Nat} (c k x y : Int) (H : PH) (c0 : 0 ≤ c) (c1 : c < 622) (s1 : (zSh c.toNat).1 = 0) (s2 : (zSh c.toNat).2.1 = 8) (y0 : zrt c.toNat 0 = none) (y1 : zrt c.toNat 1 = none) (y2 : zrt c.toNat 2 = none) (y3 : zrt c.toNat 3 = none) (y4 : zrt c.toNat 4 = none) (y5 : zrt c.toNat 5 = none) : Ca G us 1 1 [(2, c), (1, k), (0, x), (0, y)] H (fun r H' => r = none ∧ H' = pup (pup (pup (pup (pup (pup H c 0 k) c 1 x) c 2 y) c 3 0) c 4 0) c 5 0) := by
  refine ⟨_, _, _, _, _, _, vm_X0_begin, by simp [pcat], ?_⟩
  refine tr_lab (D := 0) (t := 0) vb_X0_begin_0 _ ve_X0_begin_0 ?_
  simp (maxDischargeDepth := 12) [vb_X0_begin_0, wB, wI, k1, kI, kR, kL, k2, pget, parg, ppush, pcat, zw_lit, zw_m1, zw_m2, zw_m3, zNC_eq, zrow, pup_app, pget_pss, pget_psx, nlg_some, nlg_none, pe, tg_0_0, tg_0_1, tg_0_2, tg_0_3, tg_0_4, tg_0_5, zfit, zisI, sh_590, c0, c1, s1, s2, y0, y1, y2, y3, y4, y5]
  repeat' (with_reducible (first | (refine And.intro ?_ ?_) | intro _))
  all_goals (first | omega | rfl | decide | skip)

