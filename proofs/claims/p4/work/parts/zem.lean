/-! ===== settled: the class's, with answers ===== -/
theorem and_all : (List.range 32).all (fun x => (List.range 32).all (fun y => decide (q2 (· &&& ·) (x : Int) (y : Int) = ((x &&& y : Nat) : Int)) && decide (q2 (· ||| ·) (x : Int) (y : Int) = ((x ||| y : Nat) : Int)))) = true := by decide +kernel
theorem and_T {x y : Int} (hx : 0 ≤ x ∧ x < 32) (hy : 0 ≤ y ∧ y < 32) : q2 (· &&& ·) x y = ((x.toNat &&& y.toNat : Nat) : Int) ∧ q2 (· ||| ·) x y = ((x.toNat ||| y.toNat : Nat) : Int) := by
  have h := List.all_eq_true.mp (List.all_eq_true.mp and_all x.toNat (List.mem_range.mpr (by omega))) y.toNat (List.mem_range.mpr (by omega))
  simp only [Bool.and_eq_true, decide_eq_true_eq] at h
  rw [show ((x.toNat : Nat) : Int) = x by omega, show ((y.toNat : Nat) : Int) = y by omega] at h
  exact h
def pw2 (d : Nat) : Nat := 2 ^ d
theorem shl_all : (List.range 6).all (fun i => decide (q2 (fun x y => x <<< (y &&& 31)) 1 (i : Int) = ((2 ^ i : Nat) : Int))) = true := by decide +kernel
theorem shl_T {i : Int} (h : 0 ≤ i ∧ i ≤ 5) : q2 (fun x y => x <<< (y &&& 31)) 1 i = ((pw2 i.toNat : Nat) : Int) := by
  have h := List.all_eq_true.mp shl_all i.toNat (List.mem_range.mpr (by omega))
  rw [show ((i.toNat : Nat) : Int) = i by omega] at h
  exact of_decide_eq_true h
theorem bit_all : (List.range 32).all (fun u => (List.range 5).all (fun i => decide (q2 (· &&& ·) (q2 (fun x y => x >>> (y &&& 31)) (u : Int) (i : Int)) 1 = if u.testBit i = true then 1 else 0))) = true := by decide +kernel
theorem bit_T {u i : Int} (hu : 0 ≤ u ∧ u < 32) (hi : 0 ≤ i ∧ i < 5) : q2 (· &&& ·) (q2 (fun x y => x >>> (y &&& 31)) u i) 1 = if u.toNat.testBit i.toNat = true then 1 else 0 := by
  have h := List.all_eq_true.mp (List.all_eq_true.mp bit_all u.toNat (List.mem_range.mpr (by omega))) i.toNat (List.mem_range.mpr (by omega))
  rw [show ((u.toNat : Nat) : Int) = u by omega, show ((i.toNat : Nat) : Int) = i by omega] at h
  exact of_decide_eq_true h
def clr (a i : Nat) : Nat := a &&& (31 ^^^ 2 ^ i)
theorem clr_all : (List.range 32).all (fun a => (List.range 5).all (fun i => decide (q2 (· &&& ·) (a : Int) (q2 (· ^^^ ·) ((2 ^ i : Nat) : Int) (-1)) = ((clr a i : Nat) : Int)) && Nat.blt (clr a i) 32 && Nat.blt (clr a i ||| 2 ^ i) 32 && (List.range 5).all (fun j => (clr a i).testBit j == (a.testBit j && !(Nat.beq j i)) && ((clr a i ||| 2 ^ i).testBit j == ((a.testBit j && !(Nat.beq j i)) || Nat.beq j i))))) = true := by decide +kernel
theorem clr_T {a i : Int} (ha : 0 ≤ a ∧ a < 32) (hi : 0 ≤ i ∧ i < 5) : q2 (· &&& ·) a (q2 (· ^^^ ·) ((pw2 i.toNat : Nat) : Int) (-1)) = ((clr a.toNat i.toNat : Nat) : Int) ∧ clr a.toNat i.toNat < 32 ∧ clr a.toNat i.toNat ||| 2 ^ i.toNat < 32 := by
  have h := List.all_eq_true.mp (List.all_eq_true.mp clr_all a.toNat (List.mem_range.mpr (by omega))) i.toNat (List.mem_range.mpr (by omega))
  simp only [Bool.and_eq_true, decide_eq_true_eq, Nat.blt_eq] at h
  rw [show ((a.toNat : Nat) : Int) = a by omega] at h
  exact ⟨h.1.1.1, h.1.1.2, h.1.2⟩
theorem clr_bit {a i j : Nat} (ha : a < 32) (hi : i < 5) (hj : j < 5) : ((clr a i).testBit j = true ↔ (a.testBit j = true ∧ ¬ j = i)) ∧ ((clr a i ||| 2 ^ i).testBit j = true ↔ ((a.testBit j = true ∧ ¬ j = i) ∨ j = i)) := by
  have h := List.all_eq_true.mp (List.all_eq_true.mp clr_all a (List.mem_range.mpr ha)) i (List.mem_range.mpr hi)
  simp only [Bool.and_eq_true] at h
  have g := List.all_eq_true.mp h.2 j (List.mem_range.mpr hj)
  simp only [Bool.and_eq_true, beq_iff_eq] at g
  rw [g.1, g.2]
  by_cases e : j = i
  · subst e
    simp
  · have e' : Nat.beq j i = false := by
      cases w : Nat.beq j i with
      | false => rfl
      | true => exact absurd (Nat.eq_of_beq_eq_true w) e
    rw [e']
    simp [e]
theorem TCf_fz {A : Int → Int} {H H' : PH} (f : ∀ c, 215 ≤ c → c ≤ 220 → H' c = H c) (t : TCf A H) : TCf A H' := by
  obtain ⟨⟨t1, t2, t3, t4⟩, b, r, a⟩ := t
  exact ⟨⟨by rw [f 215 (by decide) (by decide)]; exact t1, fun x x0 x1 => by rw [f 217 (by decide) (by decide)]; exact t2 x x0 x1, fun x x0 x1 => by rw [f 218 (by decide) (by decide)]; exact t3 x x0 x1, fun x x0 x1 => by rw [f 219 (by decide) (by decide)]; exact t4 x x0 x1⟩, b, fun x x0 x1 => by rw [f 216 (by decide) (by decide)]; exact r x x0 x1, fun x x0 x1 => by rw [f 220 (by decide) (by decide)]; exact a x x0 x1⟩
def SQ (H0 H : PH) (S : Int → Int → Int) (n : Int) : Prop := CQ H0 H S n ∧ TCf (S 0) H
def FS (H H' : PH) : Prop := ∀ c, 451 ≤ c → c ≤ 467 → H' c = H c
theorem SQ_up {H0 H : PH} {S : Int → Int → Int} {n c i v : Int} (hc : 451 ≤ c ∧ c ≤ 467) (h : SQ H0 H S n) : SQ H0 (pup H c i v) S n := ⟨CQ_up hc h.1, TCf_fz (fun d _ _ => xp_ne (by omega)) h.2⟩
/-- how many, which lines are doubtful; near ones as sets -/
def dN (A : Int → Int) : Nat := (dbZ A).1.toNat
def dL (A : Int → Int) : Int → Int := (dbZ A).2
def al0 (A : Int → Int) (b : Nat) : Nat := mkN (fun i => nrB A (dL A i) b) (dN A)
/-- the lines, what is allowed, what it costs -/
def DLn (A : Int → Int) (H : PH) : Prop := H 451 3 = (dN A : Int) ∧ ∀ i, 0 ≤ i → i < (dN A : Int) → H 452 i = dL A i
theorem DLn_fs {A : Int → Int} {H H' : PH} (f : FS H H') (h : DLn A H) : DLn A H' := ⟨by rw [f 451 (by decide) (by decide)]; exact h.1, fun i i0 i1 => by rw [f 452 (by decide) (by decide)]; exact h.2 i i0 i1⟩
theorem DLn_up {A : Int → Int} {H : PH} {c i v : Int} (hc : 453 ≤ c ∧ c ≤ 467) (h : DLn A H) : DLn A (pup H c i v) := ⟨by rw [xp_ne (by omega)]; exact h.1, fun j j0 j1 => by rw [xp_ne (by omega)]; exact h.2 j j0 j1⟩
def SY (A : Int → Int) (al : Nat → Nat) (H : PH) : Prop := DLn A H ∧ (∀ b : Nat, (b : Int) < A 0 → H 453 b = (al b : Int) ∧ al b < 32) ∧ ∀ b u : Nat, (b : Int) < A 0 → u &&& al0 A b = u → H (455 + (b : Int)) u = cuS A (dL A) (dN A) b u
theorem SY_fs {A : Int → Int} {al : Nat → Nat} {H H' : PH} (hB : MB A) (f : FS H H') (h : SY A al H) : SY A al H' := by
  obtain ⟨⟨h1, h2⟩, h3, h4⟩ := h
  have a0 := hB.1
  exact ⟨⟨by rw [f 451 (by decide) (by decide)]; exact h1, fun i i0 i1 => by rw [f 452 (by decide) (by decide)]; exact h2 i i0 i1⟩, fun b hb => by rw [f 453 (by decide) (by decide)]; exact h3 b hb, fun b u hb hu => by rw [f _ (by omega) (by omega)]; exact h4 b u hb hu⟩
theorem SY_row {A : Int → Int} {al : Nat → Nat} {H : PH} {i v : Int} (hB : MB A) (h : SY A al H) : SY A al (pup H 467 i v) := by
  obtain ⟨⟨h1, h2⟩, h3, h4⟩ := h
  have a0 := hB.1
  exact ⟨⟨by rw [xp_ne (by decide)]; exact h1, fun i i0 i1 => by rw [xp_ne (by decide)]; exact h2 i i0 i1⟩, fun b hb => by rw [xp_ne (by decide)]; exact h3 b hb, fun b u hb hu => by rw [xp_ne (by omega)]; exact h4 b u hb hu⟩
theorem dN_in {A : Int → Int} (hB : MB A) (h5 : dN A ≤ 5) : (∀ i, 0 ≤ i → i < (dN A : Int) → (0 ≤ dL A i ∧ dL A i < A 2)) ∧ ∀ i, 0 ≤ i → i < (dN A : Int) → rdL A (dL A i) = -2 := by
  obtain ⟨a, b⟩ := dbZ_in hB
  unfold dN dL
  exact ⟨fun i i0 i1 => (b i i0 (by omega)).1, fun i i0 i1 => (b i i0 (by omega)).2⟩
set_option maxRecDepth 100000 in
theorem lp_isnA (i b k q : Int) (A : Int → Int) (hb : 0 ≤ b ∧ b < A 0) (h12 : A 0 ≤ 12) (hq : 0 ≤ q) (H : PH) (e2 : H 1 2 = A 0) (gg : ∀ x, 0 ≤ x → x < A 0 → H q x = lapA A k x) {E : xE} {res : xR} : ∀ (n : Nat) (o : Int), 0 ≤ o → o ≤ A 0 → RUN E res n kd_X7_isNearest (zget kd_X7_isNearest 17) 17 [451, i, b, q, o] [] H → REPR E res (some (0, if nbF A k b (A 0 - o).toNat o = true then 1 else 0)) H := by
  have gb := gg b hb.1 hb.2
  intro n
  induction n using Nat.strongRecOn with
  | _ n ih =>
    intro o o0 o1 hh
    have z1 : zw (o + 1) = o + 1 := zw_lit (by omega) (by omega)
    by_cases c : o < A 0
    · have c' : ¬ A 0 ≤ o := by omega
      have go := gg o o0 c
      rw [show (A 0 - o).toNat = (A 0 - (o + 1)).toNat + 1 by omega]
      unfold nbF
      by_cases l : lapA A k o < lapA A k b
      · have l' : ¬ lapA A k b ≤ lapA A k o := by omega
        have ef : (if lapA A k o < lapA A k b then false else nbF A k b (A 0 - (o + 1)).toNat (o + 1)) = false := if_pos l
        rw [ef]
        have hh := xw_top (hd := [17]) 6 xD6_ok xc_X7_isNearest xa_X7_isNearest (t := 17) rfl hh
        simp (maxDischargeDepth := 12) -implicitDefEqProofs [vb_X7_isNearest_0, vb_X7_isNearest_17, vb_X7_isNearest_41, vb_X7_isNearest_47, xI_0, xI_1, xI_3, xI_4, xI_6, xI_7, xI_36, xI_46, xI_49, xI_51, xI_61, xI_62, xw_X7_isNearest_0, xw_X7_isNearest_17, xw_X7_isNearest_41, xw_X7_isNearest_47, zw_lit, xB_c, xB_s, xB_n, i1_c, j2_c, k1_c, jJ_e, xlg, xls, xla, xpd, ppush, zw_m1, zw_m2, zw_m3, gf_1_2, gf_7_0, gf_7_2, tg_1_2, tg_7_0, tg_7_2, gv_1_2, gv_451_0, gv_451_2, xD1, xD2, xD3, xD4, xD5, xD6, xb1_0, hq, e2, c, c', go, gb, l, l'] at hh
        exact hh
      · have l' : lapA A k b ≤ lapA A k o := by omega
        have ef : (if lapA A k o < lapA A k b then false else nbF A k b (A 0 - (o + 1)).toNat (o + 1)) = nbF A k b (A 0 - (o + 1)).toNat (o + 1) := if_neg l
        rw [ef]
        have hh := xw_top (hd := [17]) 6 xD6_ok xc_X7_isNearest xa_X7_isNearest (t := 17) rfl hh
        simp (maxDischargeDepth := 12) -implicitDefEqProofs [vb_X7_isNearest_0, vb_X7_isNearest_17, vb_X7_isNearest_41, vb_X7_isNearest_47, xI_0, xI_1, xI_3, xI_4, xI_6, xI_7, xI_36, xI_46, xI_49, xI_51, xI_61, xI_62, xw_X7_isNearest_0, xw_X7_isNearest_17, xw_X7_isNearest_41, xw_X7_isNearest_47, zw_lit, xB_c, xB_s, xB_n, i1_c, j2_c, k1_c, jJ_e, xlg, xls, xla, xpd, ppush, zw_m1, zw_m2, zw_m3, gf_1_2, gf_7_0, gf_7_2, tg_1_2, tg_7_0, tg_7_2, gv_1_2, gv_451_0, gv_451_2, xD1, xD2, xD3, xD4, xD5, xD6, xb1_0, hq, e2, c, c', go, gb, l, l', z1] at hh
        obtain ⟨m, hm, h⟩ := hh
        exact ih m hm (o + 1) (by omega) (by omega) h
    · have c' : A 0 ≤ o := by omega
      rw [show (A 0 - o).toNat = 0 by omega]
      have hh := xw_top (hd := [17]) 6 xD6_ok xc_X7_isNearest xa_X7_isNearest (t := 17) rfl hh
      simp (maxDischargeDepth := 12) -implicitDefEqProofs [vb_X7_isNearest_0, vb_X7_isNearest_17, vb_X7_isNearest_41, vb_X7_isNearest_47, xI_0, xI_1, xI_3, xI_4, xI_6, xI_7, xI_36, xI_46, xI_49, xI_51, xI_61, xI_62, xw_X7_isNearest_0, xw_X7_isNearest_17, xw_X7_isNearest_41, xw_X7_isNearest_47, zw_lit, xB_c, xB_s, xB_n, i1_c, j2_c, k1_c, jJ_e, xlg, xls, xla, xpd, ppush, zw_m1, zw_m2, zw_m3, gf_1_2, gf_7_0, gf_7_2, tg_1_2, tg_7_0, tg_7_2, gv_1_2, gv_451_0, gv_451_2, xD1, xD2, xD3, xD4, xD5, xD6, xb1_0, e2, c, c'] at hh
      exact hh
set_option maxRecDepth 100000 in
theorem sp_c_isNearest (i b : Int) (S : Int → Int → Int) (n : Int) (H0 H : PH) (hQ : SQ H0 H S n) (hY : DLn (S 0) H) (h5 : dN (S 0) ≤ 5) (hi : 0 ≤ i ∧ i < (dN (S 0) : Int)) (hb : 0 ≤ b ∧ b < S 0 0) : SPEC 64 [(2, 451), (0, i), (0, b)] H (fun r H' => r = some (0, if nrB (S 0) (dL (S 0) i) b = true then 1 else 0) ∧ SQ H0 H' S n ∧ FS H H') := by
  intro E n' res h
  have ok := RC_sz hQ.1.1
  have d := (dN_in ok.1 h5).1 i hi.1 hi.2
  have ed := hY.2 i hi.1 hi.2
  have h := call_runP 5 vm_X7_isNearest h
  have h := xw_top (hd := [17]) 6 xD6_ok xc_X7_isNearest xa_X7_isNearest (t := 0) rfl h
  simp (maxDischargeDepth := 12) -implicitDefEqProofs [vb_X7_isNearest_0, vb_X7_isNearest_17, vb_X7_isNearest_41, vb_X7_isNearest_47, xI_0, xI_1, xI_3, xI_4, xI_6, xI_7, xI_36, xI_46, xI_49, xI_51, xI_61, xI_62, xw_X7_isNearest_0, xw_X7_isNearest_17, xw_X7_isNearest_41, xw_X7_isNearest_47, zw_lit, xB_c, xB_s, xB_n, i1_c, j2_c, k1_c, jJ_e, xlg, xls, xla, xpd, ppush, zw_m1, zw_m2, zw_m3, gf_1_2, gf_7_0, gf_7_2, tg_1_2, tg_7_0, tg_7_2, gv_1_2, gv_451_0, gv_451_2, xD1, xD2, xD3, xD4, xD5, xD6, xb1_0, ed] at h
  obtain ⟨r, H1, ⟨rfl, cq, g4, gg, gb, gc⟩, g⟩ := xc_use h (sp_c_gaps (dL (S 0) i) S n H hQ.1.1 hQ.1.2.1 d)
  have e2 : H1 1 2 = S 0 0 := cq.1.1.1.1.1.symm
  simp (maxDischargeDepth := 12) -implicitDefEqProofs [vb_X7_isNearest_0, vb_X7_isNearest_17, vb_X7_isNearest_41, vb_X7_isNearest_47, xI_0, xI_1, xI_3, xI_4, xI_6, xI_7, xI_36, xI_46, xI_49, xI_51, xI_61, xI_62, xw_X7_isNearest_0, xw_X7_isNearest_17, xw_X7_isNearest_41, xw_X7_isNearest_47, zw_lit, xB_c, xB_s, xB_n, i1_c, j2_c, k1_c, jJ_e, xlg, xls, xla, xpd, ppush, zw_m1, zw_m2, zw_m3, gf_1_2, gf_7_0, gf_7_2, tg_1_2, tg_7_0, tg_7_2, gv_1_2, gv_451_0, gv_451_2, xD1, xD2, xD3, xD4, xD5, xD6, xb1_0] at g
  obtain ⟨m, hm, g⟩ := g
  have g := lp_isnA i b (dL (S 0) i) _ (S 0) hb ok.1.1.2 (by omega) H1 e2 gg m 0 (by decide) ok.1.1.1 g
  rw [Int.sub_zero] at g
  exact ⟨_, _, g, rfl, ⟨CQ_trans hQ.1 cq, TCf_fz (fun c c0 c1 => gc c (by omega) (by omega)) hQ.2⟩, fun c c0 c1 => gc c (by omega) (by omega)⟩
set_option maxRecDepth 100000 in
theorem lp_bofA (u d : Int) (A : Int → Int) (H : PH) (hB : MB A) (hX : OKX A) (ci : CI H A) (h5 : dN A ≤ 5) (hY : DLn A H) (hu : 0 ≤ u ∧ u < 32) {E : xE} {res : xR} : ∀ (n : Nat) (i x : Int), 0 ≤ i → i ≤ (dN A : Int) → RUN E res n kd_X7_balesOf (zget kd_X7_balesOf 5) 5 [451, u, d, bnS A (dL A) d u.toNat i.toNat, i, x] [] H → REPR E res (some (0, bnS A (dL A) d u.toNat (dN A))) H := by
  have a2 := hB.2.2.1
  intro n
  induction n using Nat.strongRecOn with
  | _ n ih =>
    intro i x i0 i1 h
    have e3 := hY.1
    have z1 : zw (i + 1) = i + 1 := zw_lit (by omega) (by omega)
    by_cases c : i < (dN A : Int)
    · have c' : ¬ (dN A : Int) ≤ i := by omega
      have dd := (dN_in hB h5).1 i i0 c
      have ed := hY.2 i i0 c
      have kq := ci.2.2.1 (dL A i) dd.1 (by omega)
      obtain ⟨l0, l1, l2, l3⟩ := ci.1.2.2.1 (dL A i) dd.1 dd.2
      obtain ⟨f5, g0, g1, g2, g3, g4, _⟩ := KL_f kq
      have ox := (hX.2 (dL A i) dd.1 dd.2).2.2
      have bt := bit_T hu ⟨i0, show i < 5 by omega⟩
      have bd := bnS_bd hX (sd := d) (u := u.toNat) i.toNat (fun j j0 j1 => (dN_in hB h5).1 j j0 (by omega))
      have zs : zw (bnS A (dL A) d u.toNat i.toNat + A (404 + 12 * dL A i + 2)) = bnS A (dL A) d u.toNat i.toNat + A (404 + 12 * dL A i + 2) := zw_lit (by omega) (by omega)
      have eS : bnS A (dL A) d u.toNat (i + 1).toNat = bnS A (dL A) d u.toNat i.toNat + (if u.toNat.testBit i.toNat = true ∧ A (404 + 12 * dL A i) = d then A (404 + 12 * dL A i + 2) else 0) := by
        rw [show (i + 1).toNat = i.toNat + 1 by omega]
        show bnS A (dL A) d u.toNat i.toNat + (if u.toNat.testBit i.toNat = true ∧ A (404 + 12 * dL A ((i.toNat : Nat) : Int)) = d then A (404 + 12 * dL A ((i.toNat : Nat) : Int) + 2) else 0) = _
        rw [show ((i.toNat : Nat) : Int) = i by omega]
      by_cases q : u.toNat.testBit i.toNat = true
      · rw [if_pos q] at bt
        by_cases q2 : A (404 + 12 * dL A i) = d
        · have q2' : H (H 47 (dL A i)) 0 = d := by rw [← l0]; exact q2
          have q2t : (H (H 47 (dL A i)) 0 = d) = True := eq_true q2'
          rw [if_pos ⟨q, q2⟩] at eS
          have h := xw_top (hd := [5]) 6 xD6_ok xc_X7_balesOf xa_X7_balesOf (t := 5) rfl h
          simp (maxDischargeDepth := 12) -implicitDefEqProofs [vb_X7_balesOf_0, vb_X7_balesOf_5, vb_X7_balesOf_58, vb_X7_balesOf_64, xI_0, xI_1, xI_3, xI_4, xI_6, xI_7, xI_14, xI_19, xI_23, xI_36, xI_44, xI_46, xI_49, xI_51, xI_53, xI_62, xw_X7_balesOf_0, xw_X7_balesOf_5, xw_X7_balesOf_58, xw_X7_balesOf_64, zw_lit, xB_c, xB_s, xB_n, i1_c, j2_c, k1_c, jJ_e, xlg, xls, xla, xpd, ppush, zw_m1, zw_m2, zw_m3, gf_1_3, gf_5_0, gf_5_2, gf_7_0, gf_7_2, gf_7_3, tg_1_3, tg_5_0, tg_5_2, tg_7_0, tg_7_2, tg_7_3, gv_1_3, gv_451_0, gv_451_2, gv_451_3, xD1, xD2, xD3, xD4, xD5, xD6, xb1_0, e3, c, c', ed, gv47, g0, g2, ← l2, bt, q2t, zs, z1] at h
          obtain ⟨m, hm, h⟩ := h
          exact ih m hm (i + 1) _ (by omega) (by omega) (by rw [eS]; exact h)
        · have q2' : ¬ H (H 47 (dL A i)) 0 = d := by rw [← l0]; exact q2
          rw [if_neg (fun w => q2 w.2), Int.add_zero] at eS
          have h := xw_top (hd := [5]) 6 xD6_ok xc_X7_balesOf xa_X7_balesOf (t := 5) rfl h
          simp (maxDischargeDepth := 12) -implicitDefEqProofs [vb_X7_balesOf_0, vb_X7_balesOf_5, vb_X7_balesOf_58, vb_X7_balesOf_64, xI_0, xI_1, xI_3, xI_4, xI_6, xI_7, xI_14, xI_19, xI_23, xI_36, xI_44, xI_46, xI_49, xI_51, xI_53, xI_62, xw_X7_balesOf_0, xw_X7_balesOf_5, xw_X7_balesOf_58, xw_X7_balesOf_64, zw_lit, xB_c, xB_s, xB_n, i1_c, j2_c, k1_c, jJ_e, xlg, xls, xla, xpd, ppush, zw_m1, zw_m2, zw_m3, gf_1_3, gf_5_0, gf_5_2, gf_7_0, gf_7_2, gf_7_3, tg_1_3, tg_5_0, tg_5_2, tg_7_0, tg_7_2, tg_7_3, gv_1_3, gv_451_0, gv_451_2, gv_451_3, xD1, xD2, xD3, xD4, xD5, xD6, xb1_0, e3, c, c', ed, gv47, g0, bt, q2', z1] at h
          obtain ⟨m, hm, h⟩ := h
          exact ih m hm (i + 1) _ (by omega) (by omega) (by rw [eS]; exact h)
      · rw [if_neg q] at bt
        rw [if_neg (fun w => q w.1), Int.add_zero] at eS
        have h := xw_top (hd := [5]) 6 xD6_ok xc_X7_balesOf xa_X7_balesOf (t := 5) rfl h
        simp (maxDischargeDepth := 12) -implicitDefEqProofs [vb_X7_balesOf_0, vb_X7_balesOf_5, vb_X7_balesOf_58, vb_X7_balesOf_64, xI_0, xI_1, xI_3, xI_4, xI_6, xI_7, xI_14, xI_19, xI_23, xI_36, xI_44, xI_46, xI_49, xI_51, xI_53, xI_62, xw_X7_balesOf_0, xw_X7_balesOf_5, xw_X7_balesOf_58, xw_X7_balesOf_64, zw_lit, xB_c, xB_s, xB_n, i1_c, j2_c, k1_c, jJ_e, xlg, xls, xla, xpd, ppush, zw_m1, zw_m2, zw_m3, gf_1_3, gf_5_0, gf_5_2, gf_7_0, gf_7_2, gf_7_3, tg_1_3, tg_5_0, tg_5_2, tg_7_0, tg_7_2, tg_7_3, gv_1_3, gv_451_0, gv_451_2, gv_451_3, xD1, xD2, xD3, xD4, xD5, xD6, xb1_0, e3, c, c', ed, gv47, bt, z1] at h
        obtain ⟨m, hm, h⟩ := h
        exact ih m hm (i + 1) _ (by omega) (by omega) (by rw [eS]; exact h)
    · have c' : (dN A : Int) ≤ i := by omega
      have ei : i.toNat = dN A := by omega
      rw [ei] at h
      have h := xw_top (hd := [5]) 6 xD6_ok xc_X7_balesOf xa_X7_balesOf (t := 5) rfl h
      simp (maxDischargeDepth := 12) -implicitDefEqProofs [vb_X7_balesOf_0, vb_X7_balesOf_5, vb_X7_balesOf_58, vb_X7_balesOf_64, xI_0, xI_1, xI_3, xI_4, xI_6, xI_7, xI_14, xI_19, xI_23, xI_36, xI_44, xI_46, xI_49, xI_51, xI_53, xI_62, xw_X7_balesOf_0, xw_X7_balesOf_5, xw_X7_balesOf_58, xw_X7_balesOf_64, zw_lit, xB_c, xB_s, xB_n, i1_c, j2_c, k1_c, jJ_e, xlg, xls, xla, xpd, ppush, zw_m1, zw_m2, zw_m3, gf_1_3, gf_5_0, gf_5_2, gf_7_0, gf_7_2, gf_7_3, tg_1_3, tg_5_0, tg_5_2, tg_7_0, tg_7_2, tg_7_3, gv_1_3, gv_451_0, gv_451_2, gv_451_3, xD1, xD2, xD3, xD4, xD5, xD6, xb1_0, e3, c, c'] at h
      exact h
theorem sp_c_balesOf (u d : Int) (A : Int → Int) (H : PH) (hB : MB A) (hX : OKX A) (ci : CI H A) (h5 : dN A ≤ 5) (hY : DLn A H) (hu : 0 ≤ u ∧ u < 32) : SPEC 66 [(2, 451), (0, u), (0, d)] H (fun r H' => r = some (0, bnS A (dL A) d u.toNat (dN A)) ∧ H' = H) := by
  intro E n res h
  have h := call_runP 6 vm_X7_balesOf h
  have h := xw_top (hd := [5]) 6 xD6_ok xc_X7_balesOf xa_X7_balesOf (t := 0) rfl h
  simp (maxDischargeDepth := 12) -implicitDefEqProofs [vb_X7_balesOf_0, vb_X7_balesOf_5, vb_X7_balesOf_58, vb_X7_balesOf_64, xI_0, xI_1, xI_3, xI_4, xI_6, xI_7, xI_14, xI_19, xI_23, xI_36, xI_44, xI_46, xI_49, xI_51, xI_53, xI_62, xw_X7_balesOf_0, xw_X7_balesOf_5, xw_X7_balesOf_58, xw_X7_balesOf_64, zw_lit, xB_c, xB_s, xB_n, i1_c, j2_c, k1_c, jJ_e, xlg, xls, xla, xpd, ppush, zw_m1, zw_m2, zw_m3, gf_1_3, gf_5_0, gf_5_2, gf_7_0, gf_7_2, gf_7_3, tg_1_3, tg_5_0, tg_5_2, tg_7_0, tg_7_2, tg_7_3, gv_1_3, gv_451_0, gv_451_2, gv_451_3, xD1, xD2, xD3, xD4, xD5, xD6, xb1_0] at h
  obtain ⟨m, hm, h⟩ := h
  have g := lp_bofA u d A H hB hX ci h5 hY hu m 0 _ (by decide) (by omega) h
  exact ⟨_, _, g, rfl, rfl⟩
set_option maxRecDepth 100000 in
theorem lp_lwA (b s : Int) (R : Nat → Int) (A : Int → Int) (al : Nat → Nat) (H : PH) (hB : MB A) (hX : OKX A) (h5 : dN A ≤ 5) (hb : 0 ≤ b ∧ b < A 0) (hs : 0 ≤ s ∧ s < 32) (hal : al b.toNat &&& al0 A b.toNat = al b.toNat) (hY : SY A al H) (hR : ∀ t : Nat, t ≤ s.toNat → H 467 t = R t ∧ 0 ≤ R t ∧ R t ≤ 536870912) (q : Int) (hq : q = ((s.toNat &&& al b.toNat : Nat) : Int)) {E : xE} {res : xR} : ∀ (n : Nat) (l p : Int), -1 ≤ p → p ≤ q → (0 ≤ l ∧ l ≤ 536870912) → RUN E res n kd_X7_leastWith (zget kd_X7_leastWith 17) 17 [451, b, s, l, q, p] [] H → REPR E res (some (0, if p = -1 then l else lwF R (cuS A (dL A) (dN A) b) s.toNat q.toNat p.toNat l)) H := by
  have a0 := hB.1
  have qs : q.toNat ≤ s.toNat := by
    have := Nat.and_le_left (n := s.toNat) (m := al b.toNat)
    omega
  have qe : q.toNat = s.toNat &&& al b.toNat := by omega
  intro n
  induction n using Nat.strongRecOn with
  | _ n ih =>
    intro l p p0 p1 hl h
    by_cases c : p = -1
    · have c1 : p < 0 := by omega
      have c2 : ¬ 0 ≤ p := by omega
      rw [if_pos c]
      have h := xw_top (hd := [17]) 6 xD6_ok xc_X7_leastWith xa_X7_leastWith (t := 17) rfl h
      simp (maxDischargeDepth := 12) -implicitDefEqProofs [vb_X7_leastWith_0, vb_X7_leastWith_17, vb_X7_leastWith_56, vb_X7_leastWith_62, xI_0, xI_1, xI_3, xI_6, xI_10, xI_14, xI_15, xI_19, xI_36, xI_39, xI_44, xI_49, xI_51, xI_53, xI_56, xI_62, xw_X7_leastWith_0, xw_X7_leastWith_17, xw_X7_leastWith_56, xw_X7_leastWith_62, zw_lit, xB_c, xB_s, xB_n, i1_c, j2_c, k1_c, jJ_e, xlg, xls, xla, xpd, ppush, zw_m1, zw_m2, zw_m3, gf_7_4, gf_7_5, gf_7_6, tg_7_4, tg_7_5, tg_7_6, gv_451_4, gv_451_5, gv_451_6, xD1, xD2, xD3, xD4, xD5, xD6, xb1_0, c1, c2] at h
      exact h
    · have c1 : ¬ p < 0 := by omega
      have c2 : 0 ≤ p := by omega
      rw [if_neg c]
      have zp : zw (p + -1) = p - 1 := zw_lit (by omega) (by omega)
      have zp2 : zw (p + 4294967295) = p - 1 := zw_dec (by omega) (by omega)
      have g4 : gv H 454 b = 455 + b := gv454 hb.1 (by omega)
      have i0 : 0 ≤ 455 + b := by omega
      have ap := (and_T (x := p) (y := q) ⟨c2, by omega⟩ (by omega)).1
      have nx : ∀ l', (0 ≤ l' ∧ l' ≤ 536870912) → lwF R (cuS A (dL A) (dN A) b) s.toNat q.toNat p.toNat l = (if p - 1 = -1 then l' else lwF R (cuS A (dL A) (dN A) b) s.toNat q.toNat (p - 1).toNat l') → xJ E res n kd_X7_leastWith 17 [451, b, s, l', q, p - 1] [] H → REPR E res (some (0, lwF R (cuS A (dL A) (dN A) b) s.toNat q.toNat p.toNat l)) H := by
        rintro l' hl' e ⟨m, hm, g⟩
        rw [e]
        exact ih m hm l' (p - 1) (by omega) (by omega) hl' g
      by_cases w : p.toNat &&& q.toNat = p.toNat
      · have w' : (q2 (· &&& ·) p q = p) = True := eq_true (by rw [ap, w]; omega)
        have wq : p.toNat &&& al0 A b.toNat = p.toNat := sub_of (fun j hj => by
          have h1 := sub_b w hj
          rw [qe, Nat.testBit_and] at h1
          simp only [Bool.and_eq_true] at h1
          exact sub_b hal h1.2)
        have ec := hY.2.2 b.toNat p.toNat (by omega) wq
        rw [show ((b.toNat : Nat) : Int) = b by omega, show ((p.toNat : Nat) : Int) = p by omega] at ec
        have er := hR (s.toNat - p.toNat) (by omega)
        have es : (((s.toNat - p.toNat : Nat)) : Int) = s - p := by omega
        rw [es] at er
        have zi : zw (s - p) = s - p := zw_lit (by omega) (by omega)
        have cb := cuS_in hB hX h5 (dN_in hB h5).1 hb p.toNat
        have zv : zw (R (s.toNat - p.toNat) + cuS A (dL A) (dN A) b p.toNat) = R (s.toNat - p.toNat) + cuS A (dL A) (dN A) b p.toNat := zw_lit (by omega) (by omega)
        have er1 := er.1
        have h := xw_top (hd := [17]) 6 xD6_ok xc_X7_leastWith xa_X7_leastWith (t := 17) rfl h
        simp (maxDischargeDepth := 12) -implicitDefEqProofs [vb_X7_leastWith_0, vb_X7_leastWith_17, vb_X7_leastWith_56, vb_X7_leastWith_62, xI_0, xI_1, xI_3, xI_6, xI_10, xI_14, xI_15, xI_19, xI_36, xI_39, xI_44, xI_49, xI_51, xI_53, xI_56, xI_62, xw_X7_leastWith_0, xw_X7_leastWith_17, xw_X7_leastWith_56, xw_X7_leastWith_62, zw_lit, xB_c, xB_s, xB_n, i1_c, j2_c, k1_c, jJ_e, xlg, xls, xla, xpd, ppush, zw_m1, zw_m2, zw_m3, gf_7_4, gf_7_5, gf_7_6, tg_7_4, tg_7_5, tg_7_6, gv_451_4, gv_451_5, gv_451_6, xD1, xD2, xD3, xD4, xD5, xD6, xb1_0, c1, c2, g4, i0, w', zi, er1, ec, zv, zp, zp2, mn_a] at h
        refine nx _ ?_ ?_ h
        · omega
        · by_cases p00 : p = 0
          · rw [if_pos (by omega), show p.toNat = 0 by omega]
            show min l (R s.toNat + cuS A (dL A) (dN A) b 0) = _
            rw [show s.toNat - 0 = s.toNat by omega]
            omega
          · rw [if_neg (by omega)]
            have e : p.toNat = (p - 1).toNat + 1 := by omega
            rw [e] at w ⊢
            show lwF R (cuS A (dL A) (dN A) b) s.toNat q.toNat (p - 1).toNat (if (p - 1).toNat + 1 &&& q.toNat = (p - 1).toNat + 1 then min l (R (s.toNat - ((p - 1).toNat + 1)) + cuS A (dL A) (dN A) b ((p - 1).toNat + 1)) else l) = _
            rw [if_pos w, Int.min_comm]
      · have w' : ¬ q2 (· &&& ·) p q = p := fun e => w (by rw [ap] at e; omega)
        have h := xw_top (hd := [17]) 6 xD6_ok xc_X7_leastWith xa_X7_leastWith (t := 17) rfl h
        simp (maxDischargeDepth := 12) -implicitDefEqProofs [vb_X7_leastWith_0, vb_X7_leastWith_17, vb_X7_leastWith_56, vb_X7_leastWith_62, xI_0, xI_1, xI_3, xI_6, xI_10, xI_14, xI_15, xI_19, xI_36, xI_39, xI_44, xI_49, xI_51, xI_53, xI_56, xI_62, xw_X7_leastWith_0, xw_X7_leastWith_17, xw_X7_leastWith_56, xw_X7_leastWith_62, zw_lit, xB_c, xB_s, xB_n, i1_c, j2_c, k1_c, jJ_e, xlg, xls, xla, xpd, ppush, zw_m1, zw_m2, zw_m3, gf_7_4, gf_7_5, gf_7_6, tg_7_4, tg_7_5, tg_7_6, gv_451_4, gv_451_5, gv_451_6, xD1, xD2, xD3, xD4, xD5, xD6, xb1_0, c1, c2, w', zp, zp2] at h
        refine nx l hl ?_ h
        have p00 : ¬ p = 0 := fun e => w (by rw [e]; exact Nat.zero_and _)
        rw [if_neg (by omega)]
        have e : p.toNat = (p - 1).toNat + 1 := by omega
        rw [e] at w ⊢
        show lwF R (cuS A (dL A) (dN A) b) s.toNat q.toNat (p - 1).toNat (if (p - 1).toNat + 1 &&& q.toNat = (p - 1).toNat + 1 then min l (R (s.toNat - ((p - 1).toNat + 1)) + cuS A (dL A) (dN A) b ((p - 1).toNat + 1)) else l) = _
        rw [if_neg w]
set_option maxRecDepth 100000 in
theorem sp_c_leastWith (b s : Int) (R : Nat → Int) (A : Int → Int) (al : Nat → Nat) (H : PH) (hB : MB A) (hX : OKX A) (h5 : dN A ≤ 5) (hb : 0 ≤ b ∧ b < A 0) (hs : 0 ≤ s ∧ s < 32) (hal : al b.toNat &&& al0 A b.toNat = al b.toNat) (hY : SY A al H) (hR : ∀ t : Nat, t ≤ s.toNat → H 467 t = R t ∧ 0 ≤ R t ∧ R t ≤ 536870912) : SPEC 68 [(2, 451), (0, b), (0, s)] H (fun r H' => r = some (0, lwF R (cuS A (dL A) (dN A) b) s.toNat (s.toNat &&& al b.toNat) (s.toNat &&& al b.toNat) 536870912) ∧ H' = H) := by
  intro E n res h
  have ea := hY.2.1 b.toNat (by omega)
  rw [show ((b.toNat : Nat) : Int) = b by omega] at ea
  have ea1 := ea.1
  have ap := (and_T (x := s) (y := (al b.toNat : Int)) hs (by omega)).1
  rw [Int.toNat_natCast] at ap
  have h := call_runP 6 vm_X7_leastWith h
  have h := xw_top (hd := [17]) 6 xD6_ok xc_X7_leastWith xa_X7_leastWith (t := 0) rfl h
  simp (maxDischargeDepth := 12) -implicitDefEqProofs [vb_X7_leastWith_0, vb_X7_leastWith_17, vb_X7_leastWith_56, vb_X7_leastWith_62, xI_0, xI_1, xI_3, xI_6, xI_10, xI_14, xI_15, xI_19, xI_36, xI_39, xI_44, xI_49, xI_51, xI_53, xI_56, xI_62, xw_X7_leastWith_0, xw_X7_leastWith_17, xw_X7_leastWith_56, xw_X7_leastWith_62, zw_lit, xB_c, xB_s, xB_n, i1_c, j2_c, k1_c, jJ_e, xlg, xls, xla, xpd, ppush, zw_m1, zw_m2, zw_m3, gf_7_4, gf_7_5, gf_7_6, tg_7_4, tg_7_5, tg_7_6, gv_451_4, gv_451_5, gv_451_6, xD1, xD2, xD3, xD4, xD5, xD6, xb1_0, ea1, ap] at h
  obtain ⟨m, hm, h⟩ := h
  have g := lp_lwA b s R A al H hB hX h5 hb hs hal hY hR _ rfl m _ _ (by omega) (Int.le_refl _) (by decide) h
  rw [if_neg (by omega), Int.toNat_natCast] at g
  exact ⟨_, _, g, rfl, rfl⟩
