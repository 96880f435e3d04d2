theorem gf_8_4 : gfOK 8 4 = true := by decide +kernel
theorem gf_8_5 : gfOK 8 5 = true := by decide +kernel
theorem gf_12_16 : gfOK 12 16 = true := by decide +kernel
def xm_X12_isLike : List xbT := [(0, vb_X12_isLike_0, some 2), (2, vb_X12_isLike_2, some 52), (52, vb_X12_isLike_52, some 64), (64, vb_X12_isLike_64, some 66), (66, vb_X12_isLike_66, some 72), (72, vb_X12_isLike_72, none)]
theorem xc_X12_isLike : xOK kd_X12_isLike xm_X12_isLike := ⟨ve_X12_isLike_0, ve_X12_isLike_2, ve_X12_isLike_52, ve_X12_isLike_64, ve_X12_isLike_66, ve_X12_isLike_72, trivial⟩
theorem xa_X12_isLike : xm_X12_isLike.all (fun q => aOKb q.2.1 && !q.2.1.isEmpty) = true := by decide +kernel
theorem xw_X12_isLike_0 {E : xE} {res : xR} {N : Nat} {hd : List Nat} {C : xCT} {k : Nat} {L : List Int} {st : List pv} {H : PH} : xW E res N kd_X12_isLike xm_X12_isLike hd C (k + 1) 0 L st H = xB (fun t L st H => if t ∈ hd then xJ E res N kd_X12_isLike t L st H else xW E res N kd_X12_isLike xm_X12_isLike hd C k t L st H) (REPR E res) C (some 2) vb_X12_isLike_0 0 L st H := Eq.trans rfl rfl
theorem xw_X12_isLike_2 {E : xE} {res : xR} {N : Nat} {hd : List Nat} {C : xCT} {k : Nat} {L : List Int} {st : List pv} {H : PH} : xW E res N kd_X12_isLike xm_X12_isLike hd C (k + 1) 2 L st H = xB (fun t L st H => if t ∈ hd then xJ E res N kd_X12_isLike t L st H else xW E res N kd_X12_isLike xm_X12_isLike hd C k t L st H) (REPR E res) C (some 52) vb_X12_isLike_2 2 L st H := Eq.trans rfl rfl
theorem xw_X12_isLike_52 {E : xE} {res : xR} {N : Nat} {hd : List Nat} {C : xCT} {k : Nat} {L : List Int} {st : List pv} {H : PH} : xW E res N kd_X12_isLike xm_X12_isLike hd C (k + 1) 52 L st H = xB (fun t L st H => if t ∈ hd then xJ E res N kd_X12_isLike t L st H else xW E res N kd_X12_isLike xm_X12_isLike hd C k t L st H) (REPR E res) C (some 64) vb_X12_isLike_52 52 L st H := Eq.trans rfl rfl
theorem xw_X12_isLike_64 {E : xE} {res : xR} {N : Nat} {hd : List Nat} {C : xCT} {k : Nat} {L : List Int} {st : List pv} {H : PH} : xW E res N kd_X12_isLike xm_X12_isLike hd C (k + 1) 64 L st H = xB (fun t L st H => if t ∈ hd then xJ E res N kd_X12_isLike t L st H else xW E res N kd_X12_isLike xm_X12_isLike hd C k t L st H) (REPR E res) C (some 66) vb_X12_isLike_64 64 L st H := Eq.trans rfl rfl
theorem xw_X12_isLike_66 {E : xE} {res : xR} {N : Nat} {hd : List Nat} {C : xCT} {k : Nat} {L : List Int} {st : List pv} {H : PH} : xW E res N kd_X12_isLike xm_X12_isLike hd C (k + 1) 66 L st H = xB (fun t L st H => if t ∈ hd then xJ E res N kd_X12_isLike t L st H else xW E res N kd_X12_isLike xm_X12_isLike hd C k t L st H) (REPR E res) C (some 72) vb_X12_isLike_66 66 L st H := Eq.trans rfl rfl
theorem xw_X12_isLike_72 {E : xE} {res : xR} {N : Nat} {hd : List Nat} {C : xCT} {k : Nat} {L : List Int} {st : List pv} {H : PH} : xW E res N kd_X12_isLike xm_X12_isLike hd C (k + 1) 72 L st H = xB (fun t L st H => if t ∈ hd then xJ E res N kd_X12_isLike t L st H else xW E res N kd_X12_isLike xm_X12_isLike hd C k t L st H) (REPR E res) C (none) vb_X12_isLike_72 72 L st H := Eq.trans rfl rfl
def xm_X12_change : List xbT := [(0, vb_X12_change_0, some 9), (9, vb_X12_change_9, some 30), (30, vb_X12_change_30, some 34), (34, vb_X12_change_34, some 35), (35, vb_X12_change_35, none)]
theorem xc_X12_change : xOK kd_X12_change xm_X12_change := ⟨ve_X12_change_0, ve_X12_change_9, ve_X12_change_30, ve_X12_change_34, ve_X12_change_35, trivial⟩
theorem xa_X12_change : xm_X12_change.all (fun q => aOKb q.2.1 && !q.2.1.isEmpty) = true := by decide +kernel
theorem xw_X12_change_0 {E : xE} {res : xR} {N : Nat} {hd : List Nat} {C : xCT} {k : Nat} {L : List Int} {st : List pv} {H : PH} : xW E res N kd_X12_change xm_X12_change hd C (k + 1) 0 L st H = xB (fun t L st H => if t ∈ hd then xJ E res N kd_X12_change t L st H else xW E res N kd_X12_change xm_X12_change hd C k t L st H) (REPR E res) C (some 9) vb_X12_change_0 0 L st H := Eq.trans rfl rfl
theorem xw_X12_change_9 {E : xE} {res : xR} {N : Nat} {hd : List Nat} {C : xCT} {k : Nat} {L : List Int} {st : List pv} {H : PH} : xW E res N kd_X12_change xm_X12_change hd C (k + 1) 9 L st H = xB (fun t L st H => if t ∈ hd then xJ E res N kd_X12_change t L st H else xW E res N kd_X12_change xm_X12_change hd C k t L st H) (REPR E res) C (some 30) vb_X12_change_9 9 L st H := Eq.trans rfl rfl
theorem xw_X12_change_30 {E : xE} {res : xR} {N : Nat} {hd : List Nat} {C : xCT} {k : Nat} {L : List Int} {st : List pv} {H : PH} : xW E res N kd_X12_change xm_X12_change hd C (k + 1) 30 L st H = xB (fun t L st H => if t ∈ hd then xJ E res N kd_X12_change t L st H else xW E res N kd_X12_change xm_X12_change hd C k t L st H) (REPR E res) C (some 34) vb_X12_change_30 30 L st H := Eq.trans rfl rfl
theorem xw_X12_change_34 {E : xE} {res : xR} {N : Nat} {hd : List Nat} {C : xCT} {k : Nat} {L : List Int} {st : List pv} {H : PH} : xW E res N kd_X12_change xm_X12_change hd C (k + 1) 34 L st H = xB (fun t L st H => if t ∈ hd then xJ E res N kd_X12_change t L st H else xW E res N kd_X12_change xm_X12_change hd C k t L st H) (REPR E res) C (some 35) vb_X12_change_34 34 L st H := Eq.trans rfl rfl
theorem xw_X12_change_35 {E : xE} {res : xR} {N : Nat} {hd : List Nat} {C : xCT} {k : Nat} {L : List Int} {st : List pv} {H : PH} : xW E res N kd_X12_change xm_X12_change hd C (k + 1) 35 L st H = xB (fun t L st H => if t ∈ hd then xJ E res N kd_X12_change t L st H else xW E res N kd_X12_change xm_X12_change hd C k t L st H) (REPR E res) C (none) vb_X12_change_35 35 L st H := Eq.trans rfl rfl
def xm_X12_apartOf : List xbT := [(0, vb_X12_apartOf_0, some 11), (11, vb_X12_apartOf_11, some 35), (35, vb_X12_apartOf_35, some 38), (38, vb_X12_apartOf_38, some 72), (72, vb_X12_apartOf_72, some 159), (159, vb_X12_apartOf_159, some 165), (165, vb_X12_apartOf_165, none)]
theorem xc_X12_apartOf : xOK kd_X12_apartOf xm_X12_apartOf := ⟨ve_X12_apartOf_0, ve_X12_apartOf_11, ve_X12_apartOf_35, ve_X12_apartOf_38, ve_X12_apartOf_72, ve_X12_apartOf_159, ve_X12_apartOf_165, trivial⟩
theorem xa_X12_apartOf : xm_X12_apartOf.all (fun q => aOKb q.2.1 && !q.2.1.isEmpty) = true := by decide +kernel
theorem xw_X12_apartOf_0 {E : xE} {res : xR} {N : Nat} {hd : List Nat} {C : xCT} {k : Nat} {L : List Int} {st : List pv} {H : PH} : xW E res N kd_X12_apartOf xm_X12_apartOf hd C (k + 1) 0 L st H = xB (fun t L st H => if t ∈ hd then xJ E res N kd_X12_apartOf t L st H else xW E res N kd_X12_apartOf xm_X12_apartOf hd C k t L st H) (REPR E res) C (some 11) vb_X12_apartOf_0 0 L st H := Eq.trans rfl rfl
theorem xw_X12_apartOf_11 {E : xE} {res : xR} {N : Nat} {hd : List Nat} {C : xCT} {k : Nat} {L : List Int} {st : List pv} {H : PH} : xW E res N kd_X12_apartOf xm_X12_apartOf hd C (k + 1) 11 L st H = xB (fun t L st H => if t ∈ hd then xJ E res N kd_X12_apartOf t L st H else xW E res N kd_X12_apartOf xm_X12_apartOf hd C k t L st H) (REPR E res) C (some 35) vb_X12_apartOf_11 11 L st H := Eq.trans rfl rfl
theorem xw_X12_apartOf_35 {E : xE} {res : xR} {N : Nat} {hd : List Nat} {C : xCT} {k : Nat} {L : List Int} {st : List pv} {H : PH} : xW E res N kd_X12_apartOf xm_X12_apartOf hd C (k + 1) 35 L st H = xB (fun t L st H => if t ∈ hd then xJ E res N kd_X12_apartOf t L st H else xW E res N kd_X12_apartOf xm_X12_apartOf hd C k t L st H) (REPR E res) C (some 38) vb_X12_apartOf_35 35 L st H := Eq.trans rfl rfl
theorem xw_X12_apartOf_38 {E : xE} {res : xR} {N : Nat} {hd : List Nat} {C : xCT} {k : Nat} {L : List Int} {st : List pv} {H : PH} : xW E res N kd_X12_apartOf xm_X12_apartOf hd C (k + 1) 38 L st H = xB (fun t L st H => if t ∈ hd then xJ E res N kd_X12_apartOf t L st H else xW E res N kd_X12_apartOf xm_X12_apartOf hd C k t L st H) (REPR E res) C (some 72) vb_X12_apartOf_38 38 L st H := Eq.trans rfl rfl
theorem xw_X12_apartOf_72 {E : xE} {res : xR} {N : Nat} {hd : List Nat} {C : xCT} {k : Nat} {L : List Int} {st : List pv} {H : PH} : xW E res N kd_X12_apartOf xm_X12_apartOf hd C (k + 1) 72 L st H = xB (fun t L st H => if t ∈ hd then xJ E res N kd_X12_apartOf t L st H else xW E res N kd_X12_apartOf xm_X12_apartOf hd C k t L st H) (REPR E res) C (some 159) vb_X12_apartOf_72 72 L st H := Eq.trans rfl rfl
theorem xw_X12_apartOf_159 {E : xE} {res : xR} {N : Nat} {hd : List Nat} {C : xCT} {k : Nat} {L : List Int} {st : List pv} {H : PH} : xW E res N kd_X12_apartOf xm_X12_apartOf hd C (k + 1) 159 L st H = xB (fun t L st H => if t ∈ hd then xJ E res N kd_X12_apartOf t L st H else xW E res N kd_X12_apartOf xm_X12_apartOf hd C k t L st H) (REPR E res) C (some 165) vb_X12_apartOf_159 159 L st H := Eq.trans rfl rfl
theorem xw_X12_apartOf_165 {E : xE} {res : xR} {N : Nat} {hd : List Nat} {C : xCT} {k : Nat} {L : List Int} {st : List pv} {H : PH} : xW E res N kd_X12_apartOf xm_X12_apartOf hd C (k + 1) 165 L st H = xB (fun t L st H => if t ∈ hd then xJ E res N kd_X12_apartOf t L st H else xW E res N kd_X12_apartOf xm_X12_apartOf hd C k t L st H) (REPR E res) C (none) vb_X12_apartOf_165 165 L st H := Eq.trans rfl rfl
def xm_X8_gap : List xbT := [(0, vb_X8_gap_0, some 16), (16, vb_X8_gap_16, some 60), (60, vb_X8_gap_60, some 69), (69, vb_X8_gap_69, some 110), (110, vb_X8_gap_110, some 188), (188, vb_X8_gap_188, some 194), (194, vb_X8_gap_194, none)]
theorem xc_X8_gap : xOK kd_X8_gap xm_X8_gap := ⟨ve_X8_gap_0, ve_X8_gap_16, ve_X8_gap_60, ve_X8_gap_69, ve_X8_gap_110, ve_X8_gap_188, ve_X8_gap_194, trivial⟩
theorem xa_X8_gap : xm_X8_gap.all (fun q => aOKb q.2.1 && !q.2.1.isEmpty) = true := by decide +kernel
theorem xw_X8_gap_0 {E : xE} {res : xR} {N : Nat} {hd : List Nat} {C : xCT} {k : Nat} {L : List Int} {st : List pv} {H : PH} : xW E res N kd_X8_gap xm_X8_gap hd C (k + 1) 0 L st H = xB (fun t L st H => if t ∈ hd then xJ E res N kd_X8_gap t L st H else xW E res N kd_X8_gap xm_X8_gap hd C k t L st H) (REPR E res) C (some 16) vb_X8_gap_0 0 L st H := Eq.trans rfl rfl
theorem xw_X8_gap_16 {E : xE} {res : xR} {N : Nat} {hd : List Nat} {C : xCT} {k : Nat} {L : List Int} {st : List pv} {H : PH} : xW E res N kd_X8_gap xm_X8_gap hd C (k + 1) 16 L st H = xB (fun t L st H => if t ∈ hd then xJ E res N kd_X8_gap t L st H else xW E res N kd_X8_gap xm_X8_gap hd C k t L st H) (REPR E res) C (some 60) vb_X8_gap_16 16 L st H := Eq.trans rfl rfl
theorem xw_X8_gap_60 {E : xE} {res : xR} {N : Nat} {hd : List Nat} {C : xCT} {k : Nat} {L : List Int} {st : List pv} {H : PH} : xW E res N kd_X8_gap xm_X8_gap hd C (k + 1) 60 L st H = xB (fun t L st H => if t ∈ hd then xJ E res N kd_X8_gap t L st H else xW E res N kd_X8_gap xm_X8_gap hd C k t L st H) (REPR E res) C (some 69) vb_X8_gap_60 60 L st H := Eq.trans rfl rfl
theorem xw_X8_gap_69 {E : xE} {res : xR} {N : Nat} {hd : List Nat} {C : xCT} {k : Nat} {L : List Int} {st : List pv} {H : PH} : xW E res N kd_X8_gap xm_X8_gap hd C (k + 1) 69 L st H = xB (fun t L st H => if t ∈ hd then xJ E res N kd_X8_gap t L st H else xW E res N kd_X8_gap xm_X8_gap hd C k t L st H) (REPR E res) C (some 110) vb_X8_gap_69 69 L st H := Eq.trans rfl rfl
theorem xw_X8_gap_110 {E : xE} {res : xR} {N : Nat} {hd : List Nat} {C : xCT} {k : Nat} {L : List Int} {st : List pv} {H : PH} : xW E res N kd_X8_gap xm_X8_gap hd C (k + 1) 110 L st H = xB (fun t L st H => if t ∈ hd then xJ E res N kd_X8_gap t L st H else xW E res N kd_X8_gap xm_X8_gap hd C k t L st H) (REPR E res) C (some 188) vb_X8_gap_110 110 L st H := Eq.trans rfl rfl
theorem xw_X8_gap_188 {E : xE} {res : xR} {N : Nat} {hd : List Nat} {C : xCT} {k : Nat} {L : List Int} {st : List pv} {H : PH} : xW E res N kd_X8_gap xm_X8_gap hd C (k + 1) 188 L st H = xB (fun t L st H => if t ∈ hd then xJ E res N kd_X8_gap t L st H else xW E res N kd_X8_gap xm_X8_gap hd C k t L st H) (REPR E res) C (some 194) vb_X8_gap_188 188 L st H := Eq.trans rfl rfl
theorem xw_X8_gap_194 {E : xE} {res : xR} {N : Nat} {hd : List Nat} {C : xCT} {k : Nat} {L : List Int} {st : List pv} {H : PH} : xW E res N kd_X8_gap xm_X8_gap hd C (k + 1) 194 L st H = xB (fun t L st H => if t ∈ hd then xJ E res N kd_X8_gap t L st H else xW E res N kd_X8_gap xm_X8_gap hd C k t L st H) (REPR E res) C (none) vb_X8_gap_194 194 L st H := Eq.trans rfl rfl
theorem xJ_up {E : xE} {res : xR} {m n : Nat} {cd : zK} {t : Nat} {L : List Int} {st : List pv} {H : PH} (h : xJ E res m cd t L st H) (hm : m ≤ n) : xJ E res n cd t L st H := by
  obtain ⟨q, h1, h2⟩ := h
  exact ⟨q, by omega, h2⟩
/-- couples of like signs -/
def lkA (A : Int → Int) (x y : Int) : Nat → Int → Bool
  | 0, _ => false
  | k + 1, i => if (A (76 + 2 * i) = x ∧ A (76 + 2 * i + 1) = y) ∨ (A (76 + 2 * i) = y ∧ A (76 + 2 * i + 1) = x) then true else lkA A x y k (i + 1)
theorem lkA_t {A : Int → Int} {x y i : Int} {k : Nat} (h : (A (76 + 2 * i) = x ∧ A (76 + 2 * i + 1) = y) ∨ (A (76 + 2 * i) = y ∧ A (76 + 2 * i + 1) = x)) : lkA A x y (k + 1) i = true := if_pos h
theorem lkA_f {A : Int → Int} {x y i : Int} {k : Nat} (h : ¬ ((A (76 + 2 * i) = x ∧ A (76 + 2 * i + 1) = y) ∨ (A (76 + 2 * i) = y ∧ A (76 + 2 * i + 1) = x))) : lkA A x y (k + 1) i = lkA A x y k (i + 1) := if_neg h
def likA (A : Int → Int) (x y : Int) : Bool := lkA A x y (A 1).toNat 0
def chA (A : Int → Int) (x y : Int) : Int := if x = y then 0 else if x = 46 ∨ y = 46 ∨ likA A x y = true then 1 else 3
theorem lp_isLike (x y : Int) (H : PH) (h1 : 0 ≤ H 591 1 ∧ H 591 1 ≤ 8) {E : xE} {res : xR} : ∀ (n : Nat) (i p q : Int), 0 ≤ i → i ≤ H 591 1 → RUN E res n kd_X12_isLike (zget kd_X12_isLike 2) 2 [590, x, y, i, p, q] [] H → REPR E res (some (0, if lkA (H 591) x y (H 591 1 - i).toNat i = true then 1 else 0)) H := by
  intro n
  induction n using Nat.strongRecOn with
  | _ n ih =>
    intro i p q hi0 hi1 h
    have z1 : zw (i + 1) = i + 1 := zw_lit (by omega) (by omega)
    have z2 : zw (2 * i) = 2 * i := zw_lit (by omega) (by omega)
    have z3 : zw (76 + 2 * i) = 76 + 2 * i := zw_lit (by omega) (by omega)
    have z4 : zw (76 + 2 * i + 1) = 76 + 2 * i + 1 := zw_lit (by omega) (by omega)
    have h := xw_top (hd := [2]) 8 xD2_ok xc_X12_isLike xa_X12_isLike (t := 2) rfl h
    simp (maxDischargeDepth := 12) -implicitDefEqProofs [vb_X12_isLike_0, vb_X12_isLike_2, vb_X12_isLike_52, vb_X12_isLike_64, vb_X12_isLike_66, vb_X12_isLike_72, xI_0, xI_1, xI_3, xI_6, xI_7, xI_8, xI_14, xI_16, xI_36, xI_43, xI_44, xI_46, xI_49, xI_51, xI_62, xw_X12_isLike_0, xw_X12_isLike_2, xw_X12_isLike_52, xw_X12_isLike_64, xw_X12_isLike_66, xw_X12_isLike_72, zw_lit, xB_c, xB_s, xB_n, i1_c, j2_c, k1_c, jJ_e, xlg, xls, xla, xpd, ppush, zw_m1, zw_m2, zw_m3, gf_12_0, tg_12_0, gv_590_0, xD1, xD2, z1, z2, z3, z4] at h
    rcases h with ⟨c, h⟩ | ⟨c, h⟩
    · rw [show (H 591 1 - i).toNat = 0 by omega]
      exact h
    · rw [show (H 591 1 - i).toNat = (H 591 1 - (i + 1)).toNat + 1 by omega]
      have go : ∀ {p q : Int}, xJ E res n kd_X12_isLike 2 [590, x, y, i + 1, p, q] [] H → REPR E res (some (0, if lkA (H 591) x y (H 591 1 - (i + 1)).toNat (i + 1) = true then 1 else 0)) H := by
        rintro p q ⟨m, hm, h⟩
        exact ih m hm (i + 1) p q (by omega) (by omega) h
      repeat' (first | (refine Or.elim h ?_ ?_ <;> clear h <;> intro h) | (refine And.elim ?_ h; clear h; intro _ h))
      all_goals first
        | (rw [lkA_t (by omega)]; exact h)
        | (rw [lkA_f (by omega)]; exact go h)
theorem sp_X12_isLike (x y : Int) (H : PH) (h1 : 0 ≤ H 591 1 ∧ H 591 1 ≤ 8) : SPEC 173 [(2, 590), (0, x), (0, y)] H (fun r H' => r = some (0, if likA (H 591) x y = true then 1 else 0) ∧ H' = H) := by
  intro E n res h
  have h := call_runP 6 vm_X12_isLike h
  have h := xw_top (hd := [2]) 8 xD2_ok xc_X12_isLike xa_X12_isLike (t := 0) rfl h
  simp (maxDischargeDepth := 12) -implicitDefEqProofs [vb_X12_isLike_0, vb_X12_isLike_2, vb_X12_isLike_52, vb_X12_isLike_64, vb_X12_isLike_66, vb_X12_isLike_72, xI_0, xI_1, xI_3, xI_6, xI_7, xI_8, xI_14, xI_16, xI_36, xI_43, xI_44, xI_46, xI_49, xI_51, xI_62, xw_X12_isLike_0, xw_X12_isLike_2, xw_X12_isLike_52, xw_X12_isLike_64, xw_X12_isLike_66, xw_X12_isLike_72, zw_lit, xB_c, xB_s, xB_n, i1_c, j2_c, k1_c, jJ_e, xlg, xls, xla, xpd, ppush, zw_m1, zw_m2, zw_m3, gf_12_0, tg_12_0, gv_590_0, xD1, xD2] at h
  obtain ⟨m, hm, h⟩ := h
  have h := lp_isLike x y H h1 m 0 0 0 (by omega) (by omega) h
  rw [Int.sub_zero] at h
  exact ⟨_, _, h, rfl, rfl⟩
def xD3 (E : xE) (n mj : Nat) (as : List pv) (H : PH) (K : Option pv → PH → Prop) : Prop := match mj with
  | 173 => ∀ x y, as = [(2, 590), (0, x), (0, y)] → (0 ≤ H 591 1 ∧ H 591 1 ≤ 8) → K (some (0, (if likA (H 591) x y = true then 1 else 0))) H
  | _ => xD2 E n mj as H K
theorem xD3_ok {E : xE} {n : Nat} : xCC E n (xD3 E n) := by
  intro mj as H K h
  unfold xD3
  split
  · intro x y e pr
    subst e
    obtain ⟨r, H2, ⟨rfl, rfl⟩, g⟩ := xc_use h (sp_X12_isLike x y H pr)
    exact g
  · exact xD2_ok _ _ _ _ h
theorem sp_X12_change (x y : Int) (H : PH) (h1 : 0 ≤ H 591 1 ∧ H 591 1 ≤ 8) : SPEC 194 [(2, 590), (0, x), (0, y)] H (fun r H' => r = some (0, chA (H 591) x y) ∧ H' = H) := by
  intro E n res h
  have h := call_runP 3 vm_X12_change h
  have h := xw_top (hd := []) 7 xD3_ok xc_X12_change xa_X12_change (t := 0) rfl h
  simp (maxDischargeDepth := 12) -implicitDefEqProofs [vb_X12_change_0, vb_X12_change_9, vb_X12_change_30, vb_X12_change_34, vb_X12_change_35, xI_0, xI_1, xI_7, xI_8, xI_36, xI_37, xI_43, xI_44, xI_61, xI_62, xw_X12_change_0, xw_X12_change_9, xw_X12_change_30, xw_X12_change_34, xw_X12_change_35, zw_lit, xB_c, xB_s, xB_n, i1_c, j2_c, k1_c, jJ_e, xlg, xls, xla, xpd, ppush, zw_m1, zw_m2, zw_m3, xD1, xD2, xD3, h1] at h
  repeat' (first | (refine Or.elim h ?_ ?_ <;> clear h <;> intro h) | (refine And.elim ?_ h; clear h; intro _ h))
  all_goals refine ⟨_, _, h, ?_, rfl⟩
  all_goals (unfold chA; simp [*] <;> omega)
