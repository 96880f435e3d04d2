/-! signs on the tape -/
def rnF (sz : Int) (w : Int → Int) (v : Int) : Nat → Int → Int
  | 0, _ => 0
  | n + 1, a => if (48 ≤ nxF sz w a ∧ nxF sz w a ≤ 57) ∨ (65 ≤ nxF sz w a ∧ nxF sz w a ≤ 90) ∨ (¬ v = 0 ∧ nxF sz w a = 46) then 1 + rnF sz w v n (a + 1) else 0
theorem rnF_in (sz : Int) (w : Int → Int) (v : Int) : ∀ (n : Nat) (a : Int), 0 ≤ rnF sz w v n a ∧ rnF sz w v n a ≤ n
  | 0, _ => ⟨Int.le_refl _, Int.le_refl _⟩
  | n + 1, a => by
    have := rnF_in sz w v n (a + 1)
    unfold rnF
    split <;> omega
theorem rnF_min (sz : Int) (w : Int → Int) (v : Int) : ∀ (n : Nat) (a : Int), rnF sz w v n a = min (n : Int) (rnF sz w v (n + 1) a)
  | 0, a => by
    have := rnF_in sz w v (0 + 1) a
    show (0 : Int) = min ((0 : Nat) : Int) (rnF sz w v (0 + 1) a)
    omega
  | n + 1, a => by
    have ih := rnF_min sz w v n (a + 1)
    unfold rnF
    split
    · omega
    · omega
theorem rnF_sg (sz : Int) (w : Int → Int) (v : Int) : ∀ (n : Nat) (a i : Int), 0 ≤ i → i < rnF sz w v n a → a + i < sz ∧ ((48 ≤ nxF sz w (a + i) ∧ nxF sz w (a + i) ≤ 57) ∨ (65 ≤ nxF sz w (a + i) ∧ nxF sz w (a + i) ≤ 90) ∨ (¬ v = 0 ∧ nxF sz w (a + i) = 46))
  | 0, _, i, h0, h1 => by
    have h1 : i < 0 := h1
    omega
  | n + 1, a, i, h0, h1 => by
    unfold rnF at h1
    split at h1
    · rename_i c
      by_cases e : i = 0
      · rw [e, Int.add_zero]
        exact ⟨nxF_lt (w := w) rfl (by omega), c⟩
      · have := rnF_sg sz w v n (a + 1) (i - 1) (by omega) (by omega)
        rw [show a + 1 + (i - 1) = a + i by omega] at this
        exact this
    · omega
/-- the code of a sign, perhaps a worn one -/
def cdW (v c : Int) : Int := if ¬ v = 0 ∧ c = 46 then 37 else cdF c
theorem cdW_0 {v c : Int} : ¬ cdW v c = 0 ↔ (48 ≤ c ∧ c ≤ 57) ∨ (65 ≤ c ∧ c ≤ 90) ∨ (¬ v = 0 ∧ c = 46) := by
  unfold cdW cdF
  omega
theorem cdW_oc {v c : Int} (h : ¬ cdW v c = 0) : 1 ≤ cdW v c ∧ cdW v c ≤ 37 ∧ c = ocF (cdW v c) := by
  unfold cdW at h ⊢
  split
  · rename_i q
    exact ⟨by decide, by decide, q.2⟩
  · rename_i q
    rw [if_neg q] at h
    have := cdF_oc h
    exact ⟨this.1, by omega, this.2.2.1.symm⟩
theorem p42 : ∀ n : Nat, n ≤ 7 → (64 : Int) ^ n ≤ 4398046511104 ∧ (0 : Int) < 64 ^ n := by
  intro n hn
  rcases (by omega : n = 0 ∨ n = 1 ∨ n = 2 ∨ n = 3 ∨ n = 4 ∨ n = 5 ∨ n = 6 ∨ n = 7) with rfl | rfl | rfl | rfl | rfl | rfl | rfl | rfl <;> decide
theorem sp_X8_append (n : Nat) (m c : Int) (H : PH) (hn : n ≤ 7) (hs : szf m = n) (h0 : 0 ≤ m) (h1 : m < 2533274790395904) (hc : 1 ≤ c ∧ c ≤ 37) : SPEC 75 [(1, m), (0, c)] H (fun r H' => r = some (1, m + c * 64 ^ n + 281474976710656) ∧ H' = H) := by
  intro E N res h
  have z : zw ((n : Int) * 6) = ((6 * n : Nat) : Int) := by
    rw [zw_lit (by omega) (by omega)]
    omega
  obtain ⟨b0, b1⟩ := p42 n hn
  have b2 : c * 64 ^ n ≤ 37 * 64 ^ n := Int.mul_le_mul_of_nonneg_right hc.2 (by omega)
  have b3 : 0 ≤ c * 64 ^ n := Int.mul_nonneg (by omega) (by omega)
  have e1 : qil c = c := by
    obtain ⟨k, rfl⟩ := Int.eq_ofNat_of_zero_le (show 0 ≤ c by omega)
    exact qil_ok k (by omega)
  have e2 : qlshl c ((6 * n : Nat) : Int) = c * 64 ^ n := by
    rw [qlshl_ok (by omega) (by omega) (by rw [← (p64 n (by omega)).2]; omega), (p64 n (by omega)).2]
  have e2 : qlshl c (6 * (n : Int)) = c * 64 ^ n := by
    have := e2
    rwa [show ((6 * n : Nat) : Int) = 6 * (n : Int) by omega] at this
  have e3 : qladd m (c * 64 ^ n) = m + c * 64 ^ n := qladd_ok h0 b3 (by omega)
  have e4 : qladd (m + c * 64 ^ n) 281474976710656 = m + c * 64 ^ n + 281474976710656 := qladd_ok (by omega) (by omega) (by omega)
  have h := call_runP 4 vm_X8_append h
  have h := xw_top (hd := []) 3 xD6_ok xc_X8_append xa_X8_append (t := 0) rfl h
  simp (maxDischargeDepth := 12) -implicitDefEqProofs [vb_X8_append_0, xI_1, xI_2, xI_3, xI_8, xI_13, xI_16, xI_27, xI_29, xI_30, xI_60, xI_64, xw_X8_append_0, zw_lit, xB_c, xB_s, xB_n, i1_c, j2_c, k1_c, jJ_e, xlg, xls, xla, xpd, ppush, zw_m1, zw_m2, zw_m3, xD1, xD2, xD3, xD4, xD5, xD6, xb1_0, hs, z, e1, e2, e3, e4] at h
  exact ⟨_, H, h, rfl, rfl⟩
/-- the mark of so many signs from here on -/
def mrk (sz : Int) (w : Int → Int) (v a : Int) (n : Nat) : Int := mkS (fun j => cdW v (nxF sz w (a + j))) n + n * 281474976710656
theorem mrk_VM {sz : Int} {w : Int → Int} {v a : Int} {n : Nat} (hn : 1 ≤ n ∧ n ≤ 8) (h : ∀ i : Int, 0 ≤ i → i < n → ¬ cdW v (nxF sz w (a + i)) = 0) : VM (mrk sz w v a n) n (fun i => nxF sz w (a + i)) := mk_VM hn (fun i i0 i1 => cdW_oc (h i i0 i1))
theorem cdW_rg (v c : Int) : 0 ≤ cdW v c ∧ cdW v c ≤ 63 := by
  unfold cdW cdF
  omega
theorem mrk_in {sz : Int} {w : Int → Int} {v a : Int} {n : Nat} (hn : n ≤ 8) : 0 ≤ mrk sz w v a n ∧ mrk sz w v a n < 2533274790395904 ∧ szf (mrk sz w v a n) = n ∧ (mrk sz w v a n = 0 ↔ n = 0) := by
  have l := mkS_lt8 (g := fun j => cdW v (nxF sz w (a + j))) (fun i _ _ => cdW_rg v _) n hn
  have p := (p64 n hn).1
  have e : mrk sz w v a n = mkS (fun j => cdW v (nxF sz w (a + j))) n + n * 281474976710656 := rfl
  refine ⟨by omega, by omega, ?_, ?_⟩
  · rw [szf_eq (by omega) (by omega) (by omega)]
    omega
  · constructor
    · intro q
      omega
    · rintro rfl
      rw [e]
      rfl
theorem mrk_up (sz : Int) (w : Int → Int) (v a : Int) (n : Nat) : mrk sz w v a (n + 1) = mrk sz w v a n + cdW v (nxF sz w (a + n)) * 64 ^ n + 281474976710656 := by
  show mkS (fun j => cdW v (nxF sz w (a + j))) n + cdW v (nxF sz w (a + n)) * 64 ^ n + ((n + 1 : Nat) : Int) * 281474976710656 = mkS (fun j => cdW v (nxF sz w (a + j))) n + n * 281474976710656 + cdW v (nxF sz w (a + n)) * 64 ^ n + 281474976710656
  omega
set_option maxRecDepth 100000 in
theorem lp_sgs (v : Int) (sz a : Int) (w : Int → Int) {E : xE} {res : xR} : ∀ (n : Nat) (i : Nat) (d c : Int) (H : PH), i ≤ 8 → TP sz w (a + i) H → RUN E res n kd_X10_signs (zget kd_X10_signs 5) 5 [213, v, mrk sz w v a i, d, i, c] [] H → ∃ (H' : PH) (t : Nat), (t : Int) = i + rnF sz w v (8 - i) (a + i) ∧ PF H H' ∧ REPR E res (some (1, mrk sz w v a t)) H' ∧ (1 ≤ t → TP sz w (a + t) H') := by
  intro n
  induction n using Nat.strongRecOn with
  | _ n ih =>
    intro i d c H hi hT h
    have en := TP_nx hT
    have e2 := hT.2.2.1
    have ec := cdF_eq (nxF sz w (a + i))
    obtain ⟨k0, k1, k2, k3⟩ := mrk_in (sz := sz) (w := w) (v := v) (a := a) hi
    have q0 : qlcmp (mrk sz w v a i) 0 = 0 ↔ i = 0 := (qlcmp_0 ⟨k0, by omega⟩ (by decide)).trans k3
    have z1 : zw ((i : Int) + 1) = ((i + 1 : Nat) : Int) := by
      rw [zw_lit (by omega) (by omega)]
      rfl
    by_cases s : cdW v (nxF sz w (a + i)) = 0 ∨ i = 8
    · -- nothing more
      have e : rnF sz w v (8 - i) (a + i) = 0 := by
        by_cases i8 : i = 8
        · rw [i8]
          rfl
        · rw [show 8 - i = (8 - (i + 1)) + 1 by omega]
          unfold rnF
          rw [if_neg (fun q => cdW_0.mpr q (s.resolve_right i8))]
      rw [e]
      have fin : ∀ (H' : PH), (¬ i = 0 → H' = H) → PF H H' → REPR E res (some (1, mrk sz w v a i)) H' → ∃ (H' : PH) (t : Nat), (t : Int) = i + 0 ∧ PF H H' ∧ REPR E res (some (1, mrk sz w v a t)) H' ∧ (1 ≤ t → TP sz w (a + t) H') := fun H' a1 a2 a3 => ⟨H', i, by omega, a2, a3, fun q => by rw [a1 (by omega)]; exact hT⟩
      have i1 : ¬ (i : Int) + 1 = 0 := by omega
      by_cases i8 : i = 8
      · have i0 : ¬ i = 0 := by omega
        have q1 : ¬ qlcmp (mrk sz w v a i) 0 = 0 := fun q => i0 (q0.mp q)
        have h8 : (8 : Int) ≤ (i : Int) := by omega
        have n8 : ¬ (i : Int) < 8 := by omega
        have h := xw_top (hd := [5]) 9 xD6_ok xc_X10_signs xa_X10_signs (t := 5) rfl h
        simp (maxDischargeDepth := 12) -implicitDefEqProofs [vb_X10_signs_0, vb_X10_signs_5, vb_X10_signs_30, vb_X10_signs_37, vb_X10_signs_47, vb_X10_signs_70, vb_X10_signs_85, xI_0, xI_1, xI_2, xI_3, xI_5, xI_6, xI_7, xI_8, xI_12, xI_14, xI_32, xI_33, xI_35, xI_36, xI_37, xI_38, xI_44, xI_46, xI_49, xI_50, xI_60, xI_61, xI_64, xw_X10_signs_0, xw_X10_signs_5, xw_X10_signs_30, xw_X10_signs_37, xw_X10_signs_47, xw_X10_signs_70, xw_X10_signs_85, zw_lit, xB_c, xB_s, xB_n, i1_c, j2_c, k1_c, jJ_e, xlg, xls, xla, xpd, ppush, zw_m1, zw_m2, zw_m3, gf_10_2, pf_10_2, tg_10_2, gv_213_2, xD1, xD2, xD3, xD4, xD5, xD6, xb1_0, en, e2, ec, q1, h8, n8] at h
        exact fin H (fun _ => rfl) PF_refl h
      · have s0 := s.resolve_right i8
        have h8 : ¬ (8 : Int) ≤ (i : Int) := by omega
        have n8 : (i : Int) < 8 := by omega
        have nw : ¬ (¬ v = 0 ∧ nxF sz w (a + i) = 46) := fun q => by
          have : cdW v (nxF sz w (a + i)) = 37 := if_pos q
          omega
        have c0 : cdF (nxF sz w (a + i)) = 0 := by
          have : cdW v (nxF sz w (a + i)) = cdF (nxF sz w (a + i)) := if_neg nw
          omega
        by_cases v0 : v = 0
        · subst v0
          by_cases i0 : i = 0
          · have q1 := q0.mpr i0
            have h := xw_top (hd := [5]) 9 xD6_ok xc_X10_signs xa_X10_signs (t := 5) rfl h
            simp (maxDischargeDepth := 12) -implicitDefEqProofs [vb_X10_signs_0, vb_X10_signs_5, vb_X10_signs_30, vb_X10_signs_37, vb_X10_signs_47, vb_X10_signs_70, vb_X10_signs_85, xI_0, xI_1, xI_2, xI_3, xI_5, xI_6, xI_7, xI_8, xI_12, xI_14, xI_32, xI_33, xI_35, xI_36, xI_37, xI_38, xI_44, xI_46, xI_49, xI_50, xI_60, xI_61, xI_64, xw_X10_signs_0, xw_X10_signs_5, xw_X10_signs_30, xw_X10_signs_37, xw_X10_signs_47, xw_X10_signs_70, xw_X10_signs_85, zw_lit, xB_c, xB_s, xB_n, i1_c, j2_c, k1_c, jJ_e, xlg, xls, xla, xpd, ppush, zw_m1, zw_m2, zw_m3, gf_10_2, pf_10_2, tg_10_2, gv_213_2, xD1, xD2, xD3, xD4, xD5, xD6, xb1_0, en, e2, ec, q1, h8, n8, c0] at h
            obtain ⟨r, H2, ⟨rfl, rfl⟩, h⟩ := xc_use h (sp_X10_fail _ H)
            simp (maxDischargeDepth := 12) -implicitDefEqProofs [vb_X10_signs_0, vb_X10_signs_5, vb_X10_signs_30, vb_X10_signs_37, vb_X10_signs_47, vb_X10_signs_70, vb_X10_signs_85, xI_0, xI_1, xI_2, xI_3, xI_5, xI_6, xI_7, xI_8, xI_12, xI_14, xI_32, xI_33, xI_35, xI_36, xI_37, xI_38, xI_44, xI_46, xI_49, xI_50, xI_60, xI_61, xI_64, xw_X10_signs_0, xw_X10_signs_5, xw_X10_signs_30, xw_X10_signs_37, xw_X10_signs_47, xw_X10_signs_70, xw_X10_signs_85, zw_lit, xB_c, xB_s, xB_n, i1_c, j2_c, k1_c, jJ_e, xlg, xls, xla, xpd, ppush, zw_m1, zw_m2, zw_m3, gf_10_2, pf_10_2, tg_10_2, gv_213_2, xD1, xD2, xD3, xD4, xD5, xD6, xb1_0] at h
            exact fin _ (fun q => (q i0).elim) (PF_up (Or.inr rfl)) h
          · have q1 : ¬ qlcmp (mrk sz w _ a i) 0 = 0 := fun q => i0 (q0.mp q)
            have h := xw_top (hd := [5]) 9 xD6_ok xc_X10_signs xa_X10_signs (t := 5) rfl h
            simp (maxDischargeDepth := 12) -implicitDefEqProofs [vb_X10_signs_0, vb_X10_signs_5, vb_X10_signs_30, vb_X10_signs_37, vb_X10_signs_47, vb_X10_signs_70, vb_X10_signs_85, xI_0, xI_1, xI_2, xI_3, xI_5, xI_6, xI_7, xI_8, xI_12, xI_14, xI_32, xI_33, xI_35, xI_36, xI_37, xI_38, xI_44, xI_46, xI_49, xI_50, xI_60, xI_61, xI_64, xw_X10_signs_0, xw_X10_signs_5, xw_X10_signs_30, xw_X10_signs_37, xw_X10_signs_47, xw_X10_signs_70, xw_X10_signs_85, zw_lit, xB_c, xB_s, xB_n, i1_c, j2_c, k1_c, jJ_e, xlg, xls, xla, xpd, ppush, zw_m1, zw_m2, zw_m3, gf_10_2, pf_10_2, tg_10_2, gv_213_2, xD1, xD2, xD3, xD4, xD5, xD6, xb1_0, en, e2, ec, q1, h8, n8, c0] at h
            exact fin H (fun _ => rfl) PF_refl h
        · have nx : ¬ nxF sz w (a + i) = 46 := fun q => nw ⟨v0, q⟩
          by_cases i0 : i = 0
          · have q1 := q0.mpr i0
            have h := xw_top (hd := [5]) 9 xD6_ok xc_X10_signs xa_X10_signs (t := 5) rfl h
            simp (maxDischargeDepth := 12) -implicitDefEqProofs [vb_X10_signs_0, vb_X10_signs_5, vb_X10_signs_30, vb_X10_signs_37, vb_X10_signs_47, vb_X10_signs_70, vb_X10_signs_85, xI_0, xI_1, xI_2, xI_3, xI_5, xI_6, xI_7, xI_8, xI_12, xI_14, xI_32, xI_33, xI_35, xI_36, xI_37, xI_38, xI_44, xI_46, xI_49, xI_50, xI_60, xI_61, xI_64, xw_X10_signs_0, xw_X10_signs_5, xw_X10_signs_30, xw_X10_signs_37, xw_X10_signs_47, xw_X10_signs_70, xw_X10_signs_85, zw_lit, xB_c, xB_s, xB_n, i1_c, j2_c, k1_c, jJ_e, xlg, xls, xla, xpd, ppush, zw_m1, zw_m2, zw_m3, gf_10_2, pf_10_2, tg_10_2, gv_213_2, xD1, xD2, xD3, xD4, xD5, xD6, xb1_0, en, e2, ec, q1, h8, n8, v0, c0, nx] at h
            obtain ⟨r, H2, ⟨rfl, rfl⟩, h⟩ := xc_use h (sp_X10_fail _ H)
            simp (maxDischargeDepth := 12) -implicitDefEqProofs [vb_X10_signs_0, vb_X10_signs_5, vb_X10_signs_30, vb_X10_signs_37, vb_X10_signs_47, vb_X10_signs_70, vb_X10_signs_85, xI_0, xI_1, xI_2, xI_3, xI_5, xI_6, xI_7, xI_8, xI_12, xI_14, xI_32, xI_33, xI_35, xI_36, xI_37, xI_38, xI_44, xI_46, xI_49, xI_50, xI_60, xI_61, xI_64, xw_X10_signs_0, xw_X10_signs_5, xw_X10_signs_30, xw_X10_signs_37, xw_X10_signs_47, xw_X10_signs_70, xw_X10_signs_85, zw_lit, xB_c, xB_s, xB_n, i1_c, j2_c, k1_c, jJ_e, xlg, xls, xla, xpd, ppush, zw_m1, zw_m2, zw_m3, gf_10_2, pf_10_2, tg_10_2, gv_213_2, xD1, xD2, xD3, xD4, xD5, xD6, xb1_0] at h
            exact fin _ (fun q => (q i0).elim) (PF_up (Or.inr rfl)) h
          · have q1 : ¬ qlcmp (mrk sz w _ a i) 0 = 0 := fun q => i0 (q0.mp q)
            have h := xw_top (hd := [5]) 9 xD6_ok xc_X10_signs xa_X10_signs (t := 5) rfl h
            simp (maxDischargeDepth := 12) -implicitDefEqProofs [vb_X10_signs_0, vb_X10_signs_5, vb_X10_signs_30, vb_X10_signs_37, vb_X10_signs_47, vb_X10_signs_70, vb_X10_signs_85, xI_0, xI_1, xI_2, xI_3, xI_5, xI_6, xI_7, xI_8, xI_12, xI_14, xI_32, xI_33, xI_35, xI_36, xI_37, xI_38, xI_44, xI_46, xI_49, xI_50, xI_60, xI_61, xI_64, xw_X10_signs_0, xw_X10_signs_5, xw_X10_signs_30, xw_X10_signs_37, xw_X10_signs_47, xw_X10_signs_70, xw_X10_signs_85, zw_lit, xB_c, xB_s, xB_n, i1_c, j2_c, k1_c, jJ_e, xlg, xls, xla, xpd, ppush, zw_m1, zw_m2, zw_m3, gf_10_2, pf_10_2, tg_10_2, gv_213_2, xD1, xD2, xD3, xD4, xD5, xD6, xb1_0, en, e2, ec, q1, h8, n8, v0, c0, nx] at h
            exact fin H (fun _ => rfl) PF_refl h
    · -- one sign more
      have s0 : ¬ cdW v (nxF sz w (a + i)) = 0 := fun q => s (Or.inl q)
      have i8 : i < 8 := by omega
      have hl : a + i < sz := nxF_lt (w := w) rfl (by have := cdW_0.mp s0; omega)
      have z2 : zw (a + i + 1) = a + i + 1 := zw_lit (by have := hT.2.2; omega) (by have := hT.2.2; omega)
      have go : ∀ (d c : Int), xJ E res n kd_X10_signs 5 [213, v, mrk sz w v a (i + 1), d, ((i + 1 : Nat) : Int), c] [] (pup H 213 2 (a + i + 1)) → ∃ (H' : PH) (t : Nat), (t : Int) = i + rnF sz w v (8 - i) (a + i) ∧ PF H H' ∧ REPR E res (some (1, mrk sz w v a t)) H' ∧ (1 ≤ t → TP sz w (a + t) H') := by
        rintro d c ⟨m, hm, g⟩
        obtain ⟨H', t, g1, g2, g3, g4⟩ := ih m hm (i + 1) d c _ (by omega) (by have := TP_up hT hl; rw [show a + ((i + 1 : Nat) : Int) = a + i + 1 by omega]; exact this) g
        refine ⟨H', t, ?_, PF_trans (PF_up (Or.inl rfl)) g2, g3, g4⟩
        rw [show 8 - i = (8 - (i + 1)) + 1 by omega]
        unfold rnF
        rw [if_pos (cdW_0.mp s0)]
        rw [show a + ((i + 1 : Nat) : Int) = a + i + 1 by omega] at g1
        omega
      have ap := sp_X8_append i (mrk sz w v a i) (cdW v (nxF sz w (a + i))) H (by omega) k2 k0 k1 (by have := cdW_oc s0; omega)
      rw [← mrk_up] at ap
      have h8 : ¬ (8 : Int) ≤ (i : Int) := by omega
      have n8 : (i : Int) < 8 := by omega
      by_cases wn : ¬ v = 0 ∧ nxF sz w (a + i) = 46
      · have e37 : cdW v (nxF sz w (a + i)) = 37 := if_pos wn
        rw [e37] at ap
        obtain ⟨v0, nx⟩ := wn
        have h := xw_top (hd := [5]) 9 xD6_ok xc_X10_signs xa_X10_signs (t := 5) rfl h
        simp (maxDischargeDepth := 12) -implicitDefEqProofs [vb_X10_signs_0, vb_X10_signs_5, vb_X10_signs_30, vb_X10_signs_37, vb_X10_signs_47, vb_X10_signs_70, vb_X10_signs_85, xI_0, xI_1, xI_2, xI_3, xI_5, xI_6, xI_7, xI_8, xI_12, xI_14, xI_32, xI_33, xI_35, xI_36, xI_37, xI_38, xI_44, xI_46, xI_49, xI_50, xI_60, xI_61, xI_64, xw_X10_signs_0, xw_X10_signs_5, xw_X10_signs_30, xw_X10_signs_37, xw_X10_signs_47, xw_X10_signs_70, xw_X10_signs_85, zw_lit, xB_c, xB_s, xB_n, i1_c, j2_c, k1_c, jJ_e, xlg, xls, xla, xpd, ppush, zw_m1, zw_m2, zw_m3, gf_10_2, pf_10_2, tg_10_2, gv_213_2, xD1, xD2, xD3, xD4, xD5, xD6, xb1_0, en, e2, ec, v0, nx, z1, z2, h8, n8] at h
        obtain ⟨r, H2, ⟨rfl, e9⟩, h⟩ := xc_use h ap
        rw [e9] at h
        simp (maxDischargeDepth := 12) -implicitDefEqProofs [vb_X10_signs_0, vb_X10_signs_5, vb_X10_signs_30, vb_X10_signs_37, vb_X10_signs_47, vb_X10_signs_70, vb_X10_signs_85, xI_0, xI_1, xI_2, xI_3, xI_5, xI_6, xI_7, xI_8, xI_12, xI_14, xI_32, xI_33, xI_35, xI_36, xI_37, xI_38, xI_44, xI_46, xI_49, xI_50, xI_60, xI_61, xI_64, xw_X10_signs_0, xw_X10_signs_5, xw_X10_signs_30, xw_X10_signs_37, xw_X10_signs_47, xw_X10_signs_70, xw_X10_signs_85, zw_lit, xB_c, xB_s, xB_n, i1_c, j2_c, k1_c, jJ_e, xlg, xls, xla, xpd, ppush, zw_m1, zw_m2, zw_m3, gf_10_2, pf_10_2, tg_10_2, gv_213_2, xD1, xD2, xD3, xD4, xD5, xD6, xb1_0, e2, z1, z2] at h
        exact go _ _ h
      · have ecd : cdW v (nxF sz w (a + i)) = cdF (nxF sz w (a + i)) := if_neg wn
        rw [ecd] at ap s0
        by_cases v0 : v = 0
        · subst v0
          have h := xw_top (hd := [5]) 9 xD6_ok xc_X10_signs xa_X10_signs (t := 5) rfl h
          simp (maxDischargeDepth := 12) -implicitDefEqProofs [vb_X10_signs_0, vb_X10_signs_5, vb_X10_signs_30, vb_X10_signs_37, vb_X10_signs_47, vb_X10_signs_70, vb_X10_signs_85, xI_0, xI_1, xI_2, xI_3, xI_5, xI_6, xI_7, xI_8, xI_12, xI_14, xI_32, xI_33, xI_35, xI_36, xI_37, xI_38, xI_44, xI_46, xI_49, xI_50, xI_60, xI_61, xI_64, xw_X10_signs_0, xw_X10_signs_5, xw_X10_signs_30, xw_X10_signs_37, xw_X10_signs_47, xw_X10_signs_70, xw_X10_signs_85, zw_lit, xB_c, xB_s, xB_n, i1_c, j2_c, k1_c, jJ_e, xlg, xls, xla, xpd, ppush, zw_m1, zw_m2, zw_m3, gf_10_2, pf_10_2, tg_10_2, gv_213_2, xD1, xD2, xD3, xD4, xD5, xD6, xb1_0, en, e2, ec, z1, z2, h8, n8, s0] at h
          obtain ⟨r, H2, ⟨rfl, e9⟩, h⟩ := xc_use h ap
          rw [e9] at h
          simp (maxDischargeDepth := 12) -implicitDefEqProofs [vb_X10_signs_0, vb_X10_signs_5, vb_X10_signs_30, vb_X10_signs_37, vb_X10_signs_47, vb_X10_signs_70, vb_X10_signs_85, xI_0, xI_1, xI_2, xI_3, xI_5, xI_6, xI_7, xI_8, xI_12, xI_14, xI_32, xI_33, xI_35, xI_36, xI_37, xI_38, xI_44, xI_46, xI_49, xI_50, xI_60, xI_61, xI_64, xw_X10_signs_0, xw_X10_signs_5, xw_X10_signs_30, xw_X10_signs_37, xw_X10_signs_47, xw_X10_signs_70, xw_X10_signs_85, zw_lit, xB_c, xB_s, xB_n, i1_c, j2_c, k1_c, jJ_e, xlg, xls, xla, xpd, ppush, zw_m1, zw_m2, zw_m3, gf_10_2, pf_10_2, tg_10_2, gv_213_2, xD1, xD2, xD3, xD4, xD5, xD6, xb1_0, e2, z1, z2] at h
          exact go _ _ h
        · have nx : ¬ nxF sz w (a + i) = 46 := fun q => wn ⟨v0, q⟩
          have h := xw_top (hd := [5]) 9 xD6_ok xc_X10_signs xa_X10_signs (t := 5) rfl h
          simp (maxDischargeDepth := 12) -implicitDefEqProofs [vb_X10_signs_0, vb_X10_signs_5, vb_X10_signs_30, vb_X10_signs_37, vb_X10_signs_47, vb_X10_signs_70, vb_X10_signs_85, xI_0, xI_1, xI_2, xI_3, xI_5, xI_6, xI_7, xI_8, xI_12, xI_14, xI_32, xI_33, xI_35, xI_36, xI_37, xI_38, xI_44, xI_46, xI_49, xI_50, xI_60, xI_61, xI_64, xw_X10_signs_0, xw_X10_signs_5, xw_X10_signs_30, xw_X10_signs_37, xw_X10_signs_47, xw_X10_signs_70, xw_X10_signs_85, zw_lit, xB_c, xB_s, xB_n, i1_c, j2_c, k1_c, jJ_e, xlg, xls, xla, xpd, ppush, zw_m1, zw_m2, zw_m3, gf_10_2, pf_10_2, tg_10_2, gv_213_2, xD1, xD2, xD3, xD4, xD5, xD6, xb1_0, en, e2, ec, v0, nx, z1, z2, h8, n8, s0] at h
          obtain ⟨r, H2, ⟨rfl, e9⟩, h⟩ := xc_use h ap
          rw [e9] at h
          simp (maxDischargeDepth := 12) -implicitDefEqProofs [vb_X10_signs_0, vb_X10_signs_5, vb_X10_signs_30, vb_X10_signs_37, vb_X10_signs_47, vb_X10_signs_70, vb_X10_signs_85, xI_0, xI_1, xI_2, xI_3, xI_5, xI_6, xI_7, xI_8, xI_12, xI_14, xI_32, xI_33, xI_35, xI_36, xI_37, xI_38, xI_44, xI_46, xI_49, xI_50, xI_60, xI_61, xI_64, xw_X10_signs_0, xw_X10_signs_5, xw_X10_signs_30, xw_X10_signs_37, xw_X10_signs_47, xw_X10_signs_70, xw_X10_signs_85, zw_lit, xB_c, xB_s, xB_n, i1_c, j2_c, k1_c, jJ_e, xlg, xls, xla, xpd, ppush, zw_m1, zw_m2, zw_m3, gf_10_2, pf_10_2, tg_10_2, gv_213_2, xD1, xD2, xD3, xD4, xD5, xD6, xb1_0, e2, z1, z2] at h
          exact go _ _ h
set_option maxRecDepth 100000 in
/-- signs, as the class reads them: as many as stand there, eight at most -/
theorem sp_X10_signs (v : Int) (sz a : Int) (w : Int → Int) (H : PH) (hT : TP sz w a H) : SPEC 103 [(2, 213), (0, v)] H (fun r H' => PF H H' ∧ r = some (1, mrk sz w v a (rnF sz w v 8 a).toNat) ∧ (1 ≤ rnF sz w v 8 a → TP sz w (a + rnF sz w v 8 a) H')) := by
  intro E n res h
  have h := call_runP 6 vm_X10_signs h
  have h := xw_top (hd := [5]) 9 xD6_ok xc_X10_signs xa_X10_signs (t := 0) rfl h
  simp (maxDischargeDepth := 12) -implicitDefEqProofs [vb_X10_signs_0, vb_X10_signs_5, vb_X10_signs_30, vb_X10_signs_37, vb_X10_signs_47, vb_X10_signs_70, vb_X10_signs_85, xI_0, xI_1, xI_2, xI_3, xI_5, xI_6, xI_7, xI_8, xI_12, xI_14, xI_32, xI_33, xI_35, xI_36, xI_37, xI_38, xI_44, xI_46, xI_49, xI_50, xI_60, xI_61, xI_64, xw_X10_signs_0, xw_X10_signs_5, xw_X10_signs_30, xw_X10_signs_37, xw_X10_signs_47, xw_X10_signs_70, xw_X10_signs_85, zw_lit, xB_c, xB_s, xB_n, i1_c, j2_c, k1_c, jJ_e, xlg, xls, xla, xpd, ppush, zw_m1, zw_m2, zw_m3, gf_10_2, pf_10_2, tg_10_2, gv_213_2, xD1, xD2, xD3, xD4, xD5, xD6, xb1_0] at h
  obtain ⟨m, hm, h⟩ := h
  obtain ⟨H', t, g1, g2, g3, g4⟩ := lp_sgs v sz a w m 0 0 0 H (by omega) (by rw [show a + ((0 : Nat) : Int) = a by omega]; exact hT) h
  rw [show a + ((0 : Nat) : Int) = a by omega, show 8 - 0 = 8 by omega] at g1
  have e : (rnF sz w v 8 a).toNat = t := by omega
  refine ⟨_, H', g3, g2, by rw [e], fun q => ?_⟩
  have := g4 (by omega)
  rw [show a + rnF sz w v 8 a = a + (t : Int) by omega]
  exact this
