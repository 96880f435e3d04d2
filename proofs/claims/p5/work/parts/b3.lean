/-! the class's law, the whole -/
theorem pce_all (w sz : Int) (T : Int → Int) (hw : KW w) (hT0 : ∀ i, 0 ≤ i → i < sz → 0 ≤ T i ∧ T i ≤ 255) : ∀ (m : Nat) (d : Int), d + m = 9 → 1 ≤ d → PCE 45 w sz T d (sSm (lwTh T sz m) T sz)
  | 0, d, hd, d1 => sp_X4_takeSum w sz d T _ hw (pPr_g (lwTh_g 0)) (sp_X4_takeProduct w sz d T _ hw (lwTh_g 0) (sp_X4_takeThing w sz T hw hT0 d 0 hd d1 (fun q => by omega)))
  | m + 1, d, hd, d1 => sp_X4_takeSum w sz d T _ hw (pPr_g (lwTh_g (m + 1))) (sp_X4_takeProduct w sz d T _ hw (lwTh_g (m + 1)) (sp_X4_takeThing w sz T hw hT0 d (m + 1) hd d1 (fun _ => pce_all w sz T hw hT0 m (d + 1) (by omega) (by omega))))
/-- the cells of a law that was read -/
def LKq (w : Int) (H : PH) (q : Int × List Int) : Prop := H w 2 = q.2.length ∧ H w 3 = q.1 ∧ ∀ k : Nat, k < q.2.length → VC (H (w + 1) k) ∧ enC (H (w + 1) k) = q.2.getD k 0
set_option maxRecDepth 100000 in
theorem sp_X4_takeFrom (w sz : Int) (T : Int → Int) (H : PH) (hw : KW w) (hT0 : ∀ i, 0 ≤ i → i < sz → 0 ≤ T i ∧ T i ≤ 255) (h1 : H 213 1 = sz) (hT : H 214 = T) (hs : 0 ≤ sz ∧ sz ≤ 600) : SPEC 44 [(2, w), (2, 213)] H (fun r H' => LFw w H H' ∧ ((∃ q : Int × List Int, lwAll T sz = some q ∧ r = some (0, q.1) ∧ LKq w H' q) ∨ (lwAll T sz = none ∧ r = some (0, -1)))) := by
  intro E n res h
  obtain ⟨g0, g1, g2, g3⟩ := KW_f hw
  have k1 : ¬ (213 : Int) = w := fun e => (KW_213 hw).1 e.symm
  have k2 : ¬ w = 213 := (KW_213 hw).1
  have p0 : PF (pup (pup H w 2 0) w 3 0) (pup (pup (pup (pup H w 2 0) w 3 0) 213 2 0) 213 3 (-1)) := PF_trans (PF_up (Or.inl rfl)) (PF_up (Or.inr rfl))
  have l0 : LFw w H (pup (pup H w 2 0) w 3 0) := ⟨fun c c1 c2 c3 => by rw [xp_ne c1, xp_ne c1], fun i i2 i3 => by rw [xp_at, if_neg i3, xp_at, if_neg i2], fun i _ _ => by rw [xp_ne k1, xp_ne k1]⟩
  have l1 := LFw_trans l0 (LFw_PF hw p0)
  have e213 : pup (pup (pup (pup H w 2 0) w 3 0) 213 2 0) 213 3 (-1) 213 1 = sz := by rw [xp_at, if_neg (by decide), xp_at, if_neg (by decide), xp_ne k1, xp_ne k1]; exact h1
  have lk : LKc w (pup (pup (pup (pup H w 2 0) w 3 0) 213 2 0) 213 3 (-1)) (0, 0, []) := by
    refine ⟨?_, ?_, fun k hk => ?_⟩
    · rw [xp_ne k2, xp_ne k2, xp_at, if_neg (by decide), xp_at, if_pos rfl]
      rfl
    · rw [xp_ne k2, xp_ne k2, xp_at, if_pos rfl]
    · have : k < 0 := hk
      omega
  by_cases z0 : sz = 0
  · have h := call_runP 2 vm_X4_takeFrom h
    have h := xw_top (hd := []) 6 xD6_ok xc_X4_takeFrom xa_X4_takeFrom (t := 0) rfl h
    simp (maxDischargeDepth := 12) -implicitDefEqProofs [vb_X4_takeFrom_0, vb_X4_takeFrom_23, vb_X4_takeFrom_34, vb_X4_takeFrom_56, xI_0, xI_7, xI_35, xI_38, xI_46, xI_49, xI_50, xI_61, xI_62, xw_X4_takeFrom_0, xw_X4_takeFrom_23, xw_X4_takeFrom_34, xw_X4_takeFrom_56, zw_lit, xB_c, xB_s, xB_n, i1_c, j2_c, k1_c, jJ_e, xlg, xls, xla, xpd, ppush, zw_m1, zw_m2, zw_m3, gf_4_3, gf_10_1, gf_10_2, pf_4_2, pf_4_3, tg_10_1, tg_10_2, tg_4_2, tg_4_3, gv_213_1, gv_213_2, xD1, xD2, xD3, xD4, xD5, xD6, xb1_0, g2, g3] at h
    obtain ⟨r, H1, ⟨rfl, rfl⟩, g⟩ := xc_use h (sp_X10_rewind _)
    simp (maxDischargeDepth := 12) -implicitDefEqProofs [vb_X4_takeFrom_0, vb_X4_takeFrom_23, vb_X4_takeFrom_34, vb_X4_takeFrom_56, xI_0, xI_7, xI_35, xI_38, xI_46, xI_49, xI_50, xI_61, xI_62, xw_X4_takeFrom_0, xw_X4_takeFrom_23, xw_X4_takeFrom_34, xw_X4_takeFrom_56, zw_lit, xB_c, xB_s, xB_n, i1_c, j2_c, k1_c, jJ_e, xlg, xls, xla, xpd, ppush, zw_m1, zw_m2, zw_m3, gf_4_3, gf_10_1, gf_10_2, pf_4_2, pf_4_3, tg_10_1, tg_10_2, tg_4_2, tg_4_3, gv_213_1, gv_213_2, xD1, xD2, xD3, xD4, xD5, xD6, xb1_0, e213, z0] at g
    have e : lwAll T sz = some (0, []) := by
      unfold lwAll
      rw [if_pos (by omega)]
    exact ⟨_, _, g, l1, Or.inl ⟨(0, []), e, rfl, lk⟩⟩
  · have h := call_runP 2 vm_X4_takeFrom h
    have h := xw_top (hd := []) 6 xD6_ok xc_X4_takeFrom xa_X4_takeFrom (t := 0) rfl h
    simp (maxDischargeDepth := 12) -implicitDefEqProofs [vb_X4_takeFrom_0, vb_X4_takeFrom_23, vb_X4_takeFrom_34, vb_X4_takeFrom_56, xI_0, xI_7, xI_35, xI_38, xI_46, xI_49, xI_50, xI_61, xI_62, xw_X4_takeFrom_0, xw_X4_takeFrom_23, xw_X4_takeFrom_34, xw_X4_takeFrom_56, zw_lit, xB_c, xB_s, xB_n, i1_c, j2_c, k1_c, jJ_e, xlg, xls, xla, xpd, ppush, zw_m1, zw_m2, zw_m3, gf_4_3, gf_10_1, gf_10_2, pf_4_2, pf_4_3, tg_10_1, tg_10_2, tg_4_2, tg_4_3, gv_213_1, gv_213_2, xD1, xD2, xD3, xD4, xD5, xD6, xb1_0, g2, g3] at h
    obtain ⟨r, H1, ⟨rfl, rfl⟩, g⟩ := xc_use h (sp_X10_rewind _)
    simp (maxDischargeDepth := 12) -implicitDefEqProofs [vb_X4_takeFrom_0, vb_X4_takeFrom_23, vb_X4_takeFrom_34, vb_X4_takeFrom_56, xI_0, xI_7, xI_35, xI_38, xI_46, xI_49, xI_50, xI_61, xI_62, xw_X4_takeFrom_0, xw_X4_takeFrom_23, xw_X4_takeFrom_34, xw_X4_takeFrom_56, zw_lit, xB_c, xB_s, xB_n, i1_c, j2_c, k1_c, jJ_e, xlg, xls, xla, xpd, ppush, zw_m1, zw_m2, zw_m3, gf_4_3, gf_10_1, gf_10_2, pf_4_2, pf_4_3, tg_10_1, tg_10_2, tg_4_2, tg_4_3, gv_213_1, gv_213_2, xD1, xD2, xD3, xD4, xD5, xD6, xb1_0, e213, z0] at g
    have tp : TP sz T 0 (pup (pup (pup (pup H w 2 0) w 3 0) 213 2 0) 213 3 (-1)) := ⟨e213, by rw [xp_ne (by decide), xp_ne (by decide), xp_ne (fun e => (KW_213 hw).2.2.1 e.symm), xp_ne (fun e => (KW_213 hw).2.2.1 e.symm)]; exact hT, by rw [xp_at, if_neg (by decide), xp_at, if_pos rfl], by omega, by omega, by omega⟩
    obtain ⟨r, H2, ⟨v, s, rfl, l2, r2⟩, g⟩ := xc_use g (pce_all w sz T hw hT0 8 1 (by decide) (by decide) (0, 0, []) _ tp ⟨by decide, by show (0 : Int) ≤ sz; omega, by decide, by decide, by decide⟩ lk)
    have ea : lwAll T sz = (match sSm (lwTh T sz 8) T sz (0, 0, []) with
      | none => none
      | some s => if s.1 < sz then none else some s.2) := by
      unfold lwAll
      rw [if_neg (by omega)]
      cases sSm (lwTh T sz 8) T sz (0, 0, []) <;> rfl
    have l3 := LFw_trans l1 l2
    rcases r2 with ⟨rfl, f1, t1, t2, t3⟩ | ⟨rfl, f1⟩ | ⟨rfl, f1, t1, t2⟩
    · have e1 := t2.1
      have e2 := t2.2.2.1
      rw [f1] at ea
      by_cases c : s.1 < sz
      · have c' : ¬ sz ≤ s.1 := by omega
        simp (maxDischargeDepth := 12) -implicitDefEqProofs [vb_X4_takeFrom_0, vb_X4_takeFrom_23, vb_X4_takeFrom_34, vb_X4_takeFrom_56, xI_0, xI_7, xI_35, xI_38, xI_46, xI_49, xI_50, xI_61, xI_62, xw_X4_takeFrom_0, xw_X4_takeFrom_23, xw_X4_takeFrom_34, xw_X4_takeFrom_56, zw_lit, xB_c, xB_s, xB_n, i1_c, j2_c, k1_c, jJ_e, xlg, xls, xla, xpd, ppush, zw_m1, zw_m2, zw_m3, gf_4_3, gf_10_1, gf_10_2, pf_4_2, pf_4_3, tg_10_1, tg_10_2, tg_4_2, tg_4_3, gv_213_1, gv_213_2, xD1, xD2, xD3, xD4, xD5, xD6, xb1_0, e1, e2, c, c'] at g
        obtain ⟨r, H3, ⟨rfl, rfl⟩, g⟩ := xc_use g (sp_X10_fail s.1 H2)
        exact ⟨_, _, g, LFw_trans l3 (LFw_PF hw (PF_up (Or.inr rfl))), Or.inr ⟨ea.trans (if_pos c), rfl⟩⟩
      · have c' : sz ≤ s.1 := by omega
        have e3 := t3.2.1
        simp (maxDischargeDepth := 12) -implicitDefEqProofs [vb_X4_takeFrom_0, vb_X4_takeFrom_23, vb_X4_takeFrom_34, vb_X4_takeFrom_56, xI_0, xI_7, xI_35, xI_38, xI_46, xI_49, xI_50, xI_61, xI_62, xw_X4_takeFrom_0, xw_X4_takeFrom_23, xw_X4_takeFrom_34, xw_X4_takeFrom_56, zw_lit, xB_c, xB_s, xB_n, i1_c, j2_c, k1_c, jJ_e, xlg, xls, xla, xpd, ppush, zw_m1, zw_m2, zw_m3, gf_4_3, gf_10_1, gf_10_2, pf_4_2, pf_4_3, tg_10_1, tg_10_2, tg_4_2, tg_4_3, gv_213_1, gv_213_2, xD1, xD2, xD3, xD4, xD5, xD6, xb1_0, e1, e2, c, c', g3, e3] at g
        exact ⟨_, _, g, l3, Or.inl ⟨s.2, ea.trans (if_neg c), rfl, t3⟩⟩
    · simp (maxDischargeDepth := 12) -implicitDefEqProofs [vb_X4_takeFrom_0, vb_X4_takeFrom_23, vb_X4_takeFrom_34, vb_X4_takeFrom_56, xI_0, xI_7, xI_35, xI_38, xI_46, xI_49, xI_50, xI_61, xI_62, xw_X4_takeFrom_0, xw_X4_takeFrom_23, xw_X4_takeFrom_34, xw_X4_takeFrom_56, zw_lit, xB_c, xB_s, xB_n, i1_c, j2_c, k1_c, jJ_e, xlg, xls, xla, xpd, ppush, zw_m1, zw_m2, zw_m3, gf_4_3, gf_10_1, gf_10_2, pf_4_2, pf_4_3, tg_10_1, tg_10_2, tg_4_2, tg_4_3, gv_213_1, gv_213_2, xD1, xD2, xD3, xD4, xD5, xD6, xb1_0] at g
      rw [f1] at ea
      exact ⟨_, _, g, l3, Or.inr ⟨ea, rfl⟩⟩
    · rw [f1] at ea
      have e1 := t2.1
      have e2 := t2.2.2.1
      unfold isD at t1
      have c : s.1 < sz := nxF_lt (w := T) rfl (by omega)
      have c' : ¬ sz ≤ s.1 := by omega
      simp (maxDischargeDepth := 12) -implicitDefEqProofs [vb_X4_takeFrom_0, vb_X4_takeFrom_23, vb_X4_takeFrom_34, vb_X4_takeFrom_56, xI_0, xI_7, xI_35, xI_38, xI_46, xI_49, xI_50, xI_61, xI_62, xw_X4_takeFrom_0, xw_X4_takeFrom_23, xw_X4_takeFrom_34, xw_X4_takeFrom_56, zw_lit, xB_c, xB_s, xB_n, i1_c, j2_c, k1_c, jJ_e, xlg, xls, xla, xpd, ppush, zw_m1, zw_m2, zw_m3, gf_4_3, gf_10_1, gf_10_2, pf_4_2, pf_4_3, tg_10_1, tg_10_2, tg_4_2, tg_4_3, gv_213_1, gv_213_2, xD1, xD2, xD3, xD4, xD5, xD6, xb1_0, e1, e2, c, c'] at g
      obtain ⟨r, H3, ⟨rfl, rfl⟩, g⟩ := xc_use g (sp_X10_fail s.1 H2)
      exact ⟨_, _, g, LFw_trans l3 (LFw_PF hw (PF_up (Or.inr rfl))), Or.inr ⟨ea, rfl⟩⟩
/-- the row with a law that was read -/
def lwB (A : Int → Int) (q : Int × List Int) : Int → Int := fun j => if j = 10 then q.1 else if j = 11 then q.2.length else if 12 ≤ j ∧ j < 12 + q.2.length then q.2.getD (j - 12).toNat 0 else A j
theorem lwB_o {A : Int → Int} {q : Int × List Int} {j : Int} (h60 : (q.2.length : Int) ≤ 60) (h : ¬ (10 ≤ j ∧ j < 76)) : lwB A q j = A j := by
  unfold lwB
  rw [if_neg (by omega), if_neg (by omega), if_neg (by omega)]
theorem lwB_k {A : Int → Int} {q : Int × List Int} {k : Nat} (hk : k < q.2.length) : lwB A q (12 + k) = q.2.getD k 0 := by
  unfold lwB
  rw [if_neg (by omega), if_neg (by omega), if_pos (by omega), show (12 + (k : Int) - 12).toNat = k by omega]
theorem getD_in {l : List Int} (h : WLl l) (k : Nat) : -1000000 < l.getD k 0 ∧ l.getD k 0 < 1000000 := by
  by_cases c : k < l.length
  · have := h.2.2 k (by omega)
    exact ⟨this.1, this.2.1⟩
  · have : ∀ (l : List Int) (k : Nat), l.length ≤ k → l.getD k 0 = 0 := by
      intro l
      induction l with
      | nil => intro k _; rfl
      | cons a l ih =>
        intro k hk
        cases k with
        | zero => have : l.length + 1 ≤ 0 := hk; omega
        | succ k => exact ih k (by have : l.length + 1 ≤ k + 1 := hk; omega)
    rw [this l k (by omega)]
    decide
theorem OKR_law {A T : Int → Int} {z : Int} {q : Int × List Int} (h : OKR A) (e : lwAll T z = some q) : OKR (lwB A q) := by
  obtain ⟨w1, w2, w3⟩ := lwAll_W e
  have l60 := w1.2.1
  obtain ⟨h1, h2, h3, h4⟩ := h
  have o : ∀ j, ¬ (10 ≤ j ∧ j < 76) → lwB A q j = A j := fun j hj => lwB_o l60 hj
  have e10 : lwB A q 10 = q.1 := if_pos rfl
  have e11 : lwB A q 11 = q.2.length := rfl
  obtain ⟨a0, a1, a2, a3, a4, a5, a6⟩ := h1
  refine ⟨⟨by rw [o 0 (by decide)]; exact a0, by rw [o 1 (by decide)]; exact a1, by rw [o 2 (by decide)]; exact a2, fun b b0 b1 => by rw [o _ (by omega)]; exact a3 b b0 b1, fun b b0 b1 => by rw [o _ (by omega)]; exact a4 b b0 b1, fun k k0 k1 => by rw [o _ (by omega)]; exact a5 k k0 k1, fun j j0 j1 => ?_⟩, ⟨?_, by rw [e10, e11]; exact w3⟩, ?_, fun b b0 b1 => ?_, fun k k0 k1 => ?_⟩
  · unfold lwB zIn
    split
    · omega
    · split
      · omega
      · split
        · have := getD_in w1 (j - 12).toNat
          omega
        · exact a6 j j0 j1
  · rw [e11]
    exact WFL_eq w1 (fun k hk => (lwB_k (by omega)).symm)
  · unfold OKS
    rw [o 3 (by decide), o 4 (by decide), o 5 (by decide), o 6 (by decide), o 7 (by decide), o 8 (by decide)]
    exact h3
  · rw [o 0 (by decide)] at b1
    rw [o _ (by omega), o _ (by omega), o _ (by omega), o (92 + 26 * b + 13) (by omega)]
    obtain ⟨x1, x2, x3, x4⟩ := h4.1 b b0 b1
    exact ⟨x1, x2, x3, fun i i0 i1 => by rw [o _ (by omega), o _ (by omega)]; exact x4 i i0 i1⟩
  · rw [o 2 (by decide)] at k1
    rw [o _ (by omega), o _ (by omega), o _ (by omega)]
    exact h4.2 k k0 k1
