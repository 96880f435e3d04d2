def KB (c : Int) : Prop := 0 ≤ c ∧ c < 622 ∧ (zSh c.toNat).1 = 0
noncomputable def KB_t (c : Nat) : Bool := !Nat.beq (zSh c).1 0 || ((zrt c 6 == some (1 + (c : Int))) && (zrt c 7 == some (2 + (c : Int))) && (zrt c 0).isNone && (zrt c 1).isNone && (zrt c 2).isNone && (zrt c 3).isNone && (zrt c 4).isNone && (zrt c 5).isNone && Nat.blt (c + 2) 622)
theorem KB_all : (List.range 622).all KB_t = true := by decide +kernel
theorem KB_f {c : Int} (h : KB c) : (∀ X : PH, gv X c 6 = c + 1) ∧ (∀ X : PH, gv X c 7 = c + 2) ∧ (∀ X : PH, gv X c 0 = X c 0) ∧ (∀ X : PH, gv X c 1 = X c 1) ∧ (∀ X : PH, gv X c 2 = X c 2) ∧ (∀ X : PH, gv X c 3 = X c 3) ∧ (∀ X : PH, gv X c 4 = X c 4) ∧ (∀ X : PH, gv X c 5 = X c 5) ∧ c + 2 < 622 := by
  obtain ⟨h0, h1, h2⟩ := h
  have q := List.all_eq_true.mp KB_all c.toNat (List.mem_range.mpr (by omega))
  unfold KB_t at q
  rw [h2] at q
  have ec : ((c.toNat : Nat) : Int) = c := by omega
  simp only [Nat.beq_refl, Bool.not_true, Bool.false_or, Bool.and_eq_true, beq_iff_eq, Option.isNone_iff_eq_none, Nat.blt_eq] at q
  obtain ⟨⟨⟨⟨⟨⟨⟨⟨q0, q1⟩, q2⟩, q3⟩, q4⟩, q5⟩, q6⟩, q7⟩, q8⟩ := q
  refine ⟨?_, ?_, ?_, ?_, ?_, ?_, ?_, ?_, ?_⟩
  · intro X
    show gv X c 6 = c + 1
    unfold gv
    rw [show ((6 : Int)).toNat = 6 from rfl, q0]
    show (1 : Int) + (c.toNat : Int) = c + 1
    omega
  · intro X
    show gv X c 7 = c + 2
    unfold gv
    rw [show ((7 : Int)).toNat = 7 from rfl, q1]
    show (2 : Int) + (c.toNat : Int) = c + 2
    omega
  · intro X
    show gv X c 0 = X c 0
    unfold gv
    rw [show ((0 : Int)).toNat = 0 from rfl, q2]
  · intro X
    show gv X c 1 = X c 1
    unfold gv
    rw [show ((1 : Int)).toNat = 1 from rfl, q3]
  · intro X
    show gv X c 2 = X c 2
    unfold gv
    rw [show ((2 : Int)).toNat = 2 from rfl, q4]
  · intro X
    show gv X c 3 = X c 3
    unfold gv
    rw [show ((3 : Int)).toNat = 3 from rfl, q5]
  · intro X
    show gv X c 4 = X c 4
    unfold gv
    rw [show ((4 : Int)).toNat = 4 from rfl, q6]
  · intro X
    show gv X c 5 = X c 5
    unfold gv
    rw [show ((5 : Int)).toNat = 5 from rfl, q7]
  · omega
def KW (c : Int) : Prop := 0 ≤ c ∧ c < 622 ∧ (zSh c.toNat).1 = 4
noncomputable def KW_t (c : Nat) : Bool := !Nat.beq (zSh c).1 4 || ((zrt c 0 == some (1 + (c : Int))) && (zrt c 1 == some (2 + (c : Int))) && (zrt c 2).isNone && (zrt c 3).isNone && Nat.blt (c + 2) 622)
theorem KW_all : (List.range 622).all KW_t = true := by decide +kernel
theorem KW_f {c : Int} (h : KW c) : (∀ X : PH, gv X c 0 = c + 1) ∧ (∀ X : PH, gv X c 1 = c + 2) ∧ (∀ X : PH, gv X c 2 = X c 2) ∧ (∀ X : PH, gv X c 3 = X c 3) ∧ c + 2 < 622 := by
  obtain ⟨h0, h1, h2⟩ := h
  have q := List.all_eq_true.mp KW_all c.toNat (List.mem_range.mpr (by omega))
  unfold KW_t at q
  rw [h2] at q
  have ec : ((c.toNat : Nat) : Int) = c := by omega
  simp only [Nat.beq_refl, Bool.not_true, Bool.false_or, Bool.and_eq_true, beq_iff_eq, Option.isNone_iff_eq_none, Nat.blt_eq] at q
  obtain ⟨⟨⟨⟨q0, q1⟩, q2⟩, q3⟩, q4⟩ := q
  refine ⟨?_, ?_, ?_, ?_, ?_⟩
  · intro X
    show gv X c 0 = c + 1
    unfold gv
    rw [show ((0 : Int)).toNat = 0 from rfl, q0]
    show (1 : Int) + (c.toNat : Int) = c + 1
    omega
  · intro X
    show gv X c 1 = c + 2
    unfold gv
    rw [show ((1 : Int)).toNat = 1 from rfl, q1]
    show (2 : Int) + (c.toNat : Int) = c + 2
    omega
  · intro X
    show gv X c 2 = X c 2
    unfold gv
    rw [show ((2 : Int)).toNat = 2 from rfl, q2]
  · intro X
    show gv X c 3 = X c 3
    unfold gv
    rw [show ((3 : Int)).toNat = 3 from rfl, q3]
  · omega
def KL (c : Int) : Prop := 0 ≤ c ∧ c < 622 ∧ (zSh c.toNat).1 = 5
noncomputable def KL_t (c : Nat) : Bool := !Nat.beq (zSh c).1 5 || ((zrt c 5 == some (1 + (c : Int))) && (zrt c 0).isNone && (zrt c 1).isNone && (zrt c 2).isNone && (zrt c 3).isNone && (zrt c 4).isNone && Nat.blt (c + 1) 622)
theorem KL_all : (List.range 622).all KL_t = true := by decide +kernel
theorem KL_f {c : Int} (h : KL c) : (∀ X : PH, gv X c 5 = c + 1) ∧ (∀ X : PH, gv X c 0 = X c 0) ∧ (∀ X : PH, gv X c 1 = X c 1) ∧ (∀ X : PH, gv X c 2 = X c 2) ∧ (∀ X : PH, gv X c 3 = X c 3) ∧ (∀ X : PH, gv X c 4 = X c 4) ∧ c + 1 < 622 := by
  obtain ⟨h0, h1, h2⟩ := h
  have q := List.all_eq_true.mp KL_all c.toNat (List.mem_range.mpr (by omega))
  unfold KL_t at q
  rw [h2] at q
  have ec : ((c.toNat : Nat) : Int) = c := by omega
  simp only [Nat.beq_refl, Bool.not_true, Bool.false_or, Bool.and_eq_true, beq_iff_eq, Option.isNone_iff_eq_none, Nat.blt_eq] at q
  obtain ⟨⟨⟨⟨⟨⟨q0, q1⟩, q2⟩, q3⟩, q4⟩, q5⟩, q6⟩ := q
  refine ⟨?_, ?_, ?_, ?_, ?_, ?_, ?_⟩
  · intro X
    show gv X c 5 = c + 1
    unfold gv
    rw [show ((5 : Int)).toNat = 5 from rfl, q0]
    show (1 : Int) + (c.toNat : Int) = c + 1
    omega
  · intro X
    show gv X c 0 = X c 0
    unfold gv
    rw [show ((0 : Int)).toNat = 0 from rfl, q1]
  · intro X
    show gv X c 1 = X c 1
    unfold gv
    rw [show ((1 : Int)).toNat = 1 from rfl, q2]
  · intro X
    show gv X c 2 = X c 2
    unfold gv
    rw [show ((2 : Int)).toNat = 2 from rfl, q3]
  · intro X
    show gv X c 3 = X c 3
    unfold gv
    rw [show ((3 : Int)).toNat = 3 from rfl, q4]
  · intro X
    show gv X c 4 = X c 4
    unfold gv
    rw [show ((4 : Int)).toNat = 4 from rfl, q5]
  · omega
def KD (c : Int) : Prop := 0 ≤ c ∧ c < 622 ∧ (zSh c.toNat).1 = 2
noncomputable def KD_t (c : Nat) : Bool := !Nat.beq (zSh c).1 2 || ((zrt c 0).isNone && (zrt c 1).isNone && (zrt c 2).isNone && (zrt c 3).isNone && (zrt c 4).isNone && (zrt c 5).isNone && Nat.blt (c + 0) 622)
theorem KD_all : (List.range 622).all KD_t = true := by decide +kernel
theorem KD_f {c : Int} (h : KD c) : (∀ X : PH, gv X c 0 = X c 0) ∧ (∀ X : PH, gv X c 1 = X c 1) ∧ (∀ X : PH, gv X c 2 = X c 2) ∧ (∀ X : PH, gv X c 3 = X c 3) ∧ (∀ X : PH, gv X c 4 = X c 4) ∧ (∀ X : PH, gv X c 5 = X c 5) ∧ c + 0 < 622 := by
  obtain ⟨h0, h1, h2⟩ := h
  have q := List.all_eq_true.mp KD_all c.toNat (List.mem_range.mpr (by omega))
  unfold KD_t at q
  rw [h2] at q
  have ec : ((c.toNat : Nat) : Int) = c := by omega
  simp only [Nat.beq_refl, Bool.not_true, Bool.false_or, Bool.and_eq_true, beq_iff_eq, Option.isNone_iff_eq_none, Nat.blt_eq] at q
  obtain ⟨⟨⟨⟨⟨⟨q0, q1⟩, q2⟩, q3⟩, q4⟩, q5⟩, q6⟩ := q
  refine ⟨?_, ?_, ?_, ?_, ?_, ?_, ?_⟩
  · intro X
    show gv X c 0 = X c 0
    unfold gv
    rw [show ((0 : Int)).toNat = 0 from rfl, q0]
  · intro X
    show gv X c 1 = X c 1
    unfold gv
    rw [show ((1 : Int)).toNat = 1 from rfl, q1]
  · intro X
    show gv X c 2 = X c 2
    unfold gv
    rw [show ((2 : Int)).toNat = 2 from rfl, q2]
  · intro X
    show gv X c 3 = X c 3
    unfold gv
    rw [show ((3 : Int)).toNat = 3 from rfl, q3]
  · intro X
    show gv X c 4 = X c 4
    unfold gv
    rw [show ((4 : Int)).toNat = 4 from rfl, q4]
  · intro X
    show gv X c 5 = X c 5
    unfold gv
    rw [show ((5 : Int)).toNat = 5 from rfl, q5]
  · omega
theorem gv46_all : ∀ b : Nat, b < 12 → zrt 46 b = some (57 + 3 * (b : Int)) ∧ (zSh (57 + 3 * b)).1 = 0 := by decide +kernel
theorem gv46 {H : PH} {b : Int} (h0 : 0 ≤ b) (h1 : b < 12) : gv H 46 b = 57 + 3 * b := by
  obtain ⟨n, rfl⟩ := Int.eq_ofNat_of_zero_le h0
  unfold gv
  have e : zrt (46 : Int).toNat ((n : Int)).toNat = some (57 + 3 * (n : Int)) := by
    rw [Int.toNat_natCast]
    exact (gv46_all n (by omega)).1
  rw [e]
theorem KB_of {b : Int} (h0 : 0 ≤ b) (h1 : b < 12) : KB (57 + 3 * b) := by
  obtain ⟨n, rfl⟩ := Int.eq_ofNat_of_zero_le h0
  refine ⟨by omega, by omega, ?_⟩
  rw [show (57 + 3 * (n : Int)).toNat = 57 + 3 * n by omega]
  exact (gv46_all n (by omega)).2
theorem gv47 {H : PH} {k : Int} : gv H 47 k = H 47 k := by
  unfold gv
  have e : zrt (47 : Int).toNat k.toNat = none := by
    unfold zrt
    have : zrtL (47 : Int).toNat = [] := by decide +kernel
    rw [this]
    rfl
  rw [e]
theorem zrtL_47 : zrtL (47 : Int).toNat = [] := by decide +kernel
/-! the class's law: a code stands for what the model writes -/
def enC (x : Int) : Int := if 0 ≤ x then x else if x = -115 then 10000 else if x = -111 then 10001 else if x = -99 then 10002 else 11000 - x
/-- codes that a law has -/
def VC (x : Int) : Prop := (0 ≤ x ∧ x < 10000) ∨ x = -115 ∨ x = -111 ∨ x = -99 ∨ x = -43 ∨ x = -45 ∨ x = -42 ∨ x = -47 ∨ x = -60 ∨ x = -62
theorem enC_op {x : Int} (h : VC x) : (¬ enC x < 11000 ↔ (-x = 43 ∨ -x = 45) ∨ (-x = 42 ∨ -x = 47 ∨ -x = 60 ∨ -x = 62)) ∧ (enC x < 11000 → ∀ a b c, psV (enC x) a b c = vlV x a b c) ∧ (¬ enC x < 11000 → enC x - 11000 = -x) := by
  unfold VC at h
  unfold enC psV vlV
  refine ⟨by omega, fun _ a b c => by omega, by omega⟩
theorem lp_agC (c ship shore cnt : Int) (H0 : PH) (hc : KW c) (hV : ∀ k, 0 ≤ k → k < H0 c 2 → VC (H0 (c + 1) k)) (hL : WFL (fun k => enC (H0 (c + 1) k)) (H0 c 2)) (hp : 0 < H0 c 2) {E : xE} {res : xR} : ∀ (n : Nat) (k : Nat) (u v : Int) (t : pS) (H : PH), (k : Int) ≤ H0 c 2 → (∀ d, ¬ d = c + 2 → H d = H0 d) → t.1 = dpF (fun k => enC (H0 (c + 1) k)) k → (∀ x, 0 ≤ x → x < t.1 → H (c + 2) x = t.2 x) → RUN E res n kd_X4_agree (zget kd_X4_agree 19) 19 [c, ship, shore, cnt, t.1, (k : Int), u, v] [] H → ∃ H' : PH, (∀ d, ¬ d = c + 2 → H' d = H0 d) ∧ REPR E res (some (0, max 0 (min 1000000 ((agF (fun k => enC (H0 (c + 1) k)) ship shore cnt (H0 c 2 - k).toNat k t).2 0)))) H' := by
  obtain ⟨f0, f1, f2, f3, f4⟩ := KW_f hc
  have hc0 : 0 ≤ c := hc.1
  have i1 : 0 ≤ c + 1 := by omega
  have i2 : 0 ≤ c + 2 := by omega
  intro n
  induction n using Nat.strongRecOn with
  | _ n ih =>
    intro k u v t H hk hH ht hP h
    have hl := hL.1
    have hu := hL.2.1
    obtain ⟨d0, d1, d2⟩ := dpF_pos hL k hk
    have z1 : zw ((k : Int) + 1) = (k : Int) + 1 := zw_lit (by omega) (by omega)
    have z3 : zw (t.1 + 1) = t.1 + 1 := zw_lit (by omega) (by omega)
    have z4 : zw (t.1 + 4294967295) = t.1 - 1 := zw_dec (by omega) (by omega)
    have z5 : zw (t.1 - 1 - 1) = t.1 - 2 := by
      rw [zw_lit (by omega) (by omega)]
      omega
    have hc2 : H c 2 = H0 c 2 := by rw [hH c (by omega)]
    have hc1 : H (c + 1) = H0 (c + 1) := hH _ (by omega)
    by_cases q : H0 c 2 ≤ (k : Int)
    · have h := xw_top (hd := [19]) 11 xD5_ok xc_X4_agree xa_X4_agree (t := 19) rfl h
      simp (maxDischargeDepth := 12) -implicitDefEqProofs [vb_X4_agree_0, vb_X4_agree_13, vb_X4_agree_19, vb_X4_agree_55, vb_X4_agree_59, vb_X4_agree_60, vb_X4_agree_110, vb_X4_agree_140, vb_X4_agree_146, xI_0, xI_1, xI_3, xI_6, xI_7, xI_8, xI_10, xI_15, xI_25, xI_36, xI_37, xI_38, xI_45, xI_46, xI_49, xI_51, xI_52, xI_55, xI_56, xI_60, xI_62, xw_X4_agree_0, xw_X4_agree_13, xw_X4_agree_19, xw_X4_agree_55, xw_X4_agree_59, xw_X4_agree_60, xw_X4_agree_110, xw_X4_agree_140, xw_X4_agree_146, zw_lit, xB_c, xB_s, xB_n, i1_c, j2_c, k1_c, jJ_e, xlg, xls, xla, xpd, ppush, zw_m1, zw_m2, zw_m3, gf_4_0, gf_4_1, gf_4_2, tg_4_0, tg_4_1, tg_4_2, xD1, xD2, xD3, xD4, xD5, f0, f1, f2, i1, i2, hc2, hc1, mn_a, mn_b] at h
      rcases h with ⟨_, h⟩ | ⟨q', h⟩
      · rw [show (H0 c 2 - (k : Int)).toNat = 0 by omega]
        rw [hP 0 (Int.le_refl _) (by rw [ht]; have := d2 (by omega); omega)] at h
        exact ⟨H, hH, (by rw [Int.min_comm 1000000]; exact h)⟩
      · omega
    · obtain ⟨w0, w1, g1, g2⟩ := hL.2.2 k (by omega)
      have hv := hV k (by omega) (by omega)
      obtain ⟨o1, o2, o3⟩ := enC_op hv
      have hr : -2147483648 < H0 (c + 1) k ∧ H0 (c + 1) k ≤ 2147483647 := by
        unfold VC at hv
        omega
      have en := ng_q1 hr.1 hr.2
      have es : dpF (fun k => enC (H0 (c + 1) k)) (k + 1) = if enC (H0 (c + 1) k) < 11000 then dpF (fun k => enC (H0 (c + 1) k)) k + 1 else dpF (fun k => enC (H0 (c + 1) k)) k - 1 := rfl
      rw [show (H0 c 2 - (k : Int)).toNat = (H0 c 2 - ((k + 1 : Nat) : Int)).toNat + 1 by omega]
      unfold agF
      have fin : ∀ (u x : Int) (H3 : PH), H3 = pup H (c + 2) u x → (agS (enC (H0 (c + 1) k)) ship shore cnt t).2 = xup t.2 u x → (agS (enC (H0 (c + 1) k)) ship shore cnt t).1 = dpF (fun k => enC (H0 (c + 1) k)) (k + 1) → (∀ y, 0 ≤ y → y < (agS (enC (H0 (c + 1) k)) ship shore cnt t).1 → y = u ∨ y < t.1) → ∀ y z : Int, xJ E res n kd_X4_agree 19 [c, ship, shore, cnt, (agS (enC (H0 (c + 1) k)) ship shore cnt t).1, (k : Int) + 1, y, z] [] H3 → ∃ H' : PH, (∀ d, ¬ d = c + 2 → H' d = H0 d) ∧ REPR E res (some (0, max 0 (min 1000000 ((agF (fun k => enC (H0 (c + 1) k)) ship shore cnt (H0 c 2 - ((k + 1 : Nat) : Int)).toNat (k + 1) (agS (enC (H0 (c + 1) k)) ship shore cnt t)).2 0)))) H' := by
        rintro u x H3 rfl a1 a2 a3 y z ⟨m, hm, a4⟩
        rw [show (k : Int) + 1 = ((k + 1 : Nat) : Int) by omega] at a4
        exact ih m hm (k + 1) y z _ _ (by omega) (fun d hd => by rw [xp_ne hd]; exact hH d hd) a2 (fun z z0 z1 => by
          rw [a1, xp_at]
          unfold xup
          split
          · rfl
          · exact hP z z0 (by have := a3 z z0 z1; omega)) a4
      by_cases cc : enC (H0 (c + 1) k) < 11000
      · have ea : agS (enC (H0 (c + 1) k)) ship shore cnt t = (t.1 + 1, xup t.2 t.1 (psV (enC (H0 (c + 1) k)) ship shore cnt)) := if_pos cc
        rw [if_pos cc] at es
        rw [ea] at fin ⊢
        dsimp only at fin
        have g1 : dpF (fun k => enC (H0 (c + 1) k)) k ≤ 29 := g1 cc
        have nop : ¬ ((-(H0 (c + 1) k) = 43 ∨ -(H0 (c + 1) k) = 45) ∨ (-(H0 (c + 1) k) = 42 ∨ -(H0 (c + 1) k) = 47 ∨ -(H0 (c + 1) k) = 60 ∨ -(H0 (c + 1) k) = 62)) := fun e => o1.mpr e cc
        have n1 : xb1 (-(H0 (c + 1) k) = 43 ∨ -(H0 (c + 1) k) = 45) = 0 := xb1_f (by omega)
        have n2 : xb1 (-(H0 (c + 1) k) = 42 ∨ -(H0 (c + 1) k) = 47 ∨ -(H0 (c + 1) k) = 60 ∨ -(H0 (c + 1) k) = 62) = 0 := xb1_f (by omega)
        have lt : t.1 < 30 := by omega
        have h := xw_top (hd := [19]) 11 xD5_ok xc_X4_agree xa_X4_agree (t := 19) rfl h
        simp (maxDischargeDepth := 12) -implicitDefEqProofs [vb_X4_agree_0, vb_X4_agree_13, vb_X4_agree_19, vb_X4_agree_55, vb_X4_agree_59, vb_X4_agree_60, vb_X4_agree_110, vb_X4_agree_140, vb_X4_agree_146, xI_0, xI_1, xI_3, xI_6, xI_7, xI_8, xI_10, xI_15, xI_25, xI_36, xI_37, xI_38, xI_45, xI_46, xI_49, xI_51, xI_52, xI_55, xI_56, xI_60, xI_62, xw_X4_agree_0, xw_X4_agree_13, xw_X4_agree_19, xw_X4_agree_55, xw_X4_agree_59, xw_X4_agree_60, xw_X4_agree_110, xw_X4_agree_140, xw_X4_agree_146, zw_lit, xB_c, xB_s, xB_n, i1_c, j2_c, k1_c, jJ_e, xlg, xls, xla, xpd, ppush, zw_m1, zw_m2, zw_m3, gf_4_0, gf_4_1, gf_4_2, tg_4_0, tg_4_1, tg_4_2, xD1, xD2, xD3, xD4, xD5, f0, f1, f2, i1, i2, hc2, hc1, z1, z3, en, n1, n2, hr] at h
        rcases h with ⟨q', h⟩ | ⟨_, h⟩
        · omega
        · rcases h with ⟨c', h⟩ | ⟨_, h⟩
          · omega
          · refine fin t.1 (vlV (H0 (c + 1) k) ship shore cnt) _ rfl (by rw [← o2 cc]) (by show t.1 + 1 = _; omega) (by intro y y0 (y1 : y < t.1 + 1); omega) _ _ (h _ _ _ _ rfl rfl rfl rfl hr.1 hr.2)
      · have ea : agS (enC (H0 (c + 1) k)) ship shore cnt t = (t.1 - 1, xup t.2 (t.1 - 2) (jnV (enC (H0 (c + 1) k) - 11000) (t.2 (t.1 - 2)) (t.2 (t.1 - 1)))) := if_neg cc
        rw [if_neg cc] at es
        rw [ea] at fin ⊢
        dsimp only at fin
        have d3 := g2 cc
        have d3 : 2 ≤ dpF (fun k => enC (H0 (c + 1) k)) k := d3
        have p1 : H (c + 2) (t.1 - 2) = t.2 (t.1 - 2) := hP _ (by omega) (by omega)
        have p2 : H (c + 2) (t.1 - 1) = t.2 (t.1 - 1) := hP _ (by omega) (by omega)
        have op := o1.mp cc
        have lt : 2 ≤ t.1 := by omega
        have e11 := o3 cc
        have go : xJ E res n kd_X4_agree 19 [c, ship, shore, cnt, t.1 - 1, (k : Int) + 1, H0 (c + 1) k, 1] [] (pup H (c + 2) (t.1 - 2) (jnV (-(H0 (c + 1) k)) (t.2 (t.1 - 2)) (t.2 (t.1 - 1)))) → ∃ H' : PH, (∀ d, ¬ d = c + 2 → H' d = H0 d) ∧ REPR E res (some (0, max 0 (min 1000000 ((agF (fun k => enC (H0 (c + 1) k)) ship shore cnt (H0 c 2 - ((k + 1 : Nat) : Int)).toNat (k + 1) (t.1 - 1, xup t.2 (t.1 - 2) (jnV (enC (H0 (c + 1) k) - 11000) (t.2 (t.1 - 2)) (t.2 (t.1 - 1))))).2 0)))) H' := fun h => fin (t.1 - 2) (jnV (-(H0 (c + 1) k)) (t.2 (t.1 - 2)) (t.2 (t.1 - 1))) _ rfl (by rw [e11]) (by show t.1 - 1 = _; omega) (by intro y y0 (y1 : y < t.1 - 1); omega) _ _ h
        by_cases b1 : -(H0 (c + 1) k) = 43 ∨ -(H0 (c + 1) k) = 45
        · have n1 : xb1 (-(H0 (c + 1) k) = 43 ∨ -(H0 (c + 1) k) = 45) = 1 := xb1_t b1
          have h := xw_top (hd := [19]) 11 xD5_ok xc_X4_agree xa_X4_agree (t := 19) rfl h
          simp (maxDischargeDepth := 12) -implicitDefEqProofs [vb_X4_agree_0, vb_X4_agree_13, vb_X4_agree_19, vb_X4_agree_55, vb_X4_agree_59, vb_X4_agree_60, vb_X4_agree_110, vb_X4_agree_140, vb_X4_agree_146, xI_0, xI_1, xI_3, xI_6, xI_7, xI_8, xI_10, xI_15, xI_25, xI_36, xI_37, xI_38, xI_45, xI_46, xI_49, xI_51, xI_52, xI_55, xI_56, xI_60, xI_62, xw_X4_agree_0, xw_X4_agree_13, xw_X4_agree_19, xw_X4_agree_55, xw_X4_agree_59, xw_X4_agree_60, xw_X4_agree_110, xw_X4_agree_140, xw_X4_agree_146, zw_lit, xB_c, xB_s, xB_n, i1_c, j2_c, k1_c, jJ_e, xlg, xls, xla, xpd, ppush, zw_m1, zw_m2, zw_m3, gf_4_0, gf_4_1, gf_4_2, tg_4_0, tg_4_1, tg_4_2, xD1, xD2, xD3, xD4, xD5, f0, f1, f2, i1, i2, hc2, hc1, z1, z3, z4, z5, en, n1, hr, p1, p2] at h
          rcases h with ⟨q', h⟩ | ⟨_, h⟩
          · omega
          · rcases h with ⟨c', h⟩ | ⟨_, h⟩
            · omega
            · exact go h
        · have n1 : xb1 (-(H0 (c + 1) k) = 43 ∨ -(H0 (c + 1) k) = 45) = 0 := xb1_f b1
          have n2 : xb1 (-(H0 (c + 1) k) = 42 ∨ -(H0 (c + 1) k) = 47 ∨ -(H0 (c + 1) k) = 60 ∨ -(H0 (c + 1) k) = 62) = 1 := xb1_t (by omega)
          have h := xw_top (hd := [19]) 11 xD5_ok xc_X4_agree xa_X4_agree (t := 19) rfl h
          simp (maxDischargeDepth := 12) -implicitDefEqProofs [vb_X4_agree_0, vb_X4_agree_13, vb_X4_agree_19, vb_X4_agree_55, vb_X4_agree_59, vb_X4_agree_60, vb_X4_agree_110, vb_X4_agree_140, vb_X4_agree_146, xI_0, xI_1, xI_3, xI_6, xI_7, xI_8, xI_10, xI_15, xI_25, xI_36, xI_37, xI_38, xI_45, xI_46, xI_49, xI_51, xI_52, xI_55, xI_56, xI_60, xI_62, xw_X4_agree_0, xw_X4_agree_13, xw_X4_agree_19, xw_X4_agree_55, xw_X4_agree_59, xw_X4_agree_60, xw_X4_agree_110, xw_X4_agree_140, xw_X4_agree_146, zw_lit, xB_c, xB_s, xB_n, i1_c, j2_c, k1_c, jJ_e, xlg, xls, xla, xpd, ppush, zw_m1, zw_m2, zw_m3, gf_4_0, gf_4_1, gf_4_2, tg_4_0, tg_4_1, tg_4_2, xD1, xD2, xD3, xD4, xD5, f0, f1, f2, i1, i2, hc2, hc1, z1, z3, z4, z5, en, n1, n2, hr, p1, p2] at h
          rcases h with ⟨q', h⟩ | ⟨_, h⟩
          · omega
          · rcases h with ⟨c', h⟩ | ⟨_, h⟩
            · omega
            · exact go h
theorem sp_X4_agree (c ship shore cnt : Int) (H : PH) (hc : KW c) (hV : ∀ k, 0 ≤ k → k < H c 2 → VC (H (c + 1) k)) (hL : WFL (fun k => enC (H (c + 1) k)) (H c 2)) : SPEC 51 [(2, c), (0, ship), (0, shore), (0, cnt)] H (fun r H' => r = some (0, if H c 2 = 0 then min ship shore else agV (fun k => enC (H (c + 1) k)) (H c 2) ship shore cnt) ∧ ∀ d, ¬ d = c + 2 → H' d = H d) := by
  intro E n res h
  obtain ⟨f0, f1, f2, f3, f4⟩ := KW_f hc
  by_cases q : H c 2 = 0
  · have h := call_runP 8 vm_X4_agree h
    have h := xw_top (hd := [19]) 11 xD5_ok xc_X4_agree xa_X4_agree (t := 0) rfl h
    simp (maxDischargeDepth := 12) -implicitDefEqProofs [vb_X4_agree_0, vb_X4_agree_13, vb_X4_agree_19, vb_X4_agree_55, vb_X4_agree_59, vb_X4_agree_60, vb_X4_agree_110, vb_X4_agree_140, vb_X4_agree_146, xI_0, xI_1, xI_3, xI_6, xI_7, xI_8, xI_10, xI_15, xI_25, xI_36, xI_37, xI_38, xI_45, xI_46, xI_49, xI_51, xI_52, xI_55, xI_56, xI_60, xI_62, xw_X4_agree_0, xw_X4_agree_13, xw_X4_agree_19, xw_X4_agree_55, xw_X4_agree_59, xw_X4_agree_60, xw_X4_agree_110, xw_X4_agree_140, xw_X4_agree_146, zw_lit, xB_c, xB_s, xB_n, i1_c, j2_c, k1_c, jJ_e, xlg, xls, xla, xpd, ppush, zw_m1, zw_m2, zw_m3, gf_4_0, gf_4_1, gf_4_2, tg_4_0, tg_4_1, tg_4_2, xD1, xD2, xD3, xD4, xD5, q, f2, mn_a] at h
    refine ⟨_, H, h, ?_, fun _ _ => rfl⟩
    rw [if_pos q, Int.min_comm]
  · have h := call_runP 8 vm_X4_agree h
    have h := xw_top (hd := [19]) 11 xD5_ok xc_X4_agree xa_X4_agree (t := 0) rfl h
    simp (maxDischargeDepth := 12) -implicitDefEqProofs [vb_X4_agree_0, vb_X4_agree_13, vb_X4_agree_19, vb_X4_agree_55, vb_X4_agree_59, vb_X4_agree_60, vb_X4_agree_110, vb_X4_agree_140, vb_X4_agree_146, xI_0, xI_1, xI_3, xI_6, xI_7, xI_8, xI_10, xI_15, xI_25, xI_36, xI_37, xI_38, xI_45, xI_46, xI_49, xI_51, xI_52, xI_55, xI_56, xI_60, xI_62, xw_X4_agree_0, xw_X4_agree_13, xw_X4_agree_19, xw_X4_agree_55, xw_X4_agree_59, xw_X4_agree_60, xw_X4_agree_110, xw_X4_agree_140, xw_X4_agree_146, zw_lit, xB_c, xB_s, xB_n, i1_c, j2_c, k1_c, jJ_e, xlg, xls, xla, xpd, ppush, zw_m1, zw_m2, zw_m3, gf_4_0, gf_4_1, gf_4_2, tg_4_0, tg_4_1, tg_4_2, xD1, xD2, xD3, xD4, xD5, q, f2] at h
    obtain ⟨m, hm, h⟩ := h
    have hp : 0 < H c 2 := by
      have := hL.1
      omega
    obtain ⟨H', g1, g2⟩ := lp_agC c ship shore cnt H hc hV hL hp m 0 0 0 (0, fun _ => 0) H (by omega) (fun _ _ => rfl) rfl (fun x x0 (x1 : x < 0) => by omega) h
    refine ⟨_, H', g2, ?_, g1⟩
    unfold agV
    rw [if_neg q, show H c 2 - ((0 : Nat) : Int) = H c 2 by omega]
