/-! ===== the class reads the law: products and sums ===== -/
/-- a part of the law, read by the class -/
def Ptk : pP := fun as H => LC (ai as 0) ∧ LGd (H 213 1) (sC H (ai as 0))
def Rtk (f : (Int → Int) → Int → LwS → Option LwS) : pR := fun as H r H' => ∃ w, r = some (0, w) ∧ H' 213 1 = H 213 1 ∧ tkR (f (H 214) (H 213 1)) (sC H (ai as 0)) (sC H' (ai as 0)) w (nxb (H 214) (H 213 1) (H' 213 2))
theorem q1_neg {x : Int} (h : -2147483648 < x) (h2 : x < 2147483648) : q1 (fun x => -x) x = -x := by
  have a := zI_zu (x := x) ⟨by omega, h2⟩
  unfold q1
  show (-(zI (zu x))).toInt = -x
  rw [Int32.toInt_neg, a, Int.bmod_def]
  omega
theorem encC_op {v : Int} (h : isP v ∨ isS v) : encC (q1 (fun x => -x) v) = 11000 + v := by
  have e : q1 (fun x => -x) v = -v := q1_neg (by omega) (by omega)
  unfold encC
  rw [e, if_neg (by omega), if_neg (by omega), if_neg (by omega), if_neg (by omega)]
  omega
theorem sC_len {H : PH} {c : Int} (h : 0 ≤ H c 2) : ((sC H c).2.2.length : Int) = H c 2 := cdC_len h
/-- behind the second of two: the sign is worked -/
theorem add_p {f : LwS → Option LwS} {T : Int → Int} {z : Int} {o : Option LwS} {w i : Int} {s : LwS} {H2 H3 : PH} {c v : Int} (hf : thG f z) (hc : LC c) (r0 : 0 ≤ H2 c 2) (hg : LGd z (s.1 + 1, s.2)) (ho : o = (match f (s.1 + 1, s.2) with
    | none => none
    | some s1 => pLp f T z (30 - (i + 1)).toNat (pst s1 (11000 + v)))) (hk : tkR f (s.1 + 1, s.2) (sC H2 c) w (nxb T z (H2 213 2))) (hl : (s.2.2.length : Int) + 1 ≤ 2 * s.2.1) (hv : isP v) (hA : H2 c 2 < 60 → H3 = pup (pup H2 (c + 1) (H2 c 2) (q1 (fun x => -x) v)) c 2 (H2 c 2 + 1)) (h3 : H3 213 2 = H2 213 2) : lpI (pLp f T z) T z o w (i + 1) (sC H3 c) := by
  have ht : 1 ≤ s.2.1 := by omega
  by_cases h : H2 c 2 < 60
  · have e := lpI_next_p (v := 11000 + v) hf hg ho hk rfl ht hl
    rw [hA h, sC_add hc r0, encC_op (Or.inl hv)]
    exact e
  · rcases hk with ⟨a, b⟩ | ⟨a, b⟩ | ⟨a, b, d⟩
    · obtain ⟨g1, ⟨u1, u2, u3⟩, g3⟩ := hf _ _ hg b
      have u3 : ((sC H2 c).2.2.length : Int) + 1 - 2 * (sC H2 c).2.1 ≤ (s.2.2.length : Int) - 2 * s.2.1 := u3
      have := g1.2.2.2.1
      rw [sC_len r0] at u3
      omega
    · rw [b] at ho
      exact Or.inr (Or.inl ⟨a, ho⟩)
    · rw [b] at ho
      refine Or.inr (Or.inr ⟨a, ho, ?_⟩)
      show isD (nxb T z (H3 213 2))
      rw [h3]
      exact d
theorem add_s {f : LwS → Option LwS} {T : Int → Int} {z : Int} {o : Option LwS} {w i : Int} {s : LwS} {H2 H3 : PH} {c v : Int} (hf : thG f z) (hc : LC c) (r0 : 0 ≤ H2 c 2) (hg : LGd z (s.1 + 1, s.2)) (ho : o = (match pPr f T z (s.1 + 1, s.2) with
    | none => none
    | some s1 => sLp f T z (30 - (i + 1)).toNat (pst s1 (11000 + v)))) (hk : tkR (pPr f T z) (s.1 + 1, s.2) (sC H2 c) w (nxb T z (H2 213 2))) (hl : (s.2.2.length : Int) + 1 ≤ 2 * s.2.1) (hv : isS v) (hA : H2 c 2 < 60 → H3 = pup (pup H2 (c + 1) (H2 c 2) (q1 (fun x => -x) v)) c 2 (H2 c 2 + 1)) (h3 : H3 213 2 = H2 213 2) : lpI (sLp f T z) T z o w (i + 1) (sC H3 c) := by
  have ht : 1 ≤ s.2.1 := by omega
  by_cases h : H2 c 2 < 60
  · have e := lpI_next_s (v := 11000 + v) hf hg ho hk rfl ht hl
    rw [hA h, sC_add hc r0, encC_op (Or.inr hv)]
    exact e
  · rcases hk with ⟨a, b⟩ | ⟨a, b⟩ | ⟨a, b, d⟩
    · obtain ⟨g1, ⟨u1, u2, u3⟩, g3⟩ := pPr_g hf _ _ hg b
      have u3 : ((sC H2 c).2.2.length : Int) + 1 - 2 * (sC H2 c).2.1 ≤ (s.2.2.length : Int) - 2 * s.2.1 := u3
      have := g1.2.2.2.1
      rw [sC_len r0] at u3
      omega
    · rw [b] at ho
      exact Or.inr (Or.inl ⟨a, ho⟩)
    · rw [b] at ho
      refine Or.inr (Or.inr ⟨a, ho, ?_⟩)
      show isD (nxb T z (H3 213 2))
      rw [h3]
      exact d
theorem sC_at {H : PH} {c : Int} (hc : LC c) : sC (pup H 213 2 (H 213 2 + 1)) c = ((sC H c).1 + 1, (sC H c).2) := (sC_213 hc).trans (by rw [show pup H 213 2 (H 213 2 + 1) 213 2 = H 213 2 + 1 from if_pos ⟨rfl, rfl⟩]; rfl)

def bm_X4_takeProduct : List aB := [(0, vb_X4_takeProduct_0, some 10), (10, vb_X4_takeProduct_10, some 67), (67, vb_X4_takeProduct_67, none)]
theorem il_X4_takeProduct_0 {Inv : pJ} {Q2 : Option pv → PH → Prop} {F : Nat → List pv → PH → (Option pv → PH → Prop) → Prop} {n : Nat} {ls : PL} {st : List pv} {H : PH} (h : wFB (IC bm_X4_takeProduct Inv Q2 F n) Q2 F (some 10) vb_X4_takeProduct_0 0 ls st H) : IC bm_X4_takeProduct Inv Q2 F (n + 1) 0 ls st H := Or.inr h
theorem il_X4_takeProduct_10 {Inv : pJ} {Q2 : Option pv → PH → Prop} {F : Nat → List pv → PH → (Option pv → PH → Prop) → Prop} {n : Nat} {ls : PL} {st : List pv} {H : PH} (h : wFB (IC bm_X4_takeProduct Inv Q2 F n) Q2 F (some 67) vb_X4_takeProduct_10 10 ls st H) : IC bm_X4_takeProduct Inv Q2 F (n + 1) 10 ls st H := Or.inr h
theorem il_X4_takeProduct_67 {Inv : pJ} {Q2 : Option pv → PH → Prop} {F : Nat → List pv → PH → (Option pv → PH → Prop) → Prop} {n : Nat} {ls : PL} {st : List pv} {H : PH} (h : wFB (IC bm_X4_takeProduct Inv Q2 F n) Q2 F (none) vb_X4_takeProduct_67 67 ls st H) : IC bm_X4_takeProduct Inv Q2 F (n + 1) 67 ls st H := Or.inr h

def iv_X4_takeProduct (H : PH) (c d : Int) (m : Nat) : pJ := fun t ls st H' => (t = 10 ∧ st = [] ∧ ∃ w : Int, ∃ i : Int, pget ls 0 = some (2, c) ∧ pget ls 1 = some (2, 213) ∧ pget ls 2 = some (0, d) ∧ pget ls 3 = some (0, w) ∧ pget ls 4 = some (0, i) ∧ 0 ≤ i ∧ i ≤ 30 ∧ H' 213 1 = H 213 1 ∧ H' 214 = H 214 ∧ lpI (pLp (lwTh (H 214) (H 213 1) m) (H 214) (H 213 1)) (H 214) (H 213 1) (pPr (lwTh (H 214) (H 213 1) m) (H 214) (H 213 1) (sC H c)) w i (sC H' c))
def po_X4_takeProduct (H : PH) (c d : Int) (m : Nat) : Option pv → PH → Prop := fun r H' => ∃ w, r = some (0, w) ∧ H' 213 1 = H 213 1 ∧ tkR (pPr (lwTh (H 214) (H 213 1) m) (H 214) (H 213 1)) (sC H c) (sC H' c) w (nxb (H 214) (H 213 1) (H' 213 2))
set_option maxRecDepth 20000 in
set_option maxHeartbeats 4000000 in
theorem hf_X4_takeProduct {RG : pG} {lv : Nat} {g : Nat → Nat → Int} {T : List aL} (c d : Int) (m : Nat) (hT : RG 47 = (Ptk, Rtk (fun T z => lwTh T z m), [4, 10, 47, 3010, 4004, 4010])) (hN : RG 95 = ((fun _ _ => True), Rnext, [])) (hP : RG 49 = ((fun _ _ => True), RisP, [])) (hA : RG 50 = ((fun _ _ => True), Radd, [4, 47])) (H : PH) (hW : WT lv g H) (hc : LC c) (hg : LGd (H 213 1) (sC H c)) : IC bm_X4_takeProduct (iv_X4_takeProduct H c d m) (po_X4_takeProduct H c d m) (FX RG lv g) 5 0 [(0, (2, c)), (1, (2, 213)), (2, (0, d))] [] H ∧ ∀ (t : Nat) (ls : PL) (st : List pv) (H' : PH), iv_X4_takeProduct H c d m t ls st H' → gmT T t ls st H' → WT lv g H' → frm [4, 10, 47, 3010, 4004, 4010] H H' → wFB (IC bm_X4_takeProduct (iv_X4_takeProduct H c d m) (po_X4_takeProduct H c d m) (FX RG lv g) 5) (po_X4_takeProduct H c d m) (FX RG lv g) (bget bm_X4_takeProduct t).2 (bget bm_X4_takeProduct t).1 t ls st H' := by
  have hc0 : 0 ≤ c + 1 := by have := hc.1; omega
  refine ⟨?_, ?_⟩
  · skip
    refine il_X4_takeProduct_0 ?_
    simp (maxDischargeDepth := 12) [vb_X4_takeProduct_0, wFB, wF, k1, kI, kR, kL, k2, pget, pgs, pgx, ngs, ngn, ppush, pcat, ite01, zw_lit, zw_m1, zw_m2, zw_m3, zNC_eq, zrow, pup_app, tg_10_2, sh_590, sh_213, gv_213_2, hc0]
    repeat' (with_reducible (first | (refine And.intro ?_ ?_) | intro _))
    all_goals try ((with_reducible refine fx_use hT ?_ ?_); (· exact ⟨hc, hg⟩); intro r0 H2 hR hF2 hW2; simp only [Rtk, ai_0, ai_1, ai_2, ai_3, ai_4] at hR; (obtain ⟨w, rfl, e1, hk⟩ := hR) <;> (have eT := frm_r hF2 214 (by decide +kernel) (by decide +kernel) (by decide); simp (maxDischargeDepth := 12) [wFB, wF, k1, kI, kR, kL, k2, pget, pgs, pgx, ngs, ngn, ppush, pcat, ite01, zw_lit, zw_m1, zw_m2, zw_m3, zNC_eq, zrow, pup_app, tg_10_2, sh_590, sh_213, gv_213_2, hc0]))
    all_goals repeat' (with_reducible (first | (refine And.intro ?_ ?_) | intro _))
    all_goals try ((with_reducible refine ic_inv (B := bm_X4_takeProduct) (t := 10) _ ?_); refine (show iv_X4_takeProduct H c d m 10 _ _ _ from ⟨rfl, rfl, w, 0, ?_, ?_, ?_, ?_, ?_, ?_, ?_, ?_, ?_, ?_⟩) <;> (try simp (maxDischargeDepth := 12) [pgs, pgx, ngs, ngn, pget, pup_app]))
    all_goals try ((with_reducible refine il_X4_takeProduct_67 ?_); simp (maxDischargeDepth := 12) [vb_X4_takeProduct_67, wFB, wF, k1, kI, kR, kL, k2, pget, pgs, pgx, ngs, ngn, ppush, pcat, ite01, zw_lit, zw_m1, zw_m2, zw_m3, zNC_eq, zrow, pup_app, tg_10_2, sh_590, sh_213, gv_213_2, hc0])
    all_goals repeat' (with_reducible (first | (refine And.intro ?_ ?_) | intro _))
    all_goals (first | omega | assumption | (exact lpI_ent_p (lwTh_g m) hg hk) | skip)
  · rintro t ls st H1 (⟨rfl, rfl, w, i, l0, l1, l2, l3, l4, i0, i1, e1, eT, hI⟩) hγ hW1 hF1
    skip
    have za : zw (H1 213 2 + 1) = H1 213 2 + 1 := zw_lit (by have := rf_213_2 hW1; omega) (by have := rf_213_2 hW1; omega)
    have zi : zw (i + 1) = i + 1 := zw_lit (by omega) (by omega)
    have hin : i < 30 → ¬ w = 0 → isP (nxb (H 214) (H 213 1) (H1 213 2)) → _ := fun a b d => lpI_in_p hI a b d
    have hro : ¬ w = 0 → isP (nxb (H 214) (H 213 1) (H1 213 2)) → _ := fun b d => lpI_room hI b (show ¬ isD (nxb (H 214) (H 213 1) (H1 213 2)) by omega)
    have hout : 30 ≤ i ∨ w = 0 ∨ ¬ isP (nxb (H 214) (H 213 1) (H1 213 2)) → _ := fun a => lpI_out_p hI a
    show wFB _ _ _ (some 67) vb_X4_takeProduct_10 10 _ _ _
    simp (maxDischargeDepth := 12) [vb_X4_takeProduct_10, wFB, wF, k1, kI, kR, kL, k2, pget, pgs, pgx, ngs, ngn, ppush, pcat, ite01, zw_lit, zw_m1, zw_m2, zw_m3, zNC_eq, zrow, pup_app, tg_10_2, sh_590, sh_213, gv_213_2, hc0, l0, l1, l2, l3, l4, zi, za, e1, eT]
    repeat' (with_reducible (first | (refine And.intro ?_ ?_) | intro _))
    all_goals try ((with_reducible refine fx_use hN ?_ ?_); (· exact trivial); intro r0 H2 hR hF2 hW2; simp only [Rnext, ai_0, ai_1, ai_2, ai_3, ai_4] at hR; (obtain ⟨rfl, rfl⟩ := hR) <;> (simp (maxDischargeDepth := 12) [wFB, wF, k1, kI, kR, kL, k2, pget, pgs, pgx, ngs, ngn, ppush, pcat, ite01, zw_lit, zw_m1, zw_m2, zw_m3, zNC_eq, zrow, pup_app, tg_10_2, sh_590, sh_213, gv_213_2, hc0, l0, l1, l2, l3, l4, zi, za, e1, eT]))
    all_goals repeat' (with_reducible (first | (refine And.intro ?_ ?_) | intro _))
    all_goals try ((with_reducible refine fx_use hP ?_ ?_); (· exact trivial); intro r0 H2 hR hF2 hW2; simp only [RisP, ai_0, ai_1, ai_2, ai_3, ai_4] at hR; (obtain ⟨rfl, rfl⟩ := hR) <;> (simp (maxDischargeDepth := 12) [wFB, wF, k1, kI, kR, kL, k2, pget, pgs, pgx, ngs, ngn, ppush, pcat, ite01, zw_lit, zw_m1, zw_m2, zw_m3, zNC_eq, zrow, pup_app, tg_10_2, sh_590, sh_213, gv_213_2, hc0, l0, l1, l2, l3, l4, zi, za, e1, eT]))
    all_goals repeat' (with_reducible (first | (refine And.intro ?_ ?_) | intro _))
    all_goals try ((with_reducible refine fx_use hN ?_ ?_); (· exact trivial); intro r0 H2 hR hF2 hW2; simp only [Rnext, ai_0, ai_1, ai_2, ai_3, ai_4] at hR; (obtain ⟨rfl, rfl⟩ := hR) <;> (simp (maxDischargeDepth := 12) [wFB, wF, k1, kI, kR, kL, k2, pget, pgs, pgx, ngs, ngn, ppush, pcat, ite01, zw_lit, zw_m1, zw_m2, zw_m3, zNC_eq, zrow, pup_app, tg_10_2, sh_590, sh_213, gv_213_2, hc0, l0, l1, l2, l3, l4, zi, za, e1, eT]))
    all_goals repeat' (with_reducible (first | (refine And.intro ?_ ?_) | intro _))
    all_goals try ((with_reducible refine fx_use hT ?_ ?_); (· (refine ⟨hc, ?_⟩; show LGd (H1 213 1) (sC (pup H1 213 2 (H1 213 2 + 1)) c); rw [e1, sC_at hc]; exact (hin (by omega) (by assumption) (by omega)).1)); intro r0 H2 hR hF2 hW2; simp only [Rtk, ai_0, ai_1, ai_2, ai_3, ai_4] at hR; (obtain ⟨w2, rfl, e2, hk⟩ := hR) <;> (have e2 : H2 213 1 = H 213 1 := e2.trans e1; have eT2 : H2 214 = H 214 := (frm_r hF2 214 (by decide +kernel) (by decide +kernel) (by decide)).trans ((pup_r (by decide)).trans eT); rw [show pup H1 213 2 (H1 213 2 + 1) 214 = H 214 from (pup_r (by decide)).trans eT, show pup H1 213 2 (H1 213 2 + 1) 213 1 = H 213 1 from e1, sC_at hc] at hk; have wl2 := WT_law hW2 hc; simp (maxDischargeDepth := 12) [wFB, wF, k1, kI, kR, kL, k2, pget, pgs, pgx, ngs, ngn, ppush, pcat, ite01, zw_lit, zw_m1, zw_m2, zw_m3, zNC_eq, zrow, pup_app, tg_10_2, sh_590, sh_213, gv_213_2, hc0, l0, l1, l2, l3, l4, zi, za, e1, eT]))
    all_goals repeat' (with_reducible (first | (refine And.intro ?_ ?_) | intro _))
    all_goals try ((with_reducible refine fx_use hA ?_ ?_); (· exact trivial); intro r0 H2 hR hF2 hW2; simp only [Radd, ai_0, ai_1, ai_2, ai_3, ai_4] at hR; (obtain ⟨rfl, hA⟩ := hR) <;> (simp (maxDischargeDepth := 12) [wFB, wF, k1, kI, kR, kL, k2, pget, pgs, pgx, ngs, ngn, ppush, pcat, ite01, zw_lit, zw_m1, zw_m2, zw_m3, zNC_eq, zrow, pup_app, tg_10_2, sh_590, sh_213, gv_213_2, hc0, l0, l1, l2, l3, l4, zi, za, e1, eT]))
    all_goals repeat' (with_reducible (first | (refine And.intro ?_ ?_) | intro _))
    all_goals try ((with_reducible refine il_X4_takeProduct_67 ?_); simp (maxDischargeDepth := 12) [vb_X4_takeProduct_67, wFB, wF, k1, kI, kR, kL, k2, pget, pgs, pgx, ngs, ngn, ppush, pcat, ite01, zw_lit, zw_m1, zw_m2, zw_m3, zNC_eq, zrow, pup_app, tg_10_2, sh_590, sh_213, gv_213_2, hc0, l0, l1, l2, l3, l4, zi, za, e1, eT])
    all_goals repeat' (with_reducible (first | (refine And.intro ?_ ?_) | intro _))
    all_goals try ((with_reducible refine ic_inv (B := bm_X4_takeProduct) (t := 10) _ ?_); refine (show iv_X4_takeProduct H c d m 10 _ _ _ from ⟨rfl, rfl, w2, (i + 1), ?_, ?_, ?_, ?_, ?_, ?_, ?_, ?_, ?_, ?_⟩) <;> (try simp (maxDischargeDepth := 12) [l0, l1, l2, l3, l4, pgs, pgx, ngs, ngn, pget, pup_app]))
    all_goals (first | omega | assumption | (exact ⟨_, rfl, e1, hout (by omega)⟩) | (exact (frm_f hF2 213 1 (by decide +kernel) (by decide)).trans e2) | (exact (frm_r hF2 214 (by decide +kernel) (by decide +kernel) (by decide)).trans eT2) | (exact add_p (lwTh_g m) hc wl2.1 (hin (by omega) (by assumption) (by omega)).1 (hin (by omega) (by assumption) (by omega)).2 hk (hro (by assumption) (by omega)).2 (show isP (nxb (H 214) (H 213 1) (H1 213 2)) by omega) hA (frm_f hF2 213 2 (by decide +kernel) (by decide))) | skip)

def bm_X4_takeSum : List aB := [(0, vb_X4_takeSum_0, some 10), (10, vb_X4_takeSum_10, some 67), (67, vb_X4_takeSum_67, none)]
theorem il_X4_takeSum_0 {Inv : pJ} {Q2 : Option pv → PH → Prop} {F : Nat → List pv → PH → (Option pv → PH → Prop) → Prop} {n : Nat} {ls : PL} {st : List pv} {H : PH} (h : wFB (IC bm_X4_takeSum Inv Q2 F n) Q2 F (some 10) vb_X4_takeSum_0 0 ls st H) : IC bm_X4_takeSum Inv Q2 F (n + 1) 0 ls st H := Or.inr h
theorem il_X4_takeSum_10 {Inv : pJ} {Q2 : Option pv → PH → Prop} {F : Nat → List pv → PH → (Option pv → PH → Prop) → Prop} {n : Nat} {ls : PL} {st : List pv} {H : PH} (h : wFB (IC bm_X4_takeSum Inv Q2 F n) Q2 F (some 67) vb_X4_takeSum_10 10 ls st H) : IC bm_X4_takeSum Inv Q2 F (n + 1) 10 ls st H := Or.inr h
theorem il_X4_takeSum_67 {Inv : pJ} {Q2 : Option pv → PH → Prop} {F : Nat → List pv → PH → (Option pv → PH → Prop) → Prop} {n : Nat} {ls : PL} {st : List pv} {H : PH} (h : wFB (IC bm_X4_takeSum Inv Q2 F n) Q2 F (none) vb_X4_takeSum_67 67 ls st H) : IC bm_X4_takeSum Inv Q2 F (n + 1) 67 ls st H := Or.inr h

def iv_X4_takeSum (H : PH) (c d : Int) (m : Nat) : pJ := fun t ls st H' => (t = 10 ∧ st = [] ∧ ∃ w : Int, ∃ i : Int, pget ls 0 = some (2, c) ∧ pget ls 1 = some (2, 213) ∧ pget ls 2 = some (0, d) ∧ pget ls 3 = some (0, w) ∧ pget ls 4 = some (0, i) ∧ 0 ≤ i ∧ i ≤ 30 ∧ H' 213 1 = H 213 1 ∧ H' 214 = H 214 ∧ lpI (sLp (lwTh (H 214) (H 213 1) m) (H 214) (H 213 1)) (H 214) (H 213 1) (sSm (lwTh (H 214) (H 213 1) m) (H 214) (H 213 1) (sC H c)) w i (sC H' c))
def po_X4_takeSum (H : PH) (c d : Int) (m : Nat) : Option pv → PH → Prop := fun r H' => ∃ w, r = some (0, w) ∧ H' 213 1 = H 213 1 ∧ tkR (sSm (lwTh (H 214) (H 213 1) m) (H 214) (H 213 1)) (sC H c) (sC H' c) w (nxb (H 214) (H 213 1) (H' 213 2))
set_option maxRecDepth 20000 in
set_option maxHeartbeats 4000000 in
theorem hf_X4_takeSum {RG : pG} {lv : Nat} {g : Nat → Nat → Int} {T : List aL} (c d : Int) (m : Nat) (hT : RG 46 = (Ptk, Rtk (fun T z => pPr (lwTh T z m) T z), [4, 10, 47, 3010, 4004, 4010])) (hN : RG 95 = ((fun _ _ => True), Rnext, [])) (hP : RG 48 = ((fun _ _ => True), RisS, [])) (hA : RG 50 = ((fun _ _ => True), Radd, [4, 47])) (H : PH) (hW : WT lv g H) (hc : LC c) (hg : LGd (H 213 1) (sC H c)) : IC bm_X4_takeSum (iv_X4_takeSum H c d m) (po_X4_takeSum H c d m) (FX RG lv g) 5 0 [(0, (2, c)), (1, (2, 213)), (2, (0, d))] [] H ∧ ∀ (t : Nat) (ls : PL) (st : List pv) (H' : PH), iv_X4_takeSum H c d m t ls st H' → gmT T t ls st H' → WT lv g H' → frm [4, 10, 47, 3010, 4004, 4010] H H' → wFB (IC bm_X4_takeSum (iv_X4_takeSum H c d m) (po_X4_takeSum H c d m) (FX RG lv g) 5) (po_X4_takeSum H c d m) (FX RG lv g) (bget bm_X4_takeSum t).2 (bget bm_X4_takeSum t).1 t ls st H' := by
  have hc0 : 0 ≤ c + 1 := by have := hc.1; omega
  refine ⟨?_, ?_⟩
  · skip
    refine il_X4_takeSum_0 ?_
    simp (maxDischargeDepth := 12) [vb_X4_takeSum_0, wFB, wF, k1, kI, kR, kL, k2, pget, pgs, pgx, ngs, ngn, ppush, pcat, ite01, zw_lit, zw_m1, zw_m2, zw_m3, zNC_eq, zrow, pup_app, tg_10_2, sh_590, sh_213, gv_213_2, hc0]
    repeat' (with_reducible (first | (refine And.intro ?_ ?_) | intro _))
    all_goals try ((with_reducible refine fx_use hT ?_ ?_); (· exact ⟨hc, hg⟩); intro r0 H2 hR hF2 hW2; simp only [Rtk, ai_0, ai_1, ai_2, ai_3, ai_4] at hR; (obtain ⟨w, rfl, e1, hk⟩ := hR) <;> (have eT := frm_r hF2 214 (by decide +kernel) (by decide +kernel) (by decide); simp (maxDischargeDepth := 12) [wFB, wF, k1, kI, kR, kL, k2, pget, pgs, pgx, ngs, ngn, ppush, pcat, ite01, zw_lit, zw_m1, zw_m2, zw_m3, zNC_eq, zrow, pup_app, tg_10_2, sh_590, sh_213, gv_213_2, hc0]))
    all_goals repeat' (with_reducible (first | (refine And.intro ?_ ?_) | intro _))
    all_goals try ((with_reducible refine ic_inv (B := bm_X4_takeSum) (t := 10) _ ?_); refine (show iv_X4_takeSum H c d m 10 _ _ _ from ⟨rfl, rfl, w, 0, ?_, ?_, ?_, ?_, ?_, ?_, ?_, ?_, ?_, ?_⟩) <;> (try simp (maxDischargeDepth := 12) [pgs, pgx, ngs, ngn, pget, pup_app]))
    all_goals try ((with_reducible refine il_X4_takeSum_67 ?_); simp (maxDischargeDepth := 12) [vb_X4_takeSum_67, wFB, wF, k1, kI, kR, kL, k2, pget, pgs, pgx, ngs, ngn, ppush, pcat, ite01, zw_lit, zw_m1, zw_m2, zw_m3, zNC_eq, zrow, pup_app, tg_10_2, sh_590, sh_213, gv_213_2, hc0])
    all_goals repeat' (with_reducible (first | (refine And.intro ?_ ?_) | intro _))
    all_goals (first | omega | assumption | (exact lpI_ent_s (lwTh_g m) hg hk) | skip)
  · rintro t ls st H1 (⟨rfl, rfl, w, i, l0, l1, l2, l3, l4, i0, i1, e1, eT, hI⟩) hγ hW1 hF1
    skip
    have za : zw (H1 213 2 + 1) = H1 213 2 + 1 := zw_lit (by have := rf_213_2 hW1; omega) (by have := rf_213_2 hW1; omega)
    have zi : zw (i + 1) = i + 1 := zw_lit (by omega) (by omega)
    have hin : i < 30 → ¬ w = 0 → isS (nxb (H 214) (H 213 1) (H1 213 2)) → _ := fun a b d => lpI_in_s hI a b d
    have hro : ¬ w = 0 → isS (nxb (H 214) (H 213 1) (H1 213 2)) → _ := fun b d => lpI_room hI b (show ¬ isD (nxb (H 214) (H 213 1) (H1 213 2)) by omega)
    have hout : 30 ≤ i ∨ w = 0 ∨ ¬ isS (nxb (H 214) (H 213 1) (H1 213 2)) → _ := fun a => lpI_out_s hI a
    show wFB _ _ _ (some 67) vb_X4_takeSum_10 10 _ _ _
    simp (maxDischargeDepth := 12) [vb_X4_takeSum_10, wFB, wF, k1, kI, kR, kL, k2, pget, pgs, pgx, ngs, ngn, ppush, pcat, ite01, zw_lit, zw_m1, zw_m2, zw_m3, zNC_eq, zrow, pup_app, tg_10_2, sh_590, sh_213, gv_213_2, hc0, l0, l1, l2, l3, l4, zi, za, e1, eT]
    repeat' (with_reducible (first | (refine And.intro ?_ ?_) | intro _))
    all_goals try ((with_reducible refine fx_use hN ?_ ?_); (· exact trivial); intro r0 H2 hR hF2 hW2; simp only [Rnext, ai_0, ai_1, ai_2, ai_3, ai_4] at hR; (obtain ⟨rfl, rfl⟩ := hR) <;> (simp (maxDischargeDepth := 12) [wFB, wF, k1, kI, kR, kL, k2, pget, pgs, pgx, ngs, ngn, ppush, pcat, ite01, zw_lit, zw_m1, zw_m2, zw_m3, zNC_eq, zrow, pup_app, tg_10_2, sh_590, sh_213, gv_213_2, hc0, l0, l1, l2, l3, l4, zi, za, e1, eT]))
    all_goals repeat' (with_reducible (first | (refine And.intro ?_ ?_) | intro _))
    all_goals try ((with_reducible refine fx_use hP ?_ ?_); (· exact trivial); intro r0 H2 hR hF2 hW2; simp only [RisS, ai_0, ai_1, ai_2, ai_3, ai_4] at hR; (obtain ⟨rfl, rfl⟩ := hR) <;> (simp (maxDischargeDepth := 12) [wFB, wF, k1, kI, kR, kL, k2, pget, pgs, pgx, ngs, ngn, ppush, pcat, ite01, zw_lit, zw_m1, zw_m2, zw_m3, zNC_eq, zrow, pup_app, tg_10_2, sh_590, sh_213, gv_213_2, hc0, l0, l1, l2, l3, l4, zi, za, e1, eT]))
    all_goals repeat' (with_reducible (first | (refine And.intro ?_ ?_) | intro _))
    all_goals try ((with_reducible refine fx_use hN ?_ ?_); (· exact trivial); intro r0 H2 hR hF2 hW2; simp only [Rnext, ai_0, ai_1, ai_2, ai_3, ai_4] at hR; (obtain ⟨rfl, rfl⟩ := hR) <;> (simp (maxDischargeDepth := 12) [wFB, wF, k1, kI, kR, kL, k2, pget, pgs, pgx, ngs, ngn, ppush, pcat, ite01, zw_lit, zw_m1, zw_m2, zw_m3, zNC_eq, zrow, pup_app, tg_10_2, sh_590, sh_213, gv_213_2, hc0, l0, l1, l2, l3, l4, zi, za, e1, eT]))
    all_goals repeat' (with_reducible (first | (refine And.intro ?_ ?_) | intro _))
    all_goals try ((with_reducible refine fx_use hT ?_ ?_); (· (refine ⟨hc, ?_⟩; show LGd (H1 213 1) (sC (pup H1 213 2 (H1 213 2 + 1)) c); rw [e1, sC_at hc]; exact (hin (by omega) (by assumption) (by omega)).1)); intro r0 H2 hR hF2 hW2; simp only [Rtk, ai_0, ai_1, ai_2, ai_3, ai_4] at hR; (obtain ⟨w2, rfl, e2, hk⟩ := hR) <;> (have e2 : H2 213 1 = H 213 1 := e2.trans e1; have eT2 : H2 214 = H 214 := (frm_r hF2 214 (by decide +kernel) (by decide +kernel) (by decide)).trans ((pup_r (by decide)).trans eT); rw [show pup H1 213 2 (H1 213 2 + 1) 214 = H 214 from (pup_r (by decide)).trans eT, show pup H1 213 2 (H1 213 2 + 1) 213 1 = H 213 1 from e1, sC_at hc] at hk; have wl2 := WT_law hW2 hc; simp (maxDischargeDepth := 12) [wFB, wF, k1, kI, kR, kL, k2, pget, pgs, pgx, ngs, ngn, ppush, pcat, ite01, zw_lit, zw_m1, zw_m2, zw_m3, zNC_eq, zrow, pup_app, tg_10_2, sh_590, sh_213, gv_213_2, hc0, l0, l1, l2, l3, l4, zi, za, e1, eT]))
    all_goals repeat' (with_reducible (first | (refine And.intro ?_ ?_) | intro _))
    all_goals try ((with_reducible refine fx_use hA ?_ ?_); (· exact trivial); intro r0 H2 hR hF2 hW2; simp only [Radd, ai_0, ai_1, ai_2, ai_3, ai_4] at hR; (obtain ⟨rfl, hA⟩ := hR) <;> (simp (maxDischargeDepth := 12) [wFB, wF, k1, kI, kR, kL, k2, pget, pgs, pgx, ngs, ngn, ppush, pcat, ite01, zw_lit, zw_m1, zw_m2, zw_m3, zNC_eq, zrow, pup_app, tg_10_2, sh_590, sh_213, gv_213_2, hc0, l0, l1, l2, l3, l4, zi, za, e1, eT]))
    all_goals repeat' (with_reducible (first | (refine And.intro ?_ ?_) | intro _))
    all_goals try ((with_reducible refine il_X4_takeSum_67 ?_); simp (maxDischargeDepth := 12) [vb_X4_takeSum_67, wFB, wF, k1, kI, kR, kL, k2, pget, pgs, pgx, ngs, ngn, ppush, pcat, ite01, zw_lit, zw_m1, zw_m2, zw_m3, zNC_eq, zrow, pup_app, tg_10_2, sh_590, sh_213, gv_213_2, hc0, l0, l1, l2, l3, l4, zi, za, e1, eT])
    all_goals repeat' (with_reducible (first | (refine And.intro ?_ ?_) | intro _))
    all_goals try ((with_reducible refine ic_inv (B := bm_X4_takeSum) (t := 10) _ ?_); refine (show iv_X4_takeSum H c d m 10 _ _ _ from ⟨rfl, rfl, w2, (i + 1), ?_, ?_, ?_, ?_, ?_, ?_, ?_, ?_, ?_, ?_⟩) <;> (try simp (maxDischargeDepth := 12) [l0, l1, l2, l3, l4, pgs, pgx, ngs, ngn, pget, pup_app]))
    all_goals (first | omega | assumption | (exact ⟨_, rfl, e1, hout (by omega)⟩) | (exact (frm_f hF2 213 1 (by decide +kernel) (by decide)).trans e2) | (exact (frm_r hF2 214 (by decide +kernel) (by decide +kernel) (by decide)).trans eT2) | (exact add_s (lwTh_g m) hc wl2.1 (hin (by omega) (by assumption) (by omega)).1 (hin (by omega) (by assumption) (by omega)).2 hk (hro (by assumption) (by omega)).2 (show isS (nxb (H 214) (H 213 1) (H1 213 2)) by omega) hA (frm_f hF2 213 2 (by decide +kernel) (by decide))) | skip)
