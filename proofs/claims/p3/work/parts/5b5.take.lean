/-! ===== the class reads the law: the whole ===== -/
theorem sC_init {H : PH} {c : Int} (hc : LC c) : sC (pup (pup (pup (pup H c 2 0) c 3 0) 213 2 0) 213 3 (-1)) c = (0, 0, []) := by
  have n := (LC_f hc).2.2.2.1
  have n213 : ¬ (213 : Int) = c := fun q => n.1 q.symm
  rw [sC_213 hc, sC_213 hc, sC_3 hc]
  have e : cdC (pup H c 2 0) c = [] := by
    unfold cdC
    rw [show pup H c 2 0 c 2 = 0 from if_pos ⟨rfl, rfl⟩]
    rfl
  rw [e]
  rfl
theorem LGd_0 {z : Int} (h : 0 ≤ z) : LGd z ((0, 0, []) : LwS) := ⟨Int.le_refl _, h, Int.le_refl _, by decide, by decide⟩
theorem lwAll_w {T : Int → Int} {z : Int} {H3 : PH} {c w : Int} (hz : ¬ z = 0) (z0 : 0 ≤ z) (hk : tkR (sSm (lwTh T z 8) T z) (0, 0, []) (sC H3 c) w (nxb T z (H3 213 2))) : (w = 0 → lwAll T z = none) ∧ (H3 213 2 < z → lwAll T z = none) ∧ (¬ w = 0 → ¬ H3 213 2 < z → lwAll T z = some (H3 c 3, cdC H3 c)) := by
  have e : lwAll T z = (match sSm (lwTh T z 8) T z (0, 0, []) with
    | none => none
    | some s => if s.1 < z then none else some s.2) := if_neg (by omega)
  rcases hk with ⟨a, b⟩ | ⟨a, b⟩ | ⟨a, b, d⟩
  · rw [b] at e
    have e : lwAll T z = if H3 213 2 < z then none else some (H3 c 3, cdC H3 c) := e
    exact ⟨fun q => by omega, fun q => by rw [e, if_pos q], fun _ q => by rw [e, if_neg q]⟩
  · rw [b] at e
    exact ⟨fun _ => e, fun _ => e, fun q => (q a).elim⟩
  · rw [b] at e
    exact ⟨fun _ => e, fun _ => e, fun _ q => (q (nxb_lt (T := T) (show 0 ≤ nxb T z (H3 213 2) by omega))).elim⟩

def bm_X4_takeFrom : List aB := [(0, vb_X4_takeFrom_0, some 23), (23, vb_X4_takeFrom_23, some 34), (34, vb_X4_takeFrom_34, some 56), (56, vb_X4_takeFrom_56, none)]
theorem il_X4_takeFrom_0 {Inv : pJ} {Q2 : Option pv → PH → Prop} {F : Nat → List pv → PH → (Option pv → PH → Prop) → Prop} {n : Nat} {ls : PL} {st : List pv} {H : PH} (h : wFB (IC bm_X4_takeFrom Inv Q2 F n) Q2 F (some 23) vb_X4_takeFrom_0 0 ls st H) : IC bm_X4_takeFrom Inv Q2 F (n + 1) 0 ls st H := Or.inr h
theorem il_X4_takeFrom_23 {Inv : pJ} {Q2 : Option pv → PH → Prop} {F : Nat → List pv → PH → (Option pv → PH → Prop) → Prop} {n : Nat} {ls : PL} {st : List pv} {H : PH} (h : wFB (IC bm_X4_takeFrom Inv Q2 F n) Q2 F (some 34) vb_X4_takeFrom_23 23 ls st H) : IC bm_X4_takeFrom Inv Q2 F (n + 1) 23 ls st H := Or.inr h
theorem il_X4_takeFrom_34 {Inv : pJ} {Q2 : Option pv → PH → Prop} {F : Nat → List pv → PH → (Option pv → PH → Prop) → Prop} {n : Nat} {ls : PL} {st : List pv} {H : PH} (h : wFB (IC bm_X4_takeFrom Inv Q2 F n) Q2 F (some 56) vb_X4_takeFrom_34 34 ls st H) : IC bm_X4_takeFrom Inv Q2 F (n + 1) 34 ls st H := Or.inr h
theorem il_X4_takeFrom_56 {Inv : pJ} {Q2 : Option pv → PH → Prop} {F : Nat → List pv → PH → (Option pv → PH → Prop) → Prop} {n : Nat} {ls : PL} {st : List pv} {H : PH} (h : wFB (IC bm_X4_takeFrom Inv Q2 F n) Q2 F (none) vb_X4_takeFrom_56 56 ls st H) : IC bm_X4_takeFrom Inv Q2 F (n + 1) 56 ls st H := Or.inr h

def iv_X4_takeFrom (H : PH) (c : Int) : pJ := fun t ls st H' => False
def po_X4_takeFrom (H : PH) (c : Int) : Option pv → PH → Prop := fun r H' => (lwAll (H 214) (H 213 1) = none ∧ r = some (0, -1)) ∨ (lwAll (H 214) (H 213 1) = some (H' c 3, cdC H' c) ∧ r = some (0, H' c 3))
set_option maxRecDepth 20000 in
set_option maxHeartbeats 4000000 in
theorem hf_X4_takeFrom {RG : pG} {lv : Nat} {g : Nat → Nat → Int} {T : List aL} (c : Int) (hT : RG 45 = (Ptk, Rtk (fun T z => sSm (lwTh T z 8) T z), [4, 10, 47, 3010, 4004, 4010])) (hR : RG 94 = ((fun _ _ => True), Rrew, [3010, 4010])) (hF : RG 96 = ((fun _ _ => True), Rfail, [3010, 4010])) (H : PH) (hW : WT lv g H) (hc : LC c) : IC bm_X4_takeFrom (iv_X4_takeFrom H c) (po_X4_takeFrom H c) (FX RG lv g) 6 0 [(0, (2, c)), (1, (2, 213))] [] H ∧ ∀ (t : Nat) (ls : PL) (st : List pv) (H' : PH), iv_X4_takeFrom H c t ls st H' → gmT T t ls st H' → WT lv g H' → frm [4, 10, 47, 3004, 3010, 4004, 4010] H H' → wFB (IC bm_X4_takeFrom (iv_X4_takeFrom H c) (po_X4_takeFrom H c) (FX RG lv g) 6) (po_X4_takeFrom H c) (FX RG lv g) (bget bm_X4_takeFrom t).2 (bget bm_X4_takeFrom t).1 t ls st H' := by
  have hc0 : 0 ≤ c + 1 := by have := hc.1; omega
  obtain ⟨f1, f2, f3, f4, f5⟩ := LC_f hc
  have g3 : ∀ X : PH, gv X c 3 = X c 3 := fun X => (f5 X).2.2
  have z0 := (rf_213_1 hW).1
  have n213 : ¬ (213 : Int) = c := fun q => f4.1 q.symm
  have n214 : ¬ (214 : Int) = c := fun q => f4.2.1 q.symm
  have ez : pup (pup (pup (pup H c 2 0) c 3 0) 213 2 0) 213 3 (-1) 213 1 = H 213 1 := by simp [pup_app, n213]
  have eT : pup (pup (pup (pup H c 2 0) c 3 0) 213 2 0) 213 3 (-1) 214 = H 214 := by rw [pup_r (by decide), pup_r (by decide), pup_r n214, pup_r n214]
  refine ⟨?_, ?_⟩
  · skip
    refine il_X4_takeFrom_0 ?_
    simp (maxDischargeDepth := 12) [vb_X4_takeFrom_0, wFB, wF, k1, kI, kR, kL, k2, pget, pgs, pgx, ngs, ngn, ppush, pcat, ite01, zw_lit, zw_m1, zw_m2, zw_m3, zNC_eq, zrow, pup_app, tg_10_1, tg_10_2, tg_4_2, tg_4_3, sh_590, sh_213, gv_213_1, gv_213_2, hc0, f1, f4, g3, n213, n214]
    repeat' (with_reducible (first | (refine And.intro ?_ ?_) | intro _))
    all_goals try ((with_reducible refine fx_use hR ?_ ?_); (· exact trivial); intro r0 H2 hR hF2 hW2; simp only [Rrew, ai_0, ai_1, ai_2, ai_3, ai_4] at hR; (obtain ⟨rfl, rfl⟩ := hR) <;> (simp (maxDischargeDepth := 12) [wFB, wF, k1, kI, kR, kL, k2, pget, pgs, pgx, ngs, ngn, ppush, pcat, ite01, zw_lit, zw_m1, zw_m2, zw_m3, zNC_eq, zrow, pup_app, tg_10_1, tg_10_2, tg_4_2, tg_4_3, sh_590, sh_213, gv_213_1, gv_213_2, hc0, f1, f4, g3, n213, n214]))
    all_goals repeat' (with_reducible (first | (refine And.intro ?_ ?_) | intro _))
    all_goals try ((with_reducible refine il_X4_takeFrom_23 ?_); simp (maxDischargeDepth := 12) [vb_X4_takeFrom_23, wFB, wF, k1, kI, kR, kL, k2, pget, pgs, pgx, ngs, ngn, ppush, pcat, ite01, zw_lit, zw_m1, zw_m2, zw_m3, zNC_eq, zrow, pup_app, tg_10_1, tg_10_2, tg_4_2, tg_4_3, sh_590, sh_213, gv_213_1, gv_213_2, hc0, f1, f4, g3, n213, n214])
    all_goals repeat' (with_reducible (first | (refine And.intro ?_ ?_) | intro _))
    all_goals try ((with_reducible refine fx_use hT ?_ ?_); (· (refine ⟨hc, ?_⟩; show LGd (pup (pup (pup (pup H c 2 0) c 3 0) 213 2 0) 213 3 (-1) 213 1) (sC (pup (pup (pup (pup H c 2 0) c 3 0) 213 2 0) 213 3 (-1)) c); rw [sC_init hc, ez]; exact LGd_0 z0)); intro r0 H2 hR hF2 hW2; simp only [Rtk, ai_0, ai_1, ai_2, ai_3, ai_4] at hR; (obtain ⟨w2, rfl, e2, hk⟩ := hR) <;> (have e2 : H2 213 1 = H 213 1 := e2.trans ez; rw [eT, ez, sC_init hc] at hk; have hw := lwAll_w (by first | omega | assumption) z0 hk; simp (maxDischargeDepth := 12) [wFB, wF, k1, kI, kR, kL, k2, pget, pgs, pgx, ngs, ngn, ppush, pcat, ite01, zw_lit, zw_m1, zw_m2, zw_m3, zNC_eq, zrow, pup_app, tg_10_1, tg_10_2, tg_4_2, tg_4_3, sh_590, sh_213, gv_213_1, gv_213_2, hc0, f1, f4, g3, n213, n214]))
    all_goals repeat' (with_reducible (first | (refine And.intro ?_ ?_) | intro _))
    all_goals try ((with_reducible refine il_X4_takeFrom_34 ?_); simp (maxDischargeDepth := 12) [vb_X4_takeFrom_34, wFB, wF, k1, kI, kR, kL, k2, pget, pgs, pgx, ngs, ngn, ppush, pcat, ite01, zw_lit, zw_m1, zw_m2, zw_m3, zNC_eq, zrow, pup_app, tg_10_1, tg_10_2, tg_4_2, tg_4_3, sh_590, sh_213, gv_213_1, gv_213_2, hc0, f1, f4, g3, n213, n214])
    all_goals repeat' (with_reducible (first | (refine And.intro ?_ ?_) | intro _))
    all_goals try ((with_reducible refine fx_use hF ?_ ?_); (· exact trivial); intro r0 H2 hR hF2 hW2; simp only [Rfail, ai_0, ai_1, ai_2, ai_3, ai_4] at hR; (obtain ⟨rfl, rfl⟩ := hR) <;> (simp (maxDischargeDepth := 12) [wFB, wF, k1, kI, kR, kL, k2, pget, pgs, pgx, ngs, ngn, ppush, pcat, ite01, zw_lit, zw_m1, zw_m2, zw_m3, zNC_eq, zrow, pup_app, tg_10_1, tg_10_2, tg_4_2, tg_4_3, sh_590, sh_213, gv_213_1, gv_213_2, hc0, f1, f4, g3, n213, n214]))
    all_goals repeat' (with_reducible (first | (refine And.intro ?_ ?_) | intro _))
    all_goals try ((with_reducible refine il_X4_takeFrom_56 ?_); simp (maxDischargeDepth := 12) [vb_X4_takeFrom_56, wFB, wF, k1, kI, kR, kL, k2, pget, pgs, pgx, ngs, ngn, ppush, pcat, ite01, zw_lit, zw_m1, zw_m2, zw_m3, zNC_eq, zrow, pup_app, tg_10_1, tg_10_2, tg_4_2, tg_4_3, sh_590, sh_213, gv_213_1, gv_213_2, hc0, f1, f4, g3, n213, n214])
    all_goals repeat' (with_reducible (first | (refine And.intro ?_ ?_) | intro _))
    all_goals (first | (exact Or.inr ⟨hw.2.2 (by assumption) (by omega), rfl⟩) | (exact Or.inl ⟨hw.2.1 (by omega), rfl⟩) | (exact Or.inl ⟨hw.1 (by assumption), rfl⟩) | (exact Or.inr ⟨(if_pos (show H 213 1 ≤ 0 by omega) : lwAll (H 214) (H 213 1) = some (0, [])).trans (congrArg (fun s : LwS => some s.2) (sC_init hc)).symm, (congrArg (fun s : LwS => some ((0 : Nat), s.2.1)) (sC_init hc)).symm⟩) | skip)
  · intro t ls st H' q
    exact q.elim

def iv_X4_takeThing9 (H : PH) (c : Int) : pJ := fun t ls st H' => False
def po_X4_takeThing9 (H : PH) (c : Int) : Option pv → PH → Prop := fun r H' => ∃ w, r = some (0, w) ∧ H' 213 1 = H 213 1 ∧ tkR (lwTh (H 214) (H 213 1) 0) (sC H c) (sC H' c) w (nxb (H 214) (H 213 1) (H' 213 2))
set_option maxRecDepth 20000 in
set_option maxHeartbeats 4000000 in
theorem hf_X4_takeThing9 {RG : pG} {lv : Nat} {g : Nat → Nat → Int} {T : List aL} (c : Int) (hF : RG 96 = ((fun _ _ => True), Rfail, [3010, 4010])) (H : PH) (hW : WT lv g H) (hc : LC c) (hg : LGd (H 213 1) (sC H c)) : IC bm_X4_takeThing (iv_X4_takeThing9 H c) (po_X4_takeThing9 H c) (FX RG lv g) 4 0 [(0, (2, c)), (1, (2, 213)), (2, (0, 9))] [] H ∧ ∀ (t : Nat) (ls : PL) (st : List pv) (H' : PH), iv_X4_takeThing9 H c t ls st H' → gmT T t ls st H' → WT lv g H' → frm [4010] H H' → wFB (IC bm_X4_takeThing (iv_X4_takeThing9 H c) (po_X4_takeThing9 H c) (FX RG lv g) 4) (po_X4_takeThing9 H c) (FX RG lv g) (bget bm_X4_takeThing t).2 (bget bm_X4_takeThing t).1 t ls st H' := by
  have hc0 : 0 ≤ c + 1 := by have := hc.1; omega
  obtain ⟨f1, f2, f3, f4, f5⟩ := LC_f hc
  have g3 : ∀ X : PH, gv X c 3 = X c 3 := fun X => (f5 X).2.2
  refine ⟨?_, ?_⟩
  · skip
    refine il_X4_takeThing_0 ?_
    simp (maxDischargeDepth := 12) [vb_X4_takeThing_0, wFB, wF, k1, kI, kR, kL, k2, pget, pgs, pgx, ngs, ngn, ppush, pcat, ite01, zw_lit, zw_m1, zw_m2, zw_m3, zNC_eq, zrow, pup_app, tg_10_2, tg_4_3, sh_590, sh_213, gv_213_2, hc0, f1, f4, g3]
    repeat' (with_reducible (first | (refine And.intro ?_ ?_) | intro _))
    all_goals try ((with_reducible refine il_X4_takeThing_15 ?_); simp (maxDischargeDepth := 12) [vb_X4_takeThing_15, wFB, wF, k1, kI, kR, kL, k2, pget, pgs, pgx, ngs, ngn, ppush, pcat, ite01, zw_lit, zw_m1, zw_m2, zw_m3, zNC_eq, zrow, pup_app, tg_10_2, tg_4_3, sh_590, sh_213, gv_213_2, hc0, f1, f4, g3])
    all_goals repeat' (with_reducible (first | (refine And.intro ?_ ?_) | intro _))
    all_goals try ((with_reducible refine fx_use hF ?_ ?_); (· exact trivial); intro r0 H2 hR hF2 hW2; simp only [Rfail, ai_0, ai_1, ai_2, ai_3, ai_4] at hR; (obtain ⟨rfl, rfl⟩ := hR) <;> (simp (maxDischargeDepth := 12) [wFB, wF, k1, kI, kR, kL, k2, pget, pgs, pgx, ngs, ngn, ppush, pcat, ite01, zw_lit, zw_m1, zw_m2, zw_m3, zNC_eq, zrow, pup_app, tg_10_2, tg_4_3, sh_590, sh_213, gv_213_2, hc0, f1, f4, g3]))
    all_goals repeat' (with_reducible (first | (refine And.intro ?_ ?_) | intro _))
    all_goals (first | (exact ⟨_, rfl, rfl, Or.inr (Or.inl ⟨rfl, rfl⟩)⟩) | skip)
  · intro t ls st H' q
    exact q.elim

theorem hf_9 {A : Prop} {I : Nat → PL → List pv → PH → Prop} {G : Nat → PL → List pv → PH → Prop} {W : PH → Prop} {H : PH} {Z : Nat → PL → List pv → PH → Prop} (h : A ∧ ∀ (t : Nat) (ls : PL) (st : List pv) (H' : PH), I t ls st H' → G t ls st H' → W H' → frm [4, 10, 47, 3010, 4004, 4010] H H' → Z t ls st H') : A ∧ ∀ (t : Nat) (ls : PL) (st : List pv) (H' : PH), I t ls st H' → G t ls st H' → W H' → frm [4010] H H' → Z t ls st H' := ⟨h.1, fun t ls st H' a b d e => h.2 t ls st H' a b d (frm_sub (by decide) e)⟩
