/-! ===== the class reads the law: skip, rewind ===== -/
def nlq (p : Option pv) : Prop := ∀ q, p = some q → q.1 ≠ 1
theorem ngs {p : pv} : nlq (some p) ↔ p.1 ≠ 1 := ⟨fun h => h p rfl, fun h q e => by cases e; exact h⟩
theorem ngn : nlq none ↔ True := ⟨fun _ => trivial, fun _ q e => by cases e⟩
theorem pgflx {ls : PL} {i j : Nat} (hj : j ≠ i) (h : nlq (pget ls j)) : pget (ls.filter (fun q => !pdrop i false q)) j = pget ls j := by
  induction ls with
  | nil => rfl
  | cons q t ih =>
    have hp : pget (q :: t) j = if q.1 = j then some q.2 else pget t j := rfl
    rw [hp] at h
    rw [List.filter_cons, hp]
    by_cases e : q.1 = j
    · rw [if_pos e] at h
      have hq := h q.2 rfl
      have hd : pdrop i false q = false := by
        unfold pdrop
        rw [beq_eq_false_iff_ne.mpr (by omega), beq_eq_false_iff_ne.mpr hq, Bool.and_false]
        rfl
      rw [hd, if_pos e]
      show (if q.1 = j then some q.2 else pget (t.filter _) j) = _
      rw [if_pos e]
    · rw [if_neg e] at h
      rw [if_neg e, ← ih h]
      cases pdrop i false q with
      | true => rfl
      | false =>
        show (if q.1 = j then some q.2 else pget (t.filter _) j) = _
        rw [if_neg e]
theorem pgs {ls : PL} {i : Nat} {v : pv} : pget (pset ls i false v) i = some v := if_pos rfl
theorem pgx {ls : PL} {i j : Nat} {v : pv} (h : nlq (pget ls j)) : pget (pset ls i false v) j = if i = j then some v else pget ls j := by
  show (if i = j then some v else pget (ls.filter _) j) = _
  by_cases e : i = j
  · rw [if_pos e, if_pos e]
  · rw [if_neg e, if_neg e, pgflx (fun q => e q.symm) h]
theorem ite01 {p : Prop} [Decidable p] : ((if p then (1 : Int) else 0) = 0) = ¬ p := by
  by_cases h : p
  · rw [if_pos h]
    exact propext ⟨fun q => (by cases q), fun q => (q h).elim⟩
  · rw [if_neg h]
    exact propext ⟨fun _ => h, fun _ => rfl⟩
def bm_X10_skip : List aB := [(0, vb_X10_skip_0, some 17), (17, vb_X10_skip_17, none)]
theorem il_X10_skip_0 {Inv : pJ} {Q2 : Option pv → PH → Prop} {F : Nat → List pv → PH → (Option pv → PH → Prop) → Prop} {n : Nat} {ls : PL} {st : List pv} {H : PH} (h : wFB (IC bm_X10_skip Inv Q2 F n) Q2 F (some 17) vb_X10_skip_0 0 ls st H) : IC bm_X10_skip Inv Q2 F (n + 1) 0 ls st H := Or.inr h
theorem il_X10_skip_17 {Inv : pJ} {Q2 : Option pv → PH → Prop} {F : Nat → List pv → PH → (Option pv → PH → Prop) → Prop} {n : Nat} {ls : PL} {st : List pv} {H : PH} (h : wFB (IC bm_X10_skip Inv Q2 F n) Q2 F (none) vb_X10_skip_17 17 ls st H) : IC bm_X10_skip Inv Q2 F (n + 1) 17 ls st H := Or.inr h

def iv_X10_skip (H : PH) (x : Int) : pJ := fun t ls st H' => False
def po_X10_skip (H : PH) (x : Int) : Option pv → PH → Prop := fun r H' => (r = some (0, 0) ∧ H' = pup H 213 3 (H 213 2) ∧ ¬ nxb (H 214) (H 213 1) (H 213 2) = x) ∨ (r = some (0, 1) ∧ H' = pup H 213 2 (H 213 2 + 1) ∧ nxb (H 214) (H 213 1) (H 213 2) = x)
set_option maxRecDepth 20000 in
set_option maxHeartbeats 4000000 in
theorem hf_X10_skip {RG : pG} {lv : Nat} {g : Nat → Nat → Int} {T : List aL} (x : Int) (hN : RG 95 = ((fun _ _ => True), Rnext, [])) (hF : RG 96 = ((fun _ _ => True), Rfail, [3010, 4010])) (H : PH) (hW : WT lv g H) (h0 : 0 ≤ H 213 2) (h1 : H 213 2 ≤ 600) : IC bm_X10_skip (iv_X10_skip H x) (po_X10_skip H x) (FX RG lv g) 4 0 [(0, (2, 213)), (1, (0, x))] [] H ∧ ∀ (t : Nat) (ls : PL) (st : List pv) (H' : PH), iv_X10_skip H x t ls st H' → gmT T t ls st H' → WT lv g H' → frm [3010, 4010] H H' → wFB (IC bm_X10_skip (iv_X10_skip H x) (po_X10_skip H x) (FX RG lv g) 4) (po_X10_skip H x) (FX RG lv g) (bget bm_X10_skip t).2 (bget bm_X10_skip t).1 t ls st H' := by
  have z1 : zw (H 213 2 + 1) = H 213 2 + 1 := zw_lit (by omega) (by omega)
  refine ⟨?_, ?_⟩
  · skip
    refine il_X10_skip_0 ?_
    simp (maxDischargeDepth := 12) [vb_X10_skip_0, wFB, wF, k1, kI, kR, kL, k2, pget, pgs, pgx, ngs, ngn, ppush, pcat, ite01, zw_lit, zw_m1, zw_m2, zw_m3, zNC_eq, zrow, pup_app, tg_10_2, sh_590, sh_213, z1, gv_213_2]
    repeat' (with_reducible (first | (refine And.intro ?_ ?_) | intro _))
    all_goals try ((with_reducible refine fx_use hN ?_ ?_); (· exact trivial); intro r0 H2 hR hF2 hW2; simp only [Rnext, ai_0, ai_1, ai_2, ai_3, ai_4] at hR; (obtain ⟨rfl, rfl⟩ := hR) <;> (simp (maxDischargeDepth := 12) [wFB, wF, k1, kI, kR, kL, k2, pget, pgs, pgx, ngs, ngn, ppush, pcat, ite01, zw_lit, zw_m1, zw_m2, zw_m3, zNC_eq, zrow, pup_app, tg_10_2, sh_590, sh_213, z1, gv_213_2]))
    all_goals repeat' (with_reducible (first | (refine And.intro ?_ ?_) | intro _))
    all_goals try ((with_reducible refine fx_use hF ?_ ?_); (· exact trivial); intro r0 H2 hR hF2 hW2; simp only [Rfail, ai_0, ai_1, ai_2, ai_3, ai_4] at hR; (obtain ⟨rfl, rfl⟩ := hR) <;> (simp (maxDischargeDepth := 12) [wFB, wF, k1, kI, kR, kL, k2, pget, pgs, pgx, ngs, ngn, ppush, pcat, ite01, zw_lit, zw_m1, zw_m2, zw_m3, zNC_eq, zrow, pup_app, tg_10_2, sh_590, sh_213, z1, gv_213_2]))
    all_goals repeat' (with_reducible (first | (refine And.intro ?_ ?_) | intro _))
    all_goals try ((with_reducible refine il_X10_skip_17 ?_); simp (maxDischargeDepth := 12) [vb_X10_skip_17, wFB, wF, k1, kI, kR, kL, k2, pget, pgs, pgx, ngs, ngn, ppush, pcat, ite01, zw_lit, zw_m1, zw_m2, zw_m3, zNC_eq, zrow, pup_app, tg_10_2, sh_590, sh_213, z1, gv_213_2])
    all_goals repeat' (with_reducible (first | (refine And.intro ?_ ?_) | intro _))
    all_goals (first | (exact Or.inl ⟨rfl, rfl, by assumption⟩) | (exact Or.inr ⟨rfl, rfl, by assumption⟩) | skip)
  · intro t ls st H' q
    exact q.elim

theorem fn_skip : FnOK cc_X10_skip (fun _ _ => True) Rskip := am_okF vm_X10_skip cv_X10_skip (by decide +kernel) ch_X10_skip ck_X10_skip (RG := fun n => bif Nat.beq n 95 then ((fun _ _ => True), Rnext, []) else ((fun _ _ => True), Rfail, [3010, 4010])) ⟨⟨fn_next, rfl⟩, ⟨fn_fail, rfl⟩, trivial⟩ (fun g H as hg hW ha hp hP => by
  obtain ⟨p0, p1, rfl, A0, A1⟩ := aargs2 ha
  have e0 := arg_sing (n := 213) A0 rfl
  subst e0
  obtain ⟨x, rfl, _⟩ := arg_int A1
  refine ⟨_, _, hf_X10_skip (T := ta_X10_skip) x ?_ ?_ H hW (rf_213_2 hW).1 (rf_213_2 hW).2⟩ <;> rfl)

def Rrew : pR := fun _ H r H' => r = none ∧ H' = pup (pup H 213 2 0) 213 3 (-1)

def bm_X10_rewind : List aB := [(0, vb_X10_rewind_0, none)]
theorem il_X10_rewind_0 {Inv : pJ} {Q2 : Option pv → PH → Prop} {F : Nat → List pv → PH → (Option pv → PH → Prop) → Prop} {n : Nat} {ls : PL} {st : List pv} {H : PH} (h : wFB (IC bm_X10_rewind Inv Q2 F n) Q2 F (none) vb_X10_rewind_0 0 ls st H) : IC bm_X10_rewind Inv Q2 F (n + 1) 0 ls st H := Or.inr h

def iv_X10_rewind (H : PH)  : pJ := fun t ls st H' => False
def po_X10_rewind (H : PH)  : Option pv → PH → Prop := fun r H' => r = none ∧ H' = pup (pup H 213 2 0) 213 3 (-1)
set_option maxRecDepth 20000 in
set_option maxHeartbeats 4000000 in
theorem hf_X10_rewind {RG : pG} {lv : Nat} {g : Nat → Nat → Int} {T : List aL}   (H : PH) (hW : WT lv g H)  : IC bm_X10_rewind (iv_X10_rewind H ) (po_X10_rewind H ) (FX RG lv g) 3 0 [(0, (2, 213))] [] H ∧ ∀ (t : Nat) (ls : PL) (st : List pv) (H' : PH), iv_X10_rewind H  t ls st H' → gmT T t ls st H' → WT lv g H' → frm [3010, 4010] H H' → wFB (IC bm_X10_rewind (iv_X10_rewind H ) (po_X10_rewind H ) (FX RG lv g) 3) (po_X10_rewind H ) (FX RG lv g) (bget bm_X10_rewind t).2 (bget bm_X10_rewind t).1 t ls st H' := by
  refine ⟨?_, ?_⟩
  · skip
    refine il_X10_rewind_0 ?_
    simp (maxDischargeDepth := 12) [vb_X10_rewind_0, wFB, wF, k1, kI, kR, kL, k2, pget, pgs, pgx, ngs, ngn, ppush, pcat, ite01, zw_lit, zw_m1, zw_m2, zw_m3, zNC_eq, zrow, pup_app, tg_10_2, tg_10_3, sh_590, sh_213]
    repeat' (with_reducible (first | (refine And.intro ?_ ?_) | intro _))
    all_goals (first | exact ⟨rfl, rfl⟩ | skip)
  · intro t ls st H' q
    exact q.elim

theorem fn_rewind : FnOK cc_X10_rewind (fun _ _ => True) Rrew := am_okF vm_X10_rewind cv_X10_rewind (by decide +kernel) ch_X10_rewind ck_X10_rewind (RG := fun n => ((fun _ _ => True), (fun _ _ _ _ => True), [])) trivial (fun g H as hg hW ha hp hP => by
  obtain ⟨p0, rfl, A0⟩ := aargs1 ha
  have e0 := arg_sing (n := 213) A0 rfl
  subst e0
  exact ⟨_, _, hf_X10_rewind (T := ta_X10_rewind) H hW⟩)
