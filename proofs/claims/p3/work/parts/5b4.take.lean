/-! ===== the class reads the law: a thing ===== -/
theorem dgt_nn {T : Int → Int} {z : Int} : ∀ (n : Nat) (a v : Int), 0 ≤ v → 0 ≤ (dgt T z n a v).2
  | 0, a, v, h => h
  | n + 1, a, v, h => by
    unfold dgt
    split
    · rename_i q
      exact dgt_nn n _ _ (by omega)
    · exact h
theorem sC_open {H : PH} {c : Int} (hc : LC c) : sC (pup (pup H c 3 (H c 3 + 1)) 213 2 (H 213 2 + 1)) c = (H 213 2 + 1, H c 3 + 1, cdC H c) := by
  rw [sC_213 hc, sC_3 hc, show pup (pup H c 3 (H c 3 + 1)) 213 2 (H 213 2 + 1) 213 2 = H 213 2 + 1 from if_pos ⟨rfl, rfl⟩]
theorem tk_open {T : Int → Int} {z : Int} {H H3 : PH} {c w : Int} {m : Nat} (h30 : H c 3 < 30) (h40 : nxb T z (H 213 2) = 40) (hk : tkR (sSm (lwTh T z m) T z) (H 213 2 + 1, H c 3 + 1, cdC H c) (sC H3 c) w (nxb T z (H3 213 2))) : (w = 0 → lwTh T z (m + 1) (sC H c) = none) ∧ (¬ nxb T z (H3 213 2) = 41 → lwTh T z (m + 1) (sC H c) = none) ∧ (¬ w = 0 → nxb T z (H3 213 2) = 41 → lwTh T z (m + 1) (sC H c) = some ((sC H3 c).1 + 1, (sC H3 c).2)) := by
  have e : lwTh T z (m + 1) (sC H c) = (match sSm (lwTh T z m) T z (H 213 2 + 1, H c 3 + 1, cdC H c) with
    | none => none
    | some s1 => if nxb T z s1.1 = 41 then some (s1.1 + 1, s1.2) else none) := (lwTh_eq m (sC H c) h30).1 h40
  rcases hk with ⟨a, b⟩ | ⟨a, b⟩ | ⟨a, b, d⟩
  · rw [b] at e
    have e : lwTh T z (m + 1) (sC H c) = if nxb T z (H3 213 2) = 41 then some ((sC H3 c).1 + 1, (sC H3 c).2) else none := e
    refine ⟨fun q => by omega, fun q => ?_, fun _ q => ?_⟩
    · rw [e, if_neg q]
    · rw [e, if_pos q]
  · rw [b] at e
    exact ⟨fun _ => e, fun _ => e, fun q => (q a).elim⟩
  · rw [b] at e
    exact ⟨fun _ => e, fun _ => e, fun _ q => by omega⟩
theorem tk_dig {T : Int → Int} {z : Int} {H : PH} {c a v : Int} {m : Nat} (hc : LC c) (h30 : H c 3 < 30) (h2 : 0 ≤ H c 2) (hd : isD (nxb T z (H 213 2))) (h : dgt T z 4 (H 213 2) 0 = (a, v)) : tkR (lwTh T z (m + 1)) (sC H c) (sC (pup (pup (pup (pup H c 3 (H c 3 + 1)) 213 2 a) (c + 1) (H c 2) v) c 2 (H c 2 + 1)) c) 1 (nxb T z a) := by
  have e := (lwTh_eq (T := T) (z := z) m (sC H c) h30).2.1 hd
  have n := (LC_f hc).2.2.2.1
  have h' : dgt T z 4 (sC H c).1 0 = (a, v) := h
  rw [h'] at e
  have v0 : 0 ≤ v := by
    have := dgt_nn (T := T) (z := z) 4 (H 213 2) 0 (Int.le_refl _)
    rw [h] at this
    exact this
  have hx : H c 2 = pup (pup H c 3 (H c 3 + 1)) 213 2 a c 2 := by
    rw [pup_app, if_neg (fun q => n.1 q.1), pup_app, if_neg (fun q => by have := q.2; omega)]
  have es : sC (pup (pup (pup (pup H c 3 (H c 3 + 1)) 213 2 a) (c + 1) (H c 2) v) c 2 (H c 2 + 1)) c = (a, H c 3 + 1, cdC H c ++ [v]) := by
    rw [hx, sC_add hc (by rw [← hx]; exact h2), sC_213 hc, sC_3 hc, show pup (pup H c 3 (H c 3 + 1)) 213 2 a 213 2 = a from if_pos ⟨rfl, rfl⟩]
    unfold encC
    rw [if_pos v0]
    rfl
  rw [es]
  by_cases q : isD (nxb T z a)
  · rw [if_pos q] at e
    exact Or.inr (Or.inr ⟨rfl, e, q⟩)
  · rw [if_neg q] at e
    exact Or.inl ⟨rfl, e⟩
theorem tk_let {T : Int → Int} {z : Int} {H : PH} {c i : Int} {m : Nat} (hc : LC c) (h30 : H c 3 < 30) (h2 : 0 ≤ H c 2) (hd : nxb T z (H 213 2) = i) (hi : i = 115 ∨ i = 111 ∨ i = 99) {n : Int} : tkR (lwTh T z (m + 1)) (sC H c) (sC (pup (pup (pup (pup H c 3 (H c 3 + 1)) 213 2 (H 213 2 + 1)) (c + 1) (H c 2) (q1 (fun x => -x) i)) c 2 (H c 2 + 1)) c) 1 n := by
  have e := lwTh_eq (T := T) (z := z) m (sC H c) h30
  have n' := (LC_f hc).2.2.2.1
  have hx : H c 2 = pup (pup H c 3 (H c 3 + 1)) 213 2 (H 213 2 + 1) c 2 := by
    rw [pup_app, if_neg (fun q => n'.1 q.1), pup_app, if_neg (fun q => by have := q.2; omega)]
  have eq1 : q1 (fun x => -x) i = -i := q1_neg (by omega) (by omega)
  have es : sC (pup (pup (pup (pup H c 3 (H c 3 + 1)) 213 2 (H 213 2 + 1)) (c + 1) (H c 2) (q1 (fun x => -x) i)) c 2 (H c 2 + 1)) c = (H 213 2 + 1, H c 3 + 1, cdC H c ++ [encC (-i)]) := by
    rw [hx, sC_add hc (by rw [← hx]; exact h2), sC_open hc, eq1]
    rfl
  refine Or.inl ⟨rfl, ?_⟩
  rw [es]
  rcases hi with rfl | rfl | rfl
  · exact e.2.2.1 hd
  · exact e.2.2.2.1 hd
  · exact e.2.2.2.2.1 hd

def bm_X4_takeThing : List aB := [(0, vb_X4_takeThing_0, some 15), (15, vb_X4_takeThing_15, some 24), (24, vb_X4_takeThing_24, some 79), (79, vb_X4_takeThing_79, some 80), (80, vb_X4_takeThing_80, some 81), (81, vb_X4_takeThing_81, some 99), (99, vb_X4_takeThing_99, some 117), (117, vb_X4_takeThing_117, some 135), (135, vb_X4_takeThing_135, none)]
theorem il_X4_takeThing_0 {Inv : pJ} {Q2 : Option pv → PH → Prop} {F : Nat → List pv → PH → (Option pv → PH → Prop) → Prop} {n : Nat} {ls : PL} {st : List pv} {H : PH} (h : wFB (IC bm_X4_takeThing Inv Q2 F n) Q2 F (some 15) vb_X4_takeThing_0 0 ls st H) : IC bm_X4_takeThing Inv Q2 F (n + 1) 0 ls st H := Or.inr h
theorem il_X4_takeThing_15 {Inv : pJ} {Q2 : Option pv → PH → Prop} {F : Nat → List pv → PH → (Option pv → PH → Prop) → Prop} {n : Nat} {ls : PL} {st : List pv} {H : PH} (h : wFB (IC bm_X4_takeThing Inv Q2 F n) Q2 F (some 24) vb_X4_takeThing_15 15 ls st H) : IC bm_X4_takeThing Inv Q2 F (n + 1) 15 ls st H := Or.inr h
theorem il_X4_takeThing_24 {Inv : pJ} {Q2 : Option pv → PH → Prop} {F : Nat → List pv → PH → (Option pv → PH → Prop) → Prop} {n : Nat} {ls : PL} {st : List pv} {H : PH} (h : wFB (IC bm_X4_takeThing Inv Q2 F n) Q2 F (some 79) vb_X4_takeThing_24 24 ls st H) : IC bm_X4_takeThing Inv Q2 F (n + 1) 24 ls st H := Or.inr h
theorem il_X4_takeThing_79 {Inv : pJ} {Q2 : Option pv → PH → Prop} {F : Nat → List pv → PH → (Option pv → PH → Prop) → Prop} {n : Nat} {ls : PL} {st : List pv} {H : PH} (h : wFB (IC bm_X4_takeThing Inv Q2 F n) Q2 F (some 80) vb_X4_takeThing_79 79 ls st H) : IC bm_X4_takeThing Inv Q2 F (n + 1) 79 ls st H := Or.inr h
theorem il_X4_takeThing_80 {Inv : pJ} {Q2 : Option pv → PH → Prop} {F : Nat → List pv → PH → (Option pv → PH → Prop) → Prop} {n : Nat} {ls : PL} {st : List pv} {H : PH} (h : wFB (IC bm_X4_takeThing Inv Q2 F n) Q2 F (some 81) vb_X4_takeThing_80 80 ls st H) : IC bm_X4_takeThing Inv Q2 F (n + 1) 80 ls st H := Or.inr h
theorem il_X4_takeThing_81 {Inv : pJ} {Q2 : Option pv → PH → Prop} {F : Nat → List pv → PH → (Option pv → PH → Prop) → Prop} {n : Nat} {ls : PL} {st : List pv} {H : PH} (h : wFB (IC bm_X4_takeThing Inv Q2 F n) Q2 F (some 99) vb_X4_takeThing_81 81 ls st H) : IC bm_X4_takeThing Inv Q2 F (n + 1) 81 ls st H := Or.inr h
theorem il_X4_takeThing_99 {Inv : pJ} {Q2 : Option pv → PH → Prop} {F : Nat → List pv → PH → (Option pv → PH → Prop) → Prop} {n : Nat} {ls : PL} {st : List pv} {H : PH} (h : wFB (IC bm_X4_takeThing Inv Q2 F n) Q2 F (some 117) vb_X4_takeThing_99 99 ls st H) : IC bm_X4_takeThing Inv Q2 F (n + 1) 99 ls st H := Or.inr h
theorem il_X4_takeThing_117 {Inv : pJ} {Q2 : Option pv → PH → Prop} {F : Nat → List pv → PH → (Option pv → PH → Prop) → Prop} {n : Nat} {ls : PL} {st : List pv} {H : PH} (h : wFB (IC bm_X4_takeThing Inv Q2 F n) Q2 F (some 135) vb_X4_takeThing_117 117 ls st H) : IC bm_X4_takeThing Inv Q2 F (n + 1) 117 ls st H := Or.inr h
theorem il_X4_takeThing_135 {Inv : pJ} {Q2 : Option pv → PH → Prop} {F : Nat → List pv → PH → (Option pv → PH → Prop) → Prop} {n : Nat} {ls : PL} {st : List pv} {H : PH} (h : wFB (IC bm_X4_takeThing Inv Q2 F n) Q2 F (none) vb_X4_takeThing_135 135 ls st H) : IC bm_X4_takeThing Inv Q2 F (n + 1) 135 ls st H := Or.inr h

def iv_X4_takeThing (H : PH) (c d : Int) (m : Nat) : pJ := fun t ls st H' => False
def po_X4_takeThing (H : PH) (c d : Int) (m : Nat) : Option pv → PH → Prop := fun r H' => ∃ w, r = some (0, w) ∧ H' 213 1 = H 213 1 ∧ tkR (lwTh (H 214) (H 213 1) (m + 1)) (sC H c) (sC H' c) w (nxb (H 214) (H 213 1) (H' 213 2))
set_option maxRecDepth 20000 in
set_option maxHeartbeats 4000000 in
theorem hf_X4_takeThing {RG : pG} {lv : Nat} {g : Nat → Nat → Int} {T : List aL} (c d : Int) (m : Nat) (hT : RG 45 = (Ptk, Rtk (fun T z => sSm (lwTh T z m) T z), [4, 10, 47, 3010, 4004, 4010])) (hN : RG 95 = ((fun _ _ => True), Rnext, [])) (hF : RG 96 = ((fun _ _ => True), Rfail, [3010, 4010])) (hS : RG 97 = ((fun _ _ => True), Rskip, [3010, 4010])) (hD : RG 98 = ((fun _ _ => True), RisD, [])) (hG : RG 100 = ((fun as _ => 0 ≤ ai as 1 ∧ ai as 1 ≤ 4), Rdgt, [10])) (hA : RG 50 = ((fun _ _ => True), Radd, [4, 47])) (H : PH) (hW : WT lv g H) (hc : LC c) (hd : 0 ≤ d ∧ d ≤ 8) (hg : LGd (H 213 1) (sC H c)) : IC bm_X4_takeThing (iv_X4_takeThing H c d m) (po_X4_takeThing H c d m) (FX RG lv g) 11 0 [(0, (2, c)), (1, (2, 213)), (2, (0, d))] [] H ∧ ∀ (t : Nat) (ls : PL) (st : List pv) (H' : PH), iv_X4_takeThing H c d m t ls st H' → gmT T t ls st H' → WT lv g H' → frm [4, 10, 47, 3010, 4004, 4010] H H' → wFB (IC bm_X4_takeThing (iv_X4_takeThing H c d m) (po_X4_takeThing H c d m) (FX RG lv g) 11) (po_X4_takeThing H c d m) (FX RG lv g) (bget bm_X4_takeThing t).2 (bget bm_X4_takeThing t).1 t ls st H' := by
  have hc0 : 0 ≤ c + 1 := by have := hc.1; omega
  obtain ⟨f1, f2, f3, f4, f5⟩ := LC_f hc
  have g3 : ∀ X : PH, gv X c 3 = X c 3 := fun X => (f5 X).2.2
  have wl := WT_law hW hc
  have t2 := rf_213_2 hW
  obtain ⟨a1, a2, a3, a4, a5⟩ := hg
  have a1 : 0 ≤ H 213 2 := a1
  have a2 : H 213 2 ≤ H 213 1 := a2
  have a3 : 0 ≤ H c 3 := a3
  have a4 : H c 3 ≤ 30 := a4
  have a5 : H c 2 ≤ 2 * H c 3 := by
    have := sC_len (H := H) (c := c) wl.1
    rw [← this]
    exact a5
  have zt : zw (H c 3 + 1) = H c 3 + 1 := zw_lit (by omega) (by omega)
  have za : zw (H 213 2 + 1) = H 213 2 + 1 := zw_lit (by omega) (by omega)
  have zd : zw (d + 1) = d + 1 := zw_lit (by omega) (by omega)
  have n213 : ¬ (213 : Int) = c := fun q => f4.1 q.symm
  have n214 : ¬ (214 : Int) = c := fun q => f4.2.1 q.symm
  have nc1 : ¬ c = c + 1 := by omega
  have et1 : pup (pup H c 3 (H c 3 + 1)) 213 2 (H 213 2 + 1) 213 1 = H 213 1 := by simp [pup_app]
  have etT : pup (pup H c 3 (H c 3 + 1)) 213 2 (H 213 2 + 1) 214 = H 214 := by rw [pup_r (by decide), pup_r n214]
  have eu1 : pup H c 3 (H c 3 + 1) 213 1 = H 213 1 := by simp [pup_app]
  have eu2 : pup H c 3 (H c 3 + 1) 213 2 = H 213 2 := by simp [pup_app]
  have euT : pup H c 3 (H c 3 + 1) 214 = H 214 := pup_r n214
  have et : ∀ a, pup (pup H c 3 (H c 3 + 1)) 213 2 a 213 1 = H 213 1 := fun a => by simp [pup_app]
  have hx : ∀ a, pup (pup H c 3 (H c 3 + 1)) 213 2 a c 2 = H c 2 := fun a => by simp [pup_app, n213, f4]
  have hop : nxb (H 214) (H 213 1) (H 213 2) = 40 → H c 3 < 30 → LGd (H 213 1) (H 213 2 + 1, H c 3 + 1, cdC H c) := fun q q3 => by
    have := nxb_lt (T := H 214) (z := H 213 1) (a := H 213 2) (by omega)
    refine ⟨by show 0 ≤ H 213 2 + 1; omega, by show H 213 2 + 1 ≤ H 213 1; omega, by show 0 ≤ H c 3 + 1; omega, by show H c 3 + 1 ≤ 30; omega, ?_⟩
    show ((cdC H c).length : Int) ≤ 2 * (H c 3 + 1)
    rw [cdC_len wl.1]
    omega
  refine ⟨?_, ?_⟩
  · skip
    refine il_X4_takeThing_0 ?_
    simp (maxDischargeDepth := 12) [vb_X4_takeThing_0, wFB, wF, k1, kI, kR, kL, k2, pget, pgs, pgx, ngs, ngn, ppush, pcat, ite01, zw_lit, zw_m1, zw_m2, zw_m3, zNC_eq, zrow, pup_app, tg_10_2, tg_4_3, sh_590, sh_213, gv_213_2, hc0, f1, f4, g3, zt, za, zd, n213, n214, nc1, pup_r]
    repeat' (with_reducible (first | (refine And.intro ?_ ?_) | intro _))
    all_goals try ((with_reducible refine il_X4_takeThing_15 ?_); simp (maxDischargeDepth := 12) [vb_X4_takeThing_15, wFB, wF, k1, kI, kR, kL, k2, pget, pgs, pgx, ngs, ngn, ppush, pcat, ite01, zw_lit, zw_m1, zw_m2, zw_m3, zNC_eq, zrow, pup_app, tg_10_2, tg_4_3, sh_590, sh_213, gv_213_2, hc0, f1, f4, g3, zt, za, zd, n213, n214, nc1, pup_r])
    all_goals repeat' (with_reducible (first | (refine And.intro ?_ ?_) | intro _))
    all_goals try ((with_reducible refine fx_use hF ?_ ?_); (· exact trivial); intro r0 H2 hR hF2 hW2; simp only [Rfail, ai_0, ai_1, ai_2, ai_3, ai_4] at hR; (obtain ⟨rfl, rfl⟩ := hR) <;> (simp (maxDischargeDepth := 12) [wFB, wF, k1, kI, kR, kL, k2, pget, pgs, pgx, ngs, ngn, ppush, pcat, ite01, zw_lit, zw_m1, zw_m2, zw_m3, zNC_eq, zrow, pup_app, tg_10_2, tg_4_3, sh_590, sh_213, gv_213_2, hc0, f1, f4, g3, zt, za, zd, n213, n214, nc1, pup_r]))
    all_goals repeat' (with_reducible (first | (refine And.intro ?_ ?_) | intro _))
    all_goals try ((with_reducible refine il_X4_takeThing_24 ?_); simp (maxDischargeDepth := 12) [vb_X4_takeThing_24, wFB, wF, k1, kI, kR, kL, k2, pget, pgs, pgx, ngs, ngn, ppush, pcat, ite01, zw_lit, zw_m1, zw_m2, zw_m3, zNC_eq, zrow, pup_app, tg_10_2, tg_4_3, sh_590, sh_213, gv_213_2, hc0, f1, f4, g3, zt, za, zd, n213, n214, nc1, pup_r])
    all_goals repeat' (with_reducible (first | (refine And.intro ?_ ?_) | intro _))
    all_goals try ((with_reducible refine fx_use hN ?_ ?_); (· exact trivial); intro r0 H2 hR hF2 hW2; simp only [Rnext, ai_0, ai_1, ai_2, ai_3, ai_4] at hR; (obtain ⟨rfl, rfl⟩ := hR) <;> (simp (maxDischargeDepth := 12) [wFB, wF, k1, kI, kR, kL, k2, pget, pgs, pgx, ngs, ngn, ppush, pcat, ite01, zw_lit, zw_m1, zw_m2, zw_m3, zNC_eq, zrow, pup_app, tg_10_2, tg_4_3, sh_590, sh_213, gv_213_2, hc0, f1, f4, g3, zt, za, zd, n213, n214, nc1, pup_r]))
    all_goals repeat' (with_reducible (first | (refine And.intro ?_ ?_) | intro _))
    all_goals try ((with_reducible refine fx_use hT ?_ ?_); (· (refine ⟨hc, ?_⟩; show LGd (pup (pup H c 3 (H c 3 + 1)) 213 2 (H 213 2 + 1) 213 1) (sC (pup (pup H c 3 (H c 3 + 1)) 213 2 (H 213 2 + 1)) c); rw [sC_open hc, et1]; exact hop (by assumption) (by omega))); intro r0 H2 hR hF2 hW2; simp only [Rtk, ai_0, ai_1, ai_2, ai_3, ai_4] at hR; (obtain ⟨w2, rfl, e2, hk⟩ := hR) <;> (have e2 : H2 213 1 = H 213 1 := e2.trans et1; have eT2 : H2 214 = H 214 := (frm_r hF2 214 (by decide +kernel) (by decide +kernel) (by decide)).trans etT; rw [etT, et1, sC_open hc] at hk; have ht := tk_open (by omega) (by assumption) hk; simp (maxDischargeDepth := 12) [wFB, wF, k1, kI, kR, kL, k2, pget, pgs, pgx, ngs, ngn, ppush, pcat, ite01, zw_lit, zw_m1, zw_m2, zw_m3, zNC_eq, zrow, pup_app, tg_10_2, tg_4_3, sh_590, sh_213, gv_213_2, hc0, f1, f4, g3, zt, za, zd, n213, n214, nc1, pup_r]))
    all_goals repeat' (with_reducible (first | (refine And.intro ?_ ?_) | intro _))
    all_goals try ((with_reducible refine fx_use hS ?_ ?_); (· exact trivial); intro r0 H2 hR hF2 hW2; simp only [Rskip, ai_0, ai_1, ai_2, ai_3, ai_4] at hR; (obtain (⟨rfl, rfl, hn⟩ | ⟨rfl, rfl, hn⟩) := hR) <;> (rw [eT2, e2] at hn; simp (maxDischargeDepth := 12) [wFB, wF, k1, kI, kR, kL, k2, pget, pgs, pgx, ngs, ngn, ppush, pcat, ite01, zw_lit, zw_m1, zw_m2, zw_m3, zNC_eq, zrow, pup_app, tg_10_2, tg_4_3, sh_590, sh_213, gv_213_2, hc0, f1, f4, g3, zt, za, zd, n213, n214, nc1, pup_r]))
    all_goals repeat' (with_reducible (first | (refine And.intro ?_ ?_) | intro _))
    all_goals try ((with_reducible refine il_X4_takeThing_79 ?_); simp (maxDischargeDepth := 12) [vb_X4_takeThing_79, wFB, wF, k1, kI, kR, kL, k2, pget, pgs, pgx, ngs, ngn, ppush, pcat, ite01, zw_lit, zw_m1, zw_m2, zw_m3, zNC_eq, zrow, pup_app, tg_10_2, tg_4_3, sh_590, sh_213, gv_213_2, hc0, f1, f4, g3, zt, za, zd, n213, n214, nc1, pup_r])
    all_goals repeat' (with_reducible (first | (refine And.intro ?_ ?_) | intro _))
    all_goals try ((with_reducible refine il_X4_takeThing_80 ?_); simp (maxDischargeDepth := 12) [vb_X4_takeThing_80, wFB, wF, k1, kI, kR, kL, k2, pget, pgs, pgx, ngs, ngn, ppush, pcat, ite01, zw_lit, zw_m1, zw_m2, zw_m3, zNC_eq, zrow, pup_app, tg_10_2, tg_4_3, sh_590, sh_213, gv_213_2, hc0, f1, f4, g3, zt, za, zd, n213, n214, nc1, pup_r])
    all_goals repeat' (with_reducible (first | (refine And.intro ?_ ?_) | intro _))
    all_goals try ((with_reducible refine il_X4_takeThing_81 ?_); simp (maxDischargeDepth := 12) [vb_X4_takeThing_81, wFB, wF, k1, kI, kR, kL, k2, pget, pgs, pgx, ngs, ngn, ppush, pcat, ite01, zw_lit, zw_m1, zw_m2, zw_m3, zNC_eq, zrow, pup_app, tg_10_2, tg_4_3, sh_590, sh_213, gv_213_2, hc0, f1, f4, g3, zt, za, zd, n213, n214, nc1, pup_r])
    all_goals repeat' (with_reducible (first | (refine And.intro ?_ ?_) | intro _))
    all_goals try ((with_reducible refine fx_use hD ?_ ?_); (· exact trivial); intro r0 H2 hR hF2 hW2; simp only [RisD, ai_0, ai_1, ai_2, ai_3, ai_4] at hR; (obtain ⟨rfl, rfl⟩ := hR) <;> (simp (maxDischargeDepth := 12) [wFB, wF, k1, kI, kR, kL, k2, pget, pgs, pgx, ngs, ngn, ppush, pcat, ite01, zw_lit, zw_m1, zw_m2, zw_m3, zNC_eq, zrow, pup_app, tg_10_2, tg_4_3, sh_590, sh_213, gv_213_2, hc0, f1, f4, g3, zt, za, zd, n213, n214, nc1, pup_r]))
    all_goals repeat' (with_reducible (first | (refine And.intro ?_ ?_) | intro _))
    all_goals try ((with_reducible refine fx_use hG ?_ ?_); (· exact ⟨by decide, by decide⟩); intro r0 H2 hR hF2 hW2; simp only [Rdgt, ai_0, ai_1, ai_2, ai_3, ai_4] at hR; (obtain ⟨a, v, rfl, rfl, hdg⟩ := hR) <;> (rw [eu1, euT, eu2] at hdg; simp (maxDischargeDepth := 12) [wFB, wF, k1, kI, kR, kL, k2, pget, pgs, pgx, ngs, ngn, ppush, pcat, ite01, zw_lit, zw_m1, zw_m2, zw_m3, zNC_eq, zrow, pup_app, tg_10_2, tg_4_3, sh_590, sh_213, gv_213_2, hc0, f1, f4, g3, zt, za, zd, n213, n214, nc1, pup_r]))
    all_goals repeat' (with_reducible (first | (refine And.intro ?_ ?_) | intro _))
    all_goals try ((with_reducible refine fx_use hA ?_ ?_); (· exact trivial); intro r0 H2 hR hF2 hW2; simp only [Radd, ai_0, ai_1, ai_2, ai_3, ai_4] at hR; (obtain ⟨rfl, hA⟩ := hR) <;> (simp (maxDischargeDepth := 12) [wFB, wF, k1, kI, kR, kL, k2, pget, pgs, pgx, ngs, ngn, ppush, pcat, ite01, zw_lit, zw_m1, zw_m2, zw_m3, zNC_eq, zrow, pup_app, tg_10_2, tg_4_3, sh_590, sh_213, gv_213_2, hc0, f1, f4, g3, zt, za, zd, n213, n214, nc1, pup_r]))
    all_goals repeat' (with_reducible (first | (refine And.intro ?_ ?_) | intro _))
    all_goals try ((with_reducible refine il_X4_takeThing_99 ?_); simp (maxDischargeDepth := 12) [vb_X4_takeThing_99, wFB, wF, k1, kI, kR, kL, k2, pget, pgs, pgx, ngs, ngn, ppush, pcat, ite01, zw_lit, zw_m1, zw_m2, zw_m3, zNC_eq, zrow, pup_app, tg_10_2, tg_4_3, sh_590, sh_213, gv_213_2, hc0, f1, f4, g3, zt, za, zd, n213, n214, nc1, pup_r])
    all_goals repeat' (with_reducible (first | (refine And.intro ?_ ?_) | intro _))
    all_goals try ((with_reducible refine il_X4_takeThing_117 ?_); simp (maxDischargeDepth := 12) [vb_X4_takeThing_117, wFB, wF, k1, kI, kR, kL, k2, pget, pgs, pgx, ngs, ngn, ppush, pcat, ite01, zw_lit, zw_m1, zw_m2, zw_m3, zNC_eq, zrow, pup_app, tg_10_2, tg_4_3, sh_590, sh_213, gv_213_2, hc0, f1, f4, g3, zt, za, zd, n213, n214, nc1, pup_r])
    all_goals repeat' (with_reducible (first | (refine And.intro ?_ ?_) | intro _))
    all_goals try ((with_reducible refine fx_use hA ?_ ?_); (· exact trivial); intro r0 H2 hR hF2 hW2; simp only [Radd, ai_0, ai_1, ai_2, ai_3, ai_4] at hR; (obtain ⟨rfl, hA⟩ := hR) <;> (simp (maxDischargeDepth := 12) [wFB, wF, k1, kI, kR, kL, k2, pget, pgs, pgx, ngs, ngn, ppush, pcat, ite01, zw_lit, zw_m1, zw_m2, zw_m3, zNC_eq, zrow, pup_app, tg_10_2, tg_4_3, sh_590, sh_213, gv_213_2, hc0, f1, f4, g3, zt, za, zd, n213, n214, nc1, pup_r]))
    all_goals repeat' (with_reducible (first | (refine And.intro ?_ ?_) | intro _))
    all_goals try ((with_reducible refine il_X4_takeThing_135 ?_); simp (maxDischargeDepth := 12) [vb_X4_takeThing_135, wFB, wF, k1, kI, kR, kL, k2, pget, pgs, pgx, ngs, ngn, ppush, pcat, ite01, zw_lit, zw_m1, zw_m2, zw_m3, zNC_eq, zrow, pup_app, tg_10_2, tg_4_3, sh_590, sh_213, gv_213_2, hc0, f1, f4, g3, zt, za, zd, n213, n214, nc1, pup_r])
    all_goals repeat' (with_reducible (first | (refine And.intro ?_ ?_) | intro _))
    all_goals try ((with_reducible refine fx_use hF ?_ ?_); (· exact trivial); intro r0 H2 hR hF2 hW2; simp only [Rfail, ai_0, ai_1, ai_2, ai_3, ai_4] at hR; (obtain ⟨rfl, rfl⟩ := hR) <;> (simp (maxDischargeDepth := 12) [wFB, wF, k1, kI, kR, kL, k2, pget, pgs, pgx, ngs, ngn, ppush, pcat, ite01, zw_lit, zw_m1, zw_m2, zw_m3, zNC_eq, zrow, pup_app, tg_10_2, tg_4_3, sh_590, sh_213, gv_213_2, hc0, f1, f4, g3, zt, za, zd, n213, n214, nc1, pup_r]))
    all_goals repeat' (with_reducible (first | (refine And.intro ?_ ?_) | intro _))
    all_goals (first | (exfalso; omega) | (exact ⟨0, rfl, by simp [pup_app], Or.inr (Or.inl ⟨rfl, lwTh_30 _ _ (show 30 ≤ H c 3 by omega)⟩)⟩) | (exact ⟨0, rfl, by simp [pup_app], Or.inr (Or.inl ⟨rfl, (lwTh_eq m (sC H c) (show H c 3 < 30 by omega)).2.2.2.2.2 (show ¬ ((nxb (H 214) (H 213 1) (H 213 2)) = 40 ∨ isD (nxb (H 214) (H 213 1) (H 213 2)) ∨ (nxb (H 214) (H 213 1) (H 213 2)) = 115 ∨ (nxb (H 214) (H 213 1) (H 213 2)) = 111 ∨ (nxb (H 214) (H 213 1) (H 213 2)) = 99) by omega)⟩)⟩) | (exact ⟨0, rfl, e2, Or.inr (Or.inl ⟨rfl, ht.1 (by assumption)⟩)⟩) | (exact ⟨0, rfl, by simp [pup_app, e2], Or.inr (Or.inl ⟨rfl, ht.2.1 hn⟩)⟩) | (exact ⟨1, rfl, by simp [pup_app, e2], Or.inl ⟨rfl, (ht.2.2 (by assumption) hn).trans (by rw [sC_at hc])⟩⟩) | (rw [hx] at hA; have hA := hA (by omega); subst hA; exact ⟨1, rfl, (frm_f hF2 213 1 (by decide +kernel) (by decide)).trans (et _), tk_let hc (by omega) wl.1 rfl (show (nxb (H 214) (H 213 1) (H 213 2)) = 115 ∨ (nxb (H 214) (H 213 1) (H 213 2)) = 111 ∨ (nxb (H 214) (H 213 1) (H 213 2)) = 99 by omega)⟩) | (rw [hx] at hA; have hA := hA (by omega); subst hA; refine ⟨1, rfl, (frm_f hF2 213 1 (by decide +kernel) (by decide)).trans (et _), ?_⟩; rw [show pup (pup (pup (pup H c 3 (H c 3 + 1)) 213 2 a) (c + 1) (H c 2) v) c 2 (H c 2 + 1) 213 2 = a by simp [pup_app, n213, f4, show ¬ (213 : Int) = c + 1 from fun q => f4.2.2.1 q.symm]]; exact tk_dig hc (by omega) wl.1 (show isD (nxb (H 214) (H 213 1) (H 213 2)) by omega) hdg) | skip)
  · intro t ls st H' q
    exact q.elim
