/-! ===== takeBill, takeItems ===== -/
theorem w2_bl {g : Nat → Nat → Int} {X : PH} {b v : Int} (i : Nat) (hi : i < 6) (h : WT 2 g X) (b0 : 0 ≤ b) (b1 : b ≤ 11) (hv : aval (fty 0 i) ((fty 0 i).1, v)) : WT 2 g (pup X (57 + 3 * b) i v) := by
  have hs := sh_bill (l := b.toNat) (by omega)
  have hx := sh_billx (l := b.toNat) (by omega)
  have ec : ((57 + 3 * b.toNat : Nat) : Int) = 57 + 3 * b := by omega
  have := WT_up (c := 57 + 3 * b.toNat) (i := i) (v := v) h (by
    rcases (by omega : i = 0 ∨ i = 1 ∨ i = 2 ∨ i = 3 ∨ i = 4 ∨ i = 5) with rfl | rfl | rfl | rfl | rfl | rfl
    · exact hx.1
    · exact hx.2.1
    · exact hx.2.2
    · exact hs.2.2.1
    · exact hs.2.2.2.1
    · exact hs.2.2.2.2.1) (by rw [hs.2.2.2.2.2.1]; exact hv) rfl
  rw [ec] at this
  exact this
theorem fr_bl {md : List Nat} {H0 X : PH} {b v : Int} (i : Nat) (hi : i < 6) (h : frm md H0 X) (b0 : 0 ≤ b) (b1 : b ≤ 11) (hm : inmdT md 0 = true) : frm md H0 (pup X (57 + 3 * b) i v) := by
  have hs := sh_bill (l := b.toNat) (by omega)
  have hx := sh_billx (l := b.toNat) (by omega)
  have ec : ((57 + 3 * b.toNat : Nat) : Int) = 57 + 3 * b := by omega
  have := frm_up (c := 57 + 3 * b.toNat) (i := i) (v := v) h (by
    rw [Int.toNat_natCast]
    rcases (by omega : i = 0 ∨ i = 1 ∨ i = 2 ∨ i = 3 ∨ i = 4 ∨ i = 5) with rfl | rfl | rfl | rfl | rfl | rfl
    · exact hx.1
    · exact hx.2.1
    · exact hx.2.2
    · exact hs.2.2.1
    · exact hs.2.2.2.1
    · exact hs.2.2.2.2.1) (by rw [hs.2.2.2.2.2.1]; exact inmd_T hm _)
  rw [ec] at this
  exact this
theorem w2_1_2 {g : Nat → Nat → Int} {H : PH} {v : Int} (h : WT 2 g H) (h1 : 0 ≤ v) (h2 : v ≤ 12) : WT 2 g (pup H 1 2 v) := WT_wf (c := 1) (i := 2) (lo := 0) (hi := 12) h (by decide +kernel) (by decide +kernel) h1 h2
def bgH (H : PH) (c k x y : Int) : PH := pup (pup (pup (pup (pup (pup H c 0 k) c 1 x) c 2 y) c 3 0) c 4 0) c 5 0
theorem bgH_row {H : PH} {c k x y c' : Int} (h : c' ≠ c) : bgH H c k x y c' = H c' := by
  unfold bgH
  rw [pup_row h, pup_row h, pup_row h, pup_row h, pup_row h, pup_row h]
theorem bill_ok {g : Nat → Nat → Int} {H : PH} {b k x y : Int} (hW : WT 2 g H) (hM : IM H) (hN : H 1 2 = b) (b0 : 0 ≤ b) (b1 : b ≤ 11) (hk : aval (1, 1, 0, 0) (1, k)) (x0 : -2147483648 ≤ x) (x1 : x ≤ 2147483647) (y0 : -2147483648 ≤ y) (y1 : y ≤ 2147483647) : ∀ H', H' = pup (bgH H (57 + 3 * b) k x y) 1 2 (b + 1) → WT 2 g H' ∧ (∀ X : PH, frm [0, 1, 2, 3, 5, 6, 9, 11, 34, 35, 36, 37, 38, 39, 40, 41, 42, 43, 44, 45, 46, 47, 48, 49, 50, 51, 53, 54, 55, 56, 57, 58, 59, 60, 61, 62, 63, 64, 65, 66, 67, 68, 69, 70, 71, 72, 73, 74, 75, 76, 77, 4, 10, 8] X H → frm [0, 1, 2, 3, 5, 6, 9, 11, 34, 35, 36, 37, 38, 39, 40, 41, 42, 43, 44, 45, 46, 47, 48, 49, 50, 51, 53, 54, 55, 56, 57, 58, 59, 60, 61, 62, 63, 64, 65, 66, 67, 68, 69, 70, 71, 72, 73, 74, 75, 76, 77, 4, 10, 8] X H') ∧ IM H' ∧ SC H H' ∧ H 1 2 ≤ H' 1 2 ∧ (∀ x, 0 ≤ x → x ≤ 11 → x < H 1 2 → rem H' x = rem H x) := by
  intro H' hH
  have row : ∀ c : Int, c ≠ 57 + 3 * b → ∀ i : Int, ¬ (c = 1 ∧ i = 2) → H' c i = H c i := by
    intro c hc i hi
    rw [hH]
    have : pup (bgH H (57 + 3 * b) k x y) 1 2 (b + 1) c i = bgH H (57 + 3 * b) k x y c i := if_neg hi
    rw [this, bgH_row hc]
  have e12 : H' 1 2 = b + 1 := by
    rw [hH]
    exact if_pos ⟨rfl, rfl⟩
  refine ⟨?_, fun X hX => ?_, ?_, ⟨row 0 (by omega) 7 (by omega), row 0 (by omega) 8 (by omega), fun j j0 j1 => ?_⟩, by omega, fun z z0 z1 z2 => row _ (by omega) 5 (by omega)⟩
  · rw [hH]
    unfold bgH
    exact w2_1_2 (w2_bl 5 (by decide) (w2_bl 4 (by decide) (w2_bl 3 (by decide) (w2_bl 2 (by decide) (w2_bl 1 (by decide) (w2_bl 0 (by decide) hW b0 b1 hk) b0 b1 (vin x0 x1)) b0 b1 (vin y0 y1)) b0 b1 (vin (by omega) (by omega))) b0 b1 (vin (by omega) (by omega))) b0 b1 (vin (lo := 0) (hi := 6) (by omega) (by omega))) (by omega) (by omega)
  · rw [hH]
    unfold bgH
    exact ff_1_2 (fr_bl 5 (by decide) (fr_bl 4 (by decide) (fr_bl 3 (by decide) (fr_bl 2 (by decide) (fr_bl 1 (by decide) (fr_bl 0 (by decide) hX b0 b1 rfl) b0 b1 rfl) b0 b1 rfl) b0 b1 rfl) b0 b1 rfl) b0 b1 rfl) rfl
  · rw [hH]
    unfold bgH
    exact IM_pup (IM_pup (IM_pup (IM_pup (IM_pup (IM_pup (IM_pup hM (by omega)) (by omega)) (by omega)) (by omega)) (by omega)) (by omega)) (by omega)
  · unfold ent
    rw [row _ (by omega) 0 (by omega), row _ (by omega) 1 (by omega), row _ (by omega) 2 (by omega), row _ (by omega) 3 (by omega)]
theorem get_long {ls1 ls : PL} {H : PH} {al : List (Nat × aE)} {v : Nat} {a b : Int} {n : Nat} {o : aG} {w : Nat × Int} {k : List aK} (h : lok ls1 ls H al) (hm : (v, ((1, a, b, n), o, w, k)) ∈ al) : ∃ x, pget ls v = some (1, x) ∧ aval (1, a, b, n) (1, x) := by
  obtain ⟨p, g1, g2⟩ := h _ hm
  have q := g2.1
  obtain ⟨p1, p2⟩ := p
  have e : p1 = 1 := q.1
  subst e
  exact ⟨p2, g1, q⟩

set_option maxRecDepth 20000 in
set_option maxHeartbeats 4000000 in
theorem sg_X1_takeBill_122 {G : zG} {us : Nat} {g : Nat → Nat → Int} (H0 : PH) (b k x y : Int) (b0 : 0 ≤ b) (b1 : b ≤ 11) (hk : aval (1, 1, 0, 0) (1, k)) (x0 : -2147483648 ≤ x) (x1 : x ≤ 2147483647) (y0q : -2147483648 ≤ y) (y1q : y ≤ 2147483647)  : ∀ (ls : PL) , pget ls 0 = some (2, 1) → pget ls 3 = some (1, k) → pget ls 5 = some (0, x) → pget ls 6 = some (0, y) → WT 2 g H0 → IM H0 → H0 1 2 = b → Tr G us kd_X1_takeBill 9 (zget kd_X1_takeBill 122) 122 ls [] H0 (fun r H' => ∃ x, r = some (0, x) ∧ WT 2 g H' ∧ (∀ X : PH, frm [0, 1, 2, 3, 5, 6, 9, 11, 34, 35, 36, 37, 38, 39, 40, 41, 42, 43, 44, 45, 46, 47, 48, 49, 50, 51, 53, 54, 55, 56, 57, 58, 59, 60, 61, 62, 63, 64, 65, 66, 67, 68, 69, 70, 71, 72, 73, 74, 75, 76, 77, 4, 10, 8] X H0 → frm [0, 1, 2, 3, 5, 6, 9, 11, 34, 35, 36, 37, 38, 39, 40, 41, 42, 43, 44, 45, 46, 47, 48, 49, 50, 51, 53, 54, 55, 56, 57, 58, 59, 60, 61, 62, 63, 64, 65, 66, 67, 68, 69, 70, 71, 72, 73, 74, 75, 76, 77, 4, 10, 8] X H') ∧ IM H' ∧ SC H0 H' ∧ H0 1 2 ≤ H' 1 2 ∧ (∀ x, 0 ≤ x → x ≤ 11 → x < H0 1 2 → rem H' x = rem H0 x)) := by
  intro ls   l0 l3 l5 l6 hW hM hN
  obtain ⟨c, hc⟩ : ∃ c : Int, c = 57 + 3 * b := ⟨_, rfl⟩
  have gB : ∀ X : PH, gv X 46 b = c := fun X => by rw [hc]; exact gv_46 b0 b1
  have hs := sh_bill (l := b.toNat) (by omega)
  have eN : c.toNat = 57 + 3 * b.toNat := by omega
  have c0 : 0 ≤ c := by omega
  have c1 : c < 622 := by omega
  have s1 : (zSh c.toNat).1 = 0 := by rw [eN]; exact hs.1
  have s2 : (zSh c.toNat).2.1 = 8 := by rw [eN]; exact hs.2.1
  have y3 : zrt c.toNat 3 = none := by rw [eN]; exact hs.2.2.1
  have y4 : zrt c.toNat 4 = none := by rw [eN]; exact hs.2.2.2.1
  have y5 : zrt c.toNat 5 = none := by rw [eN]; exact hs.2.2.2.2.1
  have u3 : ∀ X : PH, gv X c 3 = X c 3 := fun X => gv_none y3
  have u4 : ∀ X : PH, gv X c 4 = X c 4 := fun X => gv_none y4
  have u5 : ∀ X : PH, gv X c 5 = X c 5 := fun X => gv_none y5
  have n1 : ¬ c = 0 := by omega
  have n2 : ¬ (0 : Int) = c := by omega
  have n3 : ¬ c = 1 := by omega
  have n4 : ¬ (1 : Int) = c := by omega
  have hsx := sh_billx (l := b.toNat) (by omega)
  have y0 : zrt c.toNat 0 = none := by rw [eN]; exact hsx.1
  have y1 : zrt c.toNat 1 = none := by rw [eN]; exact hsx.2.1
  have y2 : zrt c.toNat 2 = none := by rw [eN]; exact hsx.2.2
  have zb : zw (b + 1) = b + 1 := zw_lit (by omega) (by omega)
  refine tr_lab (D := 8) (t := 122) vb_X1_takeBill_122 _ ve_X1_takeBill_122 ?_
  simp (maxDischargeDepth := 12) [vb_X1_takeBill_122, wB, wI, k1, kI, kR, kL, k2, pget, parg, ppush, pcat, zw_lit, zw_m1, zw_m2, zw_m3, zNC_eq, zrow, pup_app, pget_pss, pget_psx, nlg_some, nlg_none, gv_1_1, gv_1_2, gv_213_2, pe, tg_10_2, tg_1_1, tg_1_2, zfit, zisI, sh_590, sh_1, sh_46, gB, c0, c1, s1, s2, y3, y4, y5, u3, u4, u5, n1, n2, n3, n4, hN, zb, l0, l3, l5, l6]
  repeat' (with_reducible (first | (exact ⟨_, rfl, bill_ok hW hM hN b0 b1 hk x0 x1 y0q y1q _ (by subst hc; rfl)⟩) | (exact bill_ok hW hM hN b0 b1 hk x0 x1 y0q y1q _ (by subst hc; rfl)) | (refine And.intro ?_ ?_) | intro _))
  all_goals try (refine Ca_use (ca_X0_begin _ _ _ _ _ c0 c1 s1 s2 y0 y1 y2 y3 y4 y5) (by omega) ?_; rintro _ _ ⟨rfl, rfl⟩; simp (maxDischargeDepth := 12) [wB, wI, k1, kI, kR, kL, k2, pget, parg, ppush, pcat, zw_lit, zw_m1, zw_m2, zw_m3, zNC_eq, zrow, pup_app, pget_pss, pget_psx, nlg_some, nlg_none, gv_1_1, gv_1_2, gv_213_2, pe, tg_10_2, tg_1_1, tg_1_2, zfit, zisI, sh_590, sh_1, sh_46, gB, c0, c1, s1, s2, y3, y4, y5, u3, u4, u5, n1, n2, n3, n4, hN, zb, l0, l3, l5, l6])
  all_goals repeat' (with_reducible (first | (exact ⟨_, rfl, bill_ok hW hM hN b0 b1 hk x0 x1 y0q y1q _ (by subst hc; rfl)⟩) | (exact bill_ok hW hM hN b0 b1 hk x0 x1 y0q y1q _ (by subst hc; rfl)) | (refine And.intro ?_ ?_) | intro _))
  all_goals (first | omega | assumption | (subst hc; exact (bill_ok hW hM hN b0 b1 hk x0 x1 y0q y1q _ rfl).1) | (subst hc; exact (bill_ok hW hM hN b0 b1 hk x0 x1 y0q y1q _ rfl).2.1) | (subst hc; exact (bill_ok hW hM hN b0 b1 hk x0 x1 y0q y1q _ rfl).2.2.1) | (subst hc; exact (bill_ok hW hM hN b0 b1 hk x0 x1 y0q y1q _ rfl).2.2.2.1) | (subst hc; exact (bill_ok hW hM hN b0 b1 hk x0 x1 y0q y1q _ rfl).2.2.2.2.2 _ (by assumption) (by assumption) (by rw [hN]; assumption)) | (subst hc; exact (bill_ok hW hM hN b0 b1 hk x0 x1 y0q y1q _ rfl).2.1 _ (by assumption)) | (subst hc; exact ⟨_, rfl, bill_ok hW hM hN b0 b1 hk x0 x1 y0q y1q _ rfl⟩) | decide | skip)

theorem ca_X1_takeBill {G : zG} {us : Nat} {g : Nat → Nat → Int} (H : PH) (hW : WT 2 g H) (hM : IM H) (hat : H 213 2 ≤ 599) : Ca G us 9 7 [(2, 1), (2, 213)] H (fun r H' => ∃ x, r = some (0, x) ∧ WT 2 g H' ∧ (∀ X : PH, frm [0, 1, 2, 3, 5, 6, 9, 11, 34, 35, 36, 37, 38, 39, 40, 41, 42, 43, 44, 45, 46, 47, 48, 49, 50, 51, 53, 54, 55, 56, 57, 58, 59, 60, 61, 62, 63, 64, 65, 66, 67, 68, 69, 70, 71, 72, 73, 74, 75, 76, 77, 4, 10, 8] X H → frm [0, 1, 2, 3, 5, 6, 9, 11, 34, 35, 36, 37, 38, 39, 40, 41, 42, 43, 44, 45, 46, 47, 48, 49, 50, 51, 53, 54, 55, 56, 57, 58, 59, 60, 61, 62, 63, 64, 65, 66, 67, 68, 69, 70, 71, 72, 73, 74, 75, 76, 77, 4, 10, 8] X H') ∧ IM H' ∧ SC H H' ∧ H 1 2 ≤ H' 1 2 ∧ (∀ x, 0 ≤ x → x ≤ 11 → x < H 1 2 → rem H' x = rem H x)) := by
  refine am_okQ (c := cq_X1_takeBill) vm_X1_takeBill bk_X1_takeBill (by decide) kq_X1_takeBill zk_X1_takeBill (as := [((2 : Nat), (1 : Int)), (2, 213)]) (GOK_gH hM) (WT_self hW) (show aargs [(2, 0, 0, 1), (2, 0, 0, 10)] [(2, 1), (2, 213)] from ⟨sref 1 (by decide) rfl, sref 213 (by decide) rfl, trivial⟩) (fun f hf => by
    rcases List.mem_cons.mp hf with rfl | hf
    · exact fokf rfl (rf_213_2 hW).1 hat
    · cases hf) ?_ ?_
  · intro r H2 h1 h2 h3 h4
    obtain ⟨x, rfl, x0, x1⟩ := rok_int h1
    obtain ⟨a, b, c, d⟩ := frz_SC h2
    exact ⟨x, rfl, WT_two h2, fun X hX => frm_trans hX (frm_sub rfl h3), IM_same hW (SM_frz h2).1 hM, a, by omega, fun z z0 z1 _ => c z z0 z1⟩
  · intro l hl ls1 ls st H' hs
    rw [List.mem_singleton.mp hl] at hs ⊢
    have est := mem_sok0 hs rfl
    subst est
    obtain ⟨⟨h1, h2, h3⟩, hW', hF'⟩ := hs
    have l0 := get_ref h1 (v := 0) (t := 1) (List.mem_cons_self) 1 (by decide +kernel)
    obtain ⟨k, l3, hk⟩ := get_long h1 (v := 3) (List.mem_cons_of_mem _ (List.mem_cons_of_mem _ (List.mem_cons_of_mem _ List.mem_cons_self)))
    obtain ⟨x, l5, x0, x1⟩ := get_int h1 (v := 5) (List.mem_cons_of_mem _ (List.mem_cons_of_mem _ (List.mem_cons_of_mem _ (List.mem_cons_of_mem _ List.mem_cons_self))))
    obtain ⟨y, l6, y0, y1⟩ := get_int h1 (v := 6) (List.mem_cons_of_mem _ (List.mem_cons_of_mem _ (List.mem_cons_of_mem _ (List.mem_cons_of_mem _ (List.mem_cons_of_mem _ List.mem_cons_self)))))
    have f2 := h3 _ (List.mem_cons_self) (gv H' 1 2) rfl
    have e2 : gv H' 1 2 = H' 1 2 := rfl
    rw [e2] at f2
    have f2 : (0 : Int) ≤ H' 1 2 ∧ H' 1 2 ≤ 11 := f2
    have hT := sg_X1_takeBill_122 (G := G) (us := us) (g := g) H' (H' 1 2) k x y f2.1 f2.2 hk x0 x1 y0 y1 ls l0 l3 l5 l6 (WT_two hW') (IM_same hW (SM_frz hW').1 hM) rfl
    obtain ⟨a, b, c, d⟩ := frz_SC hW'
    refine Tr_mono (by decide) (fun r H2 q => ?_) hT
    obtain ⟨z, hz, q1, q2, q3, q4, q5, q6⟩ := q
    exact ⟨z, hz, q1, fun X hX => q2 X (frm_trans hX (frm_sub rfl hF')), q3, SC_trans a q4, by omega, fun w w0 w1 w2 => (q6 w w0 w1 (by omega)).trans (c w w0 w1)⟩

