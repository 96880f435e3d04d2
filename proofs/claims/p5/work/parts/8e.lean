def xD4 (E : xE) (n mj : Nat) (as : List pv) (H : PH) (K : Option pv → PH → Prop) : Prop := match mj with
  | 194 => ∀ x y, as = [(2, 590), (0, x), (0, y)] → (0 ≤ H 591 1 ∧ H 591 1 ≤ 8) → K (some (0, chA (H 591) x y)) H
  | _ => xD3 E n mj as H K
theorem xD4_ok {E : xE} {n : Nat} : xCC E n (xD4 E n) := by
  intro mj as H K h
  unfold xD4
  split
  · intro x y e pr
    subst e
    obtain ⟨r, H2, ⟨rfl, rfl⟩, g⟩ := xc_use h (sp_X12_change x y H pr)
    exact g
  · exact xD3_ok _ _ _ _ h
theorem xp_ne {H : PH} {c i v c' : Int} (h : ¬ c' = c) : pup H c i v c' = H c' := funext fun j => if_neg (fun q => h q.1)
theorem xp_at {H : PH} {c i v j : Int} : pup H c i v c j = if j = i then v else H c j := by
  unfold pup
  by_cases h : j = i
  · rw [if_pos ⟨rfl, h⟩, if_pos h]
  · rw [if_neg (fun q => h q.2), if_neg h]
/-! how far apart: the rows of costs -/
def xup (R : Int → Int) (i v : Int) : Int → Int := fun j => if j = i then v else R j
def inn (c : Int → Int) : Nat → Int → Int → (Int → Int) → (Int → Int)
  | 0, _, _, R => R
  | k + 1, j, cn, R => inn c k (j + 1) (R (j + 1)) (xup R (j + 1) (min (zw (cn + c j)) (zw (min (R (j + 1)) (R j) + 2))))
def outr (c : Int → Int → Int) (m : Nat) : Nat → Int → (Int → Int) → (Int → Int)
  | 0, _, R => R
  | k + 1, i, R => outr c m k (i + 1) (inn (c i) m 0 (R 0) (xup R 0 (2 * i + 2)))
def apF (c : Int → Int → Int) (n m : Int) : Int := outr c m.toNat n.toNat 0 (fun j => 2 * j) m
theorem inn_0 (c : Int → Int) : ∀ (k : Nat) (j cn : Int) (R : Int → Int), 0 ≤ j → inn c k j cn R 0 = R 0
  | 0, _, _, _, _ => rfl
  | k + 1, j, cn, R, h => by
    unfold inn
    rw [inn_0 c k _ _ _ (by omega)]
    unfold xup
    rw [if_neg (by omega)]
theorem inn_eq (c c' : Int → Int) (m : Int) : ∀ (k : Nat) (j cn : Int) (R R' : Int → Int), 0 ≤ j → j + k ≤ m → (∀ x, 0 ≤ x → x ≤ m → R x = R' x) → (∀ x, j ≤ x → x < j + k → c x = c' x) → ∀ x, 0 ≤ x → x ≤ m → inn c k j cn R x = inn c' k j cn R' x
  | 0, _, _, _, _, _, _, h, _ => h
  | k + 1, j, cn, R, R', h0, hm, h, hc => by
    intro x x0 x1
    unfold inn
    rw [h (j + 1) (by omega) (by omega), h j (by omega) (by omega), hc j (by omega) (by omega)]
    refine inn_eq c c' m k (j + 1) _ _ _ (by omega) (by omega) (fun y y0 y1 => ?_) (fun y y0 y1 => hc y (by omega) (by omega)) x x0 x1
    unfold xup
    rw [h y y0 y1]
theorem outr_eq (c c' : Int → Int → Int) (m : Nat) : ∀ (k : Nat) (i : Int) (R R' : Int → Int), (∀ x : Int, 0 ≤ x → x ≤ m → R x = R' x) → (∀ y x : Int, i ≤ y → y < i + k → 0 ≤ x → x < m → c y x = c' y x) → ∀ x : Int, 0 ≤ x → x ≤ m → outr c m k i R x = outr c' m k i R' x
  | 0, _, _, _, h, _ => h
  | k + 1, i, R, R', h, hc => by
    intro x x0 x1
    unfold outr
    refine outr_eq c c' m k (i + 1) _ _ (fun y y0 y1 => ?_) (fun y x y0 y1 x0 x1 => hc y x (by omega) (by omega) x0 x1) x x0 x1
    rw [h 0 (by omega) (by omega)]
    refine inn_eq (c i) (c' i) m m 0 _ _ _ (by omega) (by omega) (fun z z0 z1 => ?_) (fun z z0 z1 => hc i z (by omega) (by omega) z0 (by omega)) y y0 y1
    unfold xup
    rw [h z z0 z1]
theorem apF_eq {c c' : Int → Int → Int} {n m : Int} (hm : 0 ≤ m) (hc : ∀ y x, 0 ≤ y → y < n → 0 ≤ x → x < m → c y x = c' y x) : apF c n m = apF c' n m := by
  unfold apF
  exact outr_eq c c' m.toNat n.toNat 0 _ _ (fun _ _ _ => rfl) (fun y x y0 y1 x0 x1 => hc y x y0 (by omega) x0 (by omega)) m hm (by omega)
theorem ap_init (l1 s1 l2 s2 m : Int) (hm : 0 ≤ m ∧ m ≤ 8) {E : xE} {res : xR} : ∀ (n : Nat) (i a b c : Int) (H : PH), 0 ≤ i → i ≤ m + 1 → (∀ x, 0 ≤ x → x < i → H 599 x = 2 * x) → RUN E res n kd_X12_apartOf (zget kd_X12_apartOf 11) 11 [590, l1, s1, l2, s2, m, i, a, b, c] [] H → ∃ H' : PH, (∀ x, 0 ≤ x → x ≤ m → H' 599 x = 2 * x) ∧ (∀ c, ¬ c = 599 → H' c = H c) ∧ xJ E res n kd_X12_apartOf 38 [590, l1, s1, l2, s2, m, 0, a, b, c] [] H' := by
  intro n
  induction n using Nat.strongRecOn with
  | _ n ih =>
    intro i a b c H hi0 hi1 hR h
    have z1 : zw (i + 1) = i + 1 := zw_lit (by omega) (by omega)
    have z2 : zw (2 * i) = 2 * i := zw_lit (by omega) (by omega)
    have h := xw_top (hd := [11, 38]) 9 xD4_ok xc_X12_apartOf xa_X12_apartOf (t := 11) rfl h
    simp (maxDischargeDepth := 12) -implicitDefEqProofs [vb_X12_apartOf_0, vb_X12_apartOf_11, vb_X12_apartOf_35, vb_X12_apartOf_38, vb_X12_apartOf_72, vb_X12_apartOf_159, vb_X12_apartOf_165, xI_0, xI_1, xI_3, xI_6, xI_7, xI_14, xI_16, xI_36, xI_46, xI_47, xI_49, xI_51, xI_52, xI_60, xI_61, xI_62, xw_X12_apartOf_0, xw_X12_apartOf_11, xw_X12_apartOf_35, xw_X12_apartOf_38, xw_X12_apartOf_72, xw_X12_apartOf_159, xw_X12_apartOf_165, zw_lit, xB_c, xB_s, xB_n, i1_c, j2_c, k1_c, jJ_e, xlg, xls, xla, xpd, ppush, zw_m1, zw_m2, zw_m3, gf_12_0, gf_12_16, tg_12_0, tg_12_16, gv_590_0, gv_590_16, xD1, xD2, xD3, xD4, z1, z2] at h
    rcases h with ⟨q, h⟩ | ⟨q, m', hm', h⟩
    · exact ⟨H, fun x x0 x1 => hR x x0 (by omega), fun _ _ => rfl, h⟩
    · obtain ⟨H', g1, g2, g3⟩ := ih m' hm' (i + 1) a b c (pup H 599 i (2 * i)) (by omega) (by omega) (fun x x0 x1 => by
        rw [xp_at]
        split
        · rename_i e
          rw [e]
        · exact hR x x0 (by omega)) h
      exact ⟨H', g1, fun c hc => by rw [g2 c hc, xp_ne hc], xJ_up g3 (by omega)⟩
theorem ap_in (l1 s1 l2 s2 m i : Int) (A : Int → Int) (hm : 0 ≤ m ∧ m ≤ 8) (hi : 0 ≤ i ∧ i < 8) (hs : 0 ≤ s1 ∧ s1 ≤ 1116 ∧ 0 ≤ s2 ∧ s2 ≤ 1116) (hk : 0 ≤ A 1 ∧ A 1 ≤ 8) {E : xE} {res : xR} : ∀ (n : Nat) (cn j v : Int) (R : Int → Int) (H : PH), 0 ≤ j → j ≤ m → H 591 = A → (∀ x, 0 ≤ x → x ≤ m → H 599 x = R x) → RUN E res n kd_X12_apartOf (zget kd_X12_apartOf 72) 72 [590, l1, s1, l2, s2, m, i, cn, j, v] [] H → ∃ (H' : PH) (a b c : Int), (∀ x, 0 ≤ x → x ≤ m → H' 599 x = inn (fun j => chA A (A (s1 + i)) (A (s2 + j))) (m - j).toNat j cn R x) ∧ (∀ c, ¬ c = 599 → H' c = H c) ∧ xJ E res n kd_X12_apartOf 38 [590, l1, s1, l2, s2, m, i + 1, a, b, c] [] H' := by
  intro n
  induction n using Nat.strongRecOn with
  | _ n ih =>
    intro cn j v R H hj0 hj1 hA hR h
    have z1 : zw (i + 1) = i + 1 := zw_lit (by omega) (by omega)
    have z2 : zw (j + 1) = j + 1 := zw_lit (by omega) (by omega)
    have z3 : zw (s1 + i) = s1 + i := zw_lit (by omega) (by omega)
    have z4 : zw (s2 + j) = s2 + j := zw_lit (by omega) (by omega)
    have h := xw_top (hd := [72, 38]) 9 xD4_ok xc_X12_apartOf xa_X12_apartOf (t := 72) rfl h
    simp (maxDischargeDepth := 12) -implicitDefEqProofs [vb_X12_apartOf_0, vb_X12_apartOf_11, vb_X12_apartOf_35, vb_X12_apartOf_38, vb_X12_apartOf_72, vb_X12_apartOf_159, vb_X12_apartOf_165, xI_0, xI_1, xI_3, xI_6, xI_7, xI_14, xI_16, xI_36, xI_46, xI_47, xI_49, xI_51, xI_52, xI_60, xI_61, xI_62, xw_X12_apartOf_0, xw_X12_apartOf_11, xw_X12_apartOf_35, xw_X12_apartOf_38, xw_X12_apartOf_72, xw_X12_apartOf_159, xw_X12_apartOf_165, zw_lit, xB_c, xB_s, xB_n, i1_c, j2_c, k1_c, jJ_e, xlg, xls, xla, xpd, ppush, zw_m1, zw_m2, zw_m3, gf_12_0, gf_12_16, tg_12_0, tg_12_16, gv_590_0, gv_590_16, xD1, xD2, xD3, xD4, z1, z2, z3, z4, hA, hk] at h
    rcases h with ⟨q, h⟩ | ⟨q, m', hm', h⟩
    · rw [show (m - j).toNat = 0 by omega]
      exact ⟨H, _, _, _, hR, fun _ _ => rfl, h⟩
    · rw [hR (j + 1) (by omega) (by omega), hR j (by omega) (by omega)] at h
      obtain ⟨H', a, b, c, g1, g2, g3⟩ := ih m' hm' _ (j + 1) _ (xup R (j + 1) (min (zw (cn + chA A (A (s1 + i)) (A (s2 + j)))) (zw (min (R (j + 1)) (R j) + 2)))) _ (by omega) (by omega) ((xp_ne (by decide)).trans hA) (fun x x0 x1 => by
        rw [xp_at]
        unfold xup
        split
        · rfl
        · exact hR x x0 x1) h
      rw [show (m - j).toNat = (m - (j + 1)).toNat + 1 by omega]
      exact ⟨H', a, b, c, g1, fun c hc => by rw [g2 c hc, xp_ne hc], xJ_up g3 (by omega)⟩
theorem ap_out (l1 s1 l2 s2 m : Int) (A : Int → Int) (hm : 0 ≤ m ∧ m ≤ 8) (hs : 0 ≤ s1 ∧ s1 ≤ 1116 ∧ 0 ≤ s2 ∧ s2 ≤ 1116) (hn : 0 ≤ A l1 ∧ A l1 ≤ 8) (hk : 0 ≤ A 1 ∧ A 1 ≤ 8) {E : xE} {res : xR} : ∀ (n : Nat) (i a b c : Int) (R : Int → Int) (H : PH), 0 ≤ i → i ≤ A l1 → H 591 = A → (∀ x, 0 ≤ x → x ≤ m → H 599 x = R x) → RUN E res n kd_X12_apartOf (zget kd_X12_apartOf 38) 38 [590, l1, s1, l2, s2, m, i, a, b, c] [] H → ∃ H' : PH, (∀ c, ¬ c = 599 → H' c = H c) ∧ REPR E res (some (0, outr (fun i j => chA A (A (s1 + i)) (A (s2 + j))) m.toNat (A l1 - i).toNat i R m)) H' := by
  intro n
  induction n using Nat.strongRecOn with
  | _ n ih =>
    intro i a b c R H hi0 hi1 hA hR h
    have z1 : zw (2 * i) = 2 * i := zw_lit (by omega) (by omega)
    have z2 : zw (2 * i + 2) = 2 * i + 2 := zw_lit (by omega) (by omega)
    have h := xw_top (hd := [72, 38]) 9 xD4_ok xc_X12_apartOf xa_X12_apartOf (t := 38) rfl h
    simp (maxDischargeDepth := 12) -implicitDefEqProofs [vb_X12_apartOf_0, vb_X12_apartOf_11, vb_X12_apartOf_35, vb_X12_apartOf_38, vb_X12_apartOf_72, vb_X12_apartOf_159, vb_X12_apartOf_165, xI_0, xI_1, xI_3, xI_6, xI_7, xI_14, xI_16, xI_36, xI_46, xI_47, xI_49, xI_51, xI_52, xI_60, xI_61, xI_62, xw_X12_apartOf_0, xw_X12_apartOf_11, xw_X12_apartOf_35, xw_X12_apartOf_38, xw_X12_apartOf_72, xw_X12_apartOf_159, xw_X12_apartOf_165, zw_lit, xB_c, xB_s, xB_n, i1_c, j2_c, k1_c, jJ_e, xlg, xls, xla, xpd, ppush, zw_m1, zw_m2, zw_m3, gf_12_0, gf_12_16, tg_12_0, tg_12_16, gv_590_0, gv_590_16, xD1, xD2, xD3, xD4, z1, z2, hA] at h
    rcases h with ⟨q, h⟩ | ⟨q, m', hm', h⟩
    · rw [show (A l1 - i).toNat = 0 by omega]
      rw [hR m hm.1 (by omega)] at h
      exact ⟨H, fun _ _ => rfl, h⟩
    · obtain ⟨H1, a1, b1, c1, g1, g2, m2, hm2, g3⟩ := ap_in l1 s1 l2 s2 m i A hm ⟨hi0, by omega⟩ hs hk m' _ 0 _ (xup R 0 (2 * i + 2)) _ (by omega) (by omega) ((xp_ne (by decide)).trans hA) (fun x x0 x1 => by
        rw [xp_at]
        unfold xup
        split
        · rfl
        · exact hR x x0 x1) h
      rw [hR 0 (by omega) (by omega), Int.sub_zero] at g1
      obtain ⟨H', k1, k2⟩ := ih m2 (by omega) (i + 1) a1 b1 c1 _ H1 (by omega) (by omega) (by rw [g2 591 (by decide), xp_ne (by decide)]; exact hA) g1 g3
      rw [show (A l1 - i).toNat = (A l1 - (i + 1)).toNat + 1 by omega]
      exact ⟨H', fun c hc => by rw [k1 c hc, g2 c hc, xp_ne hc], k2⟩
/-- how far the model finds two rows of signs apart -/
def apA (A : Int → Int) (l1 s1 l2 s2 : Int) : Int := apF (fun i j => chA A (A (s1 + i)) (A (s2 + j))) (A l1) (A l2)
theorem sp_X12_apartOf (l1 s1 l2 s2 : Int) (H : PH) (hs : 0 ≤ s1 ∧ s1 ≤ 1116 ∧ 0 ≤ s2 ∧ s2 ≤ 1116) (h1 : 0 ≤ H 591 l1 ∧ H 591 l1 ≤ 8) (h2 : 0 ≤ H 591 l2 ∧ H 591 l2 ≤ 8) (hk : 0 ≤ H 591 1 ∧ H 591 1 ≤ 8) : SPEC 195 [(2, 590), (0, l1), (0, s1), (0, l2), (0, s2)] H (fun r H' => r = some (0, apA (H 591) l1 s1 l2 s2) ∧ ∀ c, ¬ c = 599 → H' c = H c) := by
  intro E n res h
  have h := call_runP 10 vm_X12_apartOf h
  have h := xw_top (hd := [11]) 9 xD4_ok xc_X12_apartOf xa_X12_apartOf (t := 0) rfl h
  simp (maxDischargeDepth := 12) -implicitDefEqProofs [vb_X12_apartOf_0, vb_X12_apartOf_11, vb_X12_apartOf_35, vb_X12_apartOf_38, vb_X12_apartOf_72, vb_X12_apartOf_159, vb_X12_apartOf_165, xI_0, xI_1, xI_3, xI_6, xI_7, xI_14, xI_16, xI_36, xI_46, xI_47, xI_49, xI_51, xI_52, xI_60, xI_61, xI_62, xw_X12_apartOf_0, xw_X12_apartOf_11, xw_X12_apartOf_35, xw_X12_apartOf_38, xw_X12_apartOf_72, xw_X12_apartOf_159, xw_X12_apartOf_165, zw_lit, xB_c, xB_s, xB_n, i1_c, j2_c, k1_c, jJ_e, xlg, xls, xla, xpd, ppush, zw_m1, zw_m2, zw_m3, gf_12_0, gf_12_16, tg_12_0, tg_12_16, gv_590_0, gv_590_16, xD1, xD2, xD3, xD4] at h
  obtain ⟨m, hm, h⟩ := h
  obtain ⟨H1, g1, g2, m1, hm1, g3⟩ := ap_init l1 s1 l2 s2 _ h2 m 0 0 0 0 H (by omega) (by omega) (fun x x0 x1 => by omega) h
  obtain ⟨H', k1, k2⟩ := ap_out l1 s1 l2 s2 _ (H 591) h2 hs h1 hk m1 0 0 0 0 (fun j => 2 * j) H1 (by omega) (by omega) (g2 591 (by decide)) g1 g3
  rw [Int.sub_zero] at k2
  exact ⟨_, H', k2, rfl, fun c hc => by rw [k1 c hc, g2 c hc]⟩
