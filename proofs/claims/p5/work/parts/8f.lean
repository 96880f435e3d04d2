theorem gv3_all : ∀ a : Nat, a < 38 → zrt 3 a = some (4 + (a : Int)) := by decide +kernel
theorem gv3 {H : PH} {a : Int} (h0 : 0 ≤ a) (h1 : a < 38) : gv H 3 a = 4 + a := by
  obtain ⟨n, rfl⟩ := Int.eq_ofNat_of_zero_le h0
  unfold gv
  have e : zrt (3 : Int).toNat ((n : Int)).toNat = some (4 + (n : Int)) := by
    rw [Int.toNat_natCast]
    exact gv3_all n (by omega)
  rw [e]
theorem ga_init (s k m : Int) (hm : 0 ≤ m ∧ m ≤ 8) {E : xE} {res : xR} : ∀ (n : Nat) (j a b c d e f : Int) (H : PH), 0 ≤ j → j ≤ m → (∀ x, 0 ≤ x → x ≤ j → H 44 x = 2 * x) → (∀ x, 0 ≤ x → x < j → H 45 x = sgf k x) → RUN E res n kd_X8_gap (zget kd_X8_gap 16) 16 [2, s, 0, k, 0, m, j, a, b, c, d, e, f] [] H → ∃ H' : PH, (∀ x, 0 ≤ x → x ≤ m → H' 44 x = 2 * x) ∧ (∀ x, 0 ≤ x → x < m → H' 45 x = sgf k x) ∧ (∀ c, ¬ c = 44 → ¬ c = 45 → H' c = H c) ∧ xJ E res n kd_X8_gap 69 [2, s, 0, k, 0, m, szf s, 0, b, c, d, e, f] [] H' := by
  intro n
  induction n using Nat.strongRecOn with
  | _ n ih =>
    intro j a b c d e f H hj0 hj1 hR hS h
    have z1 : zw (j + 1) = j + 1 := zw_lit (by omega) (by omega)
    have z2 : zw (2 * j + 2) = 2 * j + 2 := zw_lit (by omega) (by omega)
    have h := xw_top (hd := [16, 69]) 9 xD4_ok xc_X8_gap xa_X8_gap (t := 16) rfl h
    simp (maxDischargeDepth := 12) -implicitDefEqProofs [vb_X8_gap_0, vb_X8_gap_16, vb_X8_gap_60, vb_X8_gap_69, vb_X8_gap_110, vb_X8_gap_188, vb_X8_gap_194, xI_0, xI_1, xI_2, xI_3, xI_4, xI_6, xI_7, xI_14, xI_36, xI_46, xI_49, xI_51, xI_52, xI_53, xI_56, xI_60, xI_62, xw_X8_gap_0, xw_X8_gap_16, xw_X8_gap_60, xw_X8_gap_69, xw_X8_gap_110, xw_X8_gap_188, xw_X8_gap_194, zw_lit, xB_c, xB_s, xB_n, i1_c, j2_c, k1_c, jJ_e, xlg, xls, xla, xpd, ppush, zw_m1, zw_m2, zw_m3, gf_8_0, gf_8_4, gf_8_5, tg_8_0, tg_8_4, tg_8_5, gv_2_0, gv_2_4, gv_2_5, xD1, xD2, xD3, xD4, z1, xp_ne] at h
    rcases h with ⟨q, h⟩ | ⟨q, m', hm', h⟩
    · exact ⟨H, fun x x0 x1 => hR x x0 (by omega), fun x x0 x1 => hS x x0 (by omega), fun _ _ _ => rfl, h⟩
    · rw [hR j (by omega) (by omega), z2] at h
      obtain ⟨H', g1, g2, g3, g4⟩ := ih m' hm' (j + 1) a b c d e f _ (by omega) (by omega) (fun x x0 x1 => by
        rw [xp_at, xp_ne (by decide)]
        split
        · rename_i e
          rw [e]
          omega
        · exact hR x x0 (by omega)) (fun x x0 x1 => by
        rw [xp_ne (by decide), xp_at]
        split
        · rename_i e
          rw [e]
        · exact hS x x0 (by omega)) h
      exact ⟨H', g1, g2, fun c hc hd => by rw [g3 c hc hd, xp_ne hc, xp_ne hd], xJ_up g4 (by omega)⟩
theorem ga_in (s k m w i g : Int) (D : Int → Int) (S : Int → Int) (hm : 0 ≤ m ∧ m ≤ 8) (hw : 0 ≤ i ∧ i < 8) (hg : 0 ≤ g ∧ ¬ g = 44 ∧ ¬ g = 45) {E : xE} {res : xR} : ∀ (n : Nat) (cn j v u : Int) (R : Int → Int) (H : PH), 0 ≤ j → j ≤ m → H g = D → (∀ x, 0 ≤ x → x < m → H 45 x = S x) → (∀ x, 0 ≤ x → x ≤ m → H 44 x = R x) → RUN E res n kd_X8_gap (zget kd_X8_gap 110) 110 [2, s, 0, k, 0, m, w, i, g, cn, j, v, u] [] H → ∃ (H' : PH) (a b c d e : Int), (∀ x, 0 ≤ x → x ≤ m → H' 44 x = inn (fun j => D (S j)) (m - j).toNat j cn R x) ∧ (∀ c, ¬ c = 44 → H' c = H c) ∧ xJ E res n kd_X8_gap 69 [2, s, 0, k, 0, m, w, i + 1, a, b, c, d, e] [] H' := by
  intro n
  induction n using Nat.strongRecOn with
  | _ n ih =>
    intro cn j v u R H hj0 hj1 hD hS hR h
    have z1 : zw (i + 1) = i + 1 := zw_lit (by omega) (by omega)
    have z2 : zw (j + 1) = j + 1 := zw_lit (by omega) (by omega)
    have h := xw_top (hd := [110, 69]) 9 xD4_ok xc_X8_gap xa_X8_gap (t := 110) rfl h
    simp (maxDischargeDepth := 12) -implicitDefEqProofs [vb_X8_gap_0, vb_X8_gap_16, vb_X8_gap_60, vb_X8_gap_69, vb_X8_gap_110, vb_X8_gap_188, vb_X8_gap_194, xI_0, xI_1, xI_2, xI_3, xI_4, xI_6, xI_7, xI_14, xI_36, xI_46, xI_49, xI_51, xI_52, xI_53, xI_56, xI_60, xI_62, xw_X8_gap_0, xw_X8_gap_16, xw_X8_gap_60, xw_X8_gap_69, xw_X8_gap_110, xw_X8_gap_188, xw_X8_gap_194, zw_lit, xB_c, xB_s, xB_n, i1_c, j2_c, k1_c, jJ_e, xlg, xls, xla, xpd, ppush, zw_m1, zw_m2, zw_m3, gf_8_0, gf_8_4, gf_8_5, tg_8_0, tg_8_4, tg_8_5, gv_2_0, gv_2_4, gv_2_5, xD1, xD2, xD3, xD4, z1, z2, hg, hD, mn_a] at h
    rcases h with ⟨q, h⟩ | ⟨q, m', hm', h⟩
    · rw [show (m - j).toNat = 0 by omega]
      exact ⟨H, _, _, _, _, _, hR, fun _ _ => rfl, h⟩
    · rw [hR (j + 1) (by omega) (by omega), hR j (by omega) (by omega), hS j (by omega) (by omega)] at h
      obtain ⟨H', a, b, c, d, e, g1, g2, g3⟩ := ih m' hm' _ (j + 1) _ _ (xup R (j + 1) (min (zw (cn + D (S j))) (zw (min (R (j + 1)) (R j) + 2)))) _ (by omega) (by omega) ((xp_ne hg.2.1).trans hD) (fun x x0 x1 => (congrFun (xp_ne (by decide)) x).trans (hS x x0 x1)) (fun x x0 x1 => by
        rw [xp_at]
        unfold xup
        split
        · rw [Int.min_comm]
        · exact hR x x0 x1) h
      rw [show (m - j).toNat = (m - (j + 1)).toNat + 1 by omega]
      exact ⟨H', a, b, c, d, e, g1, fun c hc => by rw [g2 c hc, xp_ne hc], xJ_up g3 (by omega)⟩
theorem ga_out (s k m : Int) (T : Int → Int → Int) (hm : 0 ≤ m ∧ m ≤ 8) (hn : 0 ≤ szf s ∧ szf s ≤ 8) (hs : ∀ i, 0 ≤ i → i < szf s → 0 ≤ sgf s i ∧ sgf s i < 38) {E : xE} {res : xR} : ∀ (n : Nat) (i a b c d e : Int) (R : Int → Int) (H : PH), 0 ≤ i → i ≤ szf s → (∀ x, 0 ≤ x → x < 38 → H (4 + x) = T x) → (∀ x, 0 ≤ x → x < m → H 45 x = sgf k x) → (∀ x, 0 ≤ x → x ≤ m → H 44 x = R x) → R 0 = 2 * i → RUN E res n kd_X8_gap (zget kd_X8_gap 69) 69 [2, s, 0, k, 0, m, szf s, i, a, b, c, d, e] [] H → ∃ H' : PH, (∀ c, ¬ c = 44 → H' c = H c) ∧ REPR E res (some (0, outr (fun i j => T (sgf s i) (sgf k j)) m.toNat (szf s - i).toNat i R m)) H' := by
  intro n
  induction n using Nat.strongRecOn with
  | _ n ih =>
    intro i a b c d e R H hi0 hi1 hT hS hR hR0 h
    have z2 : zw (2 * i + 2) = 2 * i + 2 := zw_lit (by omega) (by omega)
    have e0 : H 44 0 = 2 * i := (hR 0 (by omega) (by omega)).trans hR0
    by_cases q : szf s ≤ i
    · have h := xw_top (hd := [110, 69]) 9 xD4_ok xc_X8_gap xa_X8_gap (t := 69) rfl h
      simp (maxDischargeDepth := 12) -implicitDefEqProofs [vb_X8_gap_0, vb_X8_gap_16, vb_X8_gap_60, vb_X8_gap_69, vb_X8_gap_110, vb_X8_gap_188, vb_X8_gap_194, xI_0, xI_1, xI_2, xI_3, xI_4, xI_6, xI_7, xI_14, xI_36, xI_46, xI_49, xI_51, xI_52, xI_53, xI_56, xI_60, xI_62, xw_X8_gap_0, xw_X8_gap_16, xw_X8_gap_60, xw_X8_gap_69, xw_X8_gap_110, xw_X8_gap_188, xw_X8_gap_194, zw_lit, xB_c, xB_s, xB_n, i1_c, j2_c, k1_c, jJ_e, xlg, xls, xla, xpd, ppush, zw_m1, zw_m2, zw_m3, gf_8_0, gf_8_4, gf_8_5, tg_8_0, tg_8_4, tg_8_5, gv_2_0, gv_2_4, gv_2_5, xD1, xD2, xD3, xD4, z2, e0] at h
      rcases h with ⟨_, h⟩ | ⟨q', h⟩
      · rw [show (szf s - i).toNat = 0 by omega]
        rw [hR m hm.1 (by omega)] at h
        exact ⟨H, fun _ _ => rfl, h⟩
      · omega
    · have e3 : gv H 3 (sgf s i) = 4 + sgf s i := gv3 (hs i hi0 (by omega)).1 (hs i hi0 (by omega)).2
      have h := xw_top (hd := [110, 69]) 9 xD4_ok xc_X8_gap xa_X8_gap (t := 69) rfl h
      simp (maxDischargeDepth := 12) -implicitDefEqProofs [vb_X8_gap_0, vb_X8_gap_16, vb_X8_gap_60, vb_X8_gap_69, vb_X8_gap_110, vb_X8_gap_188, vb_X8_gap_194, xI_0, xI_1, xI_2, xI_3, xI_4, xI_6, xI_7, xI_14, xI_36, xI_46, xI_49, xI_51, xI_52, xI_53, xI_56, xI_60, xI_62, xw_X8_gap_0, xw_X8_gap_16, xw_X8_gap_60, xw_X8_gap_69, xw_X8_gap_110, xw_X8_gap_188, xw_X8_gap_194, zw_lit, xB_c, xB_s, xB_n, i1_c, j2_c, k1_c, jJ_e, xlg, xls, xla, xpd, ppush, zw_m1, zw_m2, zw_m3, gf_8_0, gf_8_4, gf_8_5, tg_8_0, tg_8_4, tg_8_5, gv_2_0, gv_2_4, gv_2_5, xD1, xD2, xD3, xD4, z2, e0, e3] at h
      rcases h with ⟨q', h⟩ | ⟨_, m', hm', h⟩
      · omega
      · have hsi := hs i hi0 (by omega)
        obtain ⟨H1, a1, b1, c1, d1, e1, g1, g2, m2, hm2, g3⟩ := ga_in s k m (szf s) i (4 + sgf s i) (T (sgf s i)) (sgf k) hm ⟨hi0, by omega⟩ ⟨by omega, by omega, by omega⟩ m' _ 0 _ _ (xup R 0 (2 * i + 2)) _ (by omega) (by omega) ((xp_ne (by omega)).trans (hT _ hsi.1 hsi.2)) (fun x x0 x1 => (congrFun (xp_ne (by decide)) x).trans (hS x x0 x1)) (fun x x0 x1 => by
          rw [xp_at]
          unfold xup
          split
          · rfl
          · exact hR x x0 x1) h
        rw [← hR0, Int.sub_zero] at g1
        obtain ⟨H', k1, k2⟩ := ih m2 (by omega) (i + 1) a1 b1 c1 d1 e1 _ H1 (by omega) (by omega) (fun x x0 x1 => by rw [g2 _ (by omega), xp_ne (by omega)]; exact hT x x0 x1) (fun x x0 x1 => by rw [g2 45 (by decide), xp_ne (by decide)]; exact hS x x0 x1) g1 (by
          rw [inn_0 _ _ _ _ _ (by omega)]
          unfold xup
          rw [if_pos rfl]
          omega) g3
        rw [show (szf s - i).toNat = (szf s - (i + 1)).toNat + 1 by omega]
        refine ⟨H', fun c hc => by rw [k1 c hc, g2 c hc, xp_ne hc], ?_⟩
        unfold outr
        rw [hR0] at k2 ⊢
        exact k2
/-- how far the class finds two marks apart -/
def apC (H : PH) (s k : Int) : Int := apF (fun i j => H (4 + sgf s i) (sgf k j)) (szf s) (szf k)
theorem sp_X8_gap (s k : Int) (H : PH) (h1 : 0 ≤ szf s ∧ szf s ≤ 8) (h2 : 0 ≤ szf k ∧ szf k ≤ 8) (hs : ∀ i, 0 ≤ i → i < szf s → 0 ≤ sgf s i ∧ sgf s i < 38) : SPEC 85 [(2, 2), (1, s), (1, k)] H (fun r H' => r = some (0, apC H s k) ∧ ∀ c, ¬ c = 44 → ¬ c = 45 → H' c = H c) := by
  intro E n res h
  have h := call_runP 13 vm_X8_gap h
  have h := xw_top (hd := [16]) 9 xD4_ok xc_X8_gap xa_X8_gap (t := 0) rfl h
  simp (maxDischargeDepth := 12) -implicitDefEqProofs [vb_X8_gap_0, vb_X8_gap_16, vb_X8_gap_60, vb_X8_gap_69, vb_X8_gap_110, vb_X8_gap_188, vb_X8_gap_194, xI_0, xI_1, xI_2, xI_3, xI_4, xI_6, xI_7, xI_14, xI_36, xI_46, xI_49, xI_51, xI_52, xI_53, xI_56, xI_60, xI_62, xw_X8_gap_0, xw_X8_gap_16, xw_X8_gap_60, xw_X8_gap_69, xw_X8_gap_110, xw_X8_gap_188, xw_X8_gap_194, zw_lit, xB_c, xB_s, xB_n, i1_c, j2_c, k1_c, jJ_e, xlg, xls, xla, xpd, ppush, zw_m1, zw_m2, zw_m3, gf_8_0, gf_8_4, gf_8_5, tg_8_0, tg_8_4, tg_8_5, gv_2_0, gv_2_4, gv_2_5, xD1, xD2, xD3, xD4] at h
  obtain ⟨m, hm, h⟩ := h
  obtain ⟨H1, g1, g2, g3, m1, hm1, g4⟩ := ga_init s k (szf k) h2 m 0 0 0 0 0 0 0 _ (by omega) (by omega) (fun x x0 x1 => by
    rw [xp_at]
    split
    · omega
    · omega) (fun x x0 x1 => by omega) h
  have q := ga_out s k (szf k) (fun x => if 0 ≤ x ∧ x < 38 then H (4 + x) else fun _ => 0) h2 h1 hs m1 0 0 0 0 0 0 (fun j => 2 * j) H1 (by omega) (by omega) (fun x x0 x1 => by
    rw [if_pos ⟨x0, x1⟩]
    by_cases c : 4 + x = 44
    · omega
    · rw [g3 _ c (by omega), xp_ne c]) g2 g1 (by omega) g4
  obtain ⟨H', k1, k2⟩ := q
  rw [Int.sub_zero] at k2
  refine ⟨_, H', k2, ?_, fun c hc hd => by rw [k1 c hc, g3 c hc hd, xp_ne hc]⟩
  congr 2
  exact apF_eq h2.1 (fun y x y0 y1 x0 x1 => by rw [if_pos ⟨(hs y y0 y1).1, (hs y y0 y1).2⟩])
