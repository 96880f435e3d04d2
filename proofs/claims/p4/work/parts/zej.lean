/-! ===== cure: the model's, and the pair ===== -/
theorem cpA_fun (H : PH) (s t : Int) : pup (pup (pup H 591 (76 + 2 * H 591 1) s) 591 (76 + 2 * H 591 1 + 1) t) 591 1 (H 591 1 + 1) 591 = cpA (H 591) s t := funext fun j => by
  rw [xp_at, xp_at, xp_at]
  rfl
theorem cpA_MB {A : Int → Int} (hB : MB A) (h8 : A 1 < 8) {s t : Int} (hs : zIn s) (ht : zIn t) : MB (cpA A s t) := by
  obtain ⟨b0, b1, b2, b3, b4, b5, b6⟩ := hB
  have hA : 0 ≤ A 1 ∧ A 1 < 8 := by omega
  refine ⟨by rw [cpA_b hA (by decide) (by decide)]; exact b0, by rw [cpA_1]; omega, by rw [cpA_b hA (by decide) (by decide)]; exact b2, fun b x0 x1 => by rw [cpA_b hA (by omega) (by omega)]; exact b3 b x0 x1, fun b x0 x1 => by rw [cpA_b hA (by omega) (by omega)]; exact b4 b x0 x1, fun b x0 x1 => by rw [cpA_b hA (by omega) (by omega)]; exact b5 b x0 x1, fun j j0 j1 => ?_⟩
  unfold cpA xup
  split
  · unfold zIn
    omega
  · split
    · exact ht
    · split
      · exact hs
      · exact b6 j j0 j1
set_option maxRecDepth 100000 in
theorem sp_m_isCure (k s t : Int) (H : PH) (ok : OKR (H 591)) (hk : 0 ≤ k ∧ k < 60) (h8 : H 591 1 < 8) (hs : zIn s) (ht : zIn t) : SPEC 264 [(2, 590), (0, k), (0, s), (0, t)] H (fun r H' => r = some (0, if 0 ≤ cuM (H 591) k s t then 1 else 0) ∧ MQc H H') := by
  intro E n' res h
  have a1 := ok.1.2.1
  have hA : 0 ≤ H 591 1 ∧ H 591 1 < 8 := ⟨a1.1, h8⟩
  have z1 : zw (2 * H 591 1) = 2 * H 591 1 := zw_lit (by omega) (by omega)
  have z2 : zw (76 + 2 * H 591 1) = 76 + 2 * H 591 1 := zw_lit (by omega) (by omega)
  have z3 : zw (76 + 2 * H 591 1 + 1) = 76 + 2 * H 591 1 + 1 := zw_lit (by omega) (by omega)
  have z4 : zw (H 591 1 + 1) = H 591 1 + 1 := zw_lit (by omega) (by omega)
  have h := call_runP 6 vm_X12_isCure h
  have h := xw_top (hd := []) 5 xD6_ok xc_X12_isCure xa_X12_isCure (t := 0) rfl h
  simp (maxDischargeDepth := 12) -implicitDefEqProofs [vb_X12_isCure_0, vb_X12_isCure_58, vb_X12_isCure_59, xI_0, xI_1, xI_3, xI_7, xI_8, xI_14, xI_16, xI_36, xI_39, xI_49, xI_51, xI_52, xI_61, xI_62, xw_X12_isCure_0, xw_X12_isCure_58, xw_X12_isCure_59, zw_lit, xB_c, xB_s, xB_n, i1_c, j2_c, k1_c, jJ_e, xlg, xls, xla, xpd, ppush, zw_m1, zw_m2, zw_m3, gf_12_0, tg_12_0, gv_590_0, xD1, xD2, xD3, xD4, xD5, xD6, xb1_0, z1, z2, z3, z4] at h
  obtain ⟨H1, e1⟩ : ∃ X : PH, X = pup (pup (pup H 591 (76 + 2 * H 591 1) s) 591 (76 + 2 * H 591 1 + 1) t) 591 1 (H 591 1 + 1) := ⟨_, rfl⟩
  rw [← e1] at h
  have ne : ∀ c, ¬ c = 591 → H1 c = H c := fun c q => by rw [e1, xp_ne q, xp_ne q, xp_ne q]
  have ec : H1 591 = cpA (H 591) s t := by rw [e1]; exact cpA_fun H s t
  have d1 : H1 591 1 = H 591 1 + 1 := by rw [ec]; exact cpA_1
  have dj : ∀ j, ¬ j = 1 → ¬ j = 76 + 2 * H 591 1 → ¬ j = 76 + 2 * H 591 1 + 1 → H1 591 j = H 591 j := fun j q1 q2 q3 => by rw [ec]; exact cpA_n q1 q2 q3
  have mb : MB (H1 591) := by rw [ec]; exact cpA_MB ok.1 h8 hs ht
  obtain ⟨r, H2, ⟨rfl, sc⟩, g⟩ := xc_use h (sp_X12_lineRead k H1 mb hk)
  rw [ec, cp_rd hA] at g
  simp only [i1_c] at g
  have f2 : ∀ c, ¬ c = 599 → ¬ c = 590 → H2 c = H1 c := fun c q1 q2 => sc.1 c (by simp [q1]) q2
  have g2 : ∀ i, i ∉ [(17 : Int), 18, 19] → H2 590 i = H 590 i := fun i q => by rw [sc.2 i q, ne 590 (by decide)]
  have mq : MQc H (pup H2 591 1 (H 591 1)) := by
    have n591 : ∀ c, ¬ c = 591 → ¬ c = 599 → ¬ c = 590 → pup H2 591 1 (H 591 1) c = H c := fun c q1 q2 q3 => by rw [xp_ne q1, f2 c q2 q3, ne c q1]
    have n590 : pup H2 591 1 (H 591 1) 590 = H2 590 := xp_ne (by decide)
    refine ⟨⟨fun c hc => n591 c (by omega) (by omega) (by omega), ⟨by rw [n590]; exact g2 51 (by decide), n591 621 (by decide) (by decide) (by decide)⟩, n591 593 (by decide) (by decide) (by decide)⟩, by rw [n590]; exact g2 4 (by decide), ⟨a1.1, fun j j0 j1 hj => ?_⟩, by rw [n590]; exact g2 2 (by decide), n591 592 (by decide) (by decide) (by decide), ok.1.2.2.2.2.2.2, fun j j0 j1 => ?_⟩
    · rw [xp_at, f2 591 (by decide) (by decide)]
      split
      · rename_i q
        rw [q]
      · rename_i q
        exact (dj j q (by omega) (by omega)).symm
    · rw [xp_at, f2 591 (by decide) (by decide)]
      split
      · exact ok.1.2.2.2.2.2.2 1 (by decide) (by decide)
      · exact mb.2.2.2.2.2.2 j j0 j1
  rcases g with ⟨q, g⟩ | ⟨q, g⟩
  · exact ⟨_, _, g, by rw [if_neg (by omega)], mq⟩
  · exact ⟨_, _, g, by rw [if_pos (by omega)], mq⟩
/-- the signs that may be tried, as the model counts them -/
theorem oc_j {j : Int} (h : 0 ≤ j ∧ j < 36) : ocF (j + 1) = if j < 26 then 65 + j else 22 + j := by
  unfold ocF
  rw [if_neg (by omega)]
  by_cases c : j < 26
  · rw [if_pos (by omega), if_pos c]
    omega
  · rw [if_neg (by omega), if_neg c]
    omega
set_option maxRecDepth 100000 in
theorem lp_mCureA (k : Int) (H0 : PH) (ok0 : OKR (H0 591)) (hk : 0 ≤ k ∧ k < H0 591 2) (h8 : H0 591 1 < 8) (hC : ∀ i, 0 ≤ i → i < H0 591 (404 + 12 * k + 3) → 0 ≤ H0 591 (404 + 12 * k + 4 + i) ∧ H0 591 (404 + 12 * k + 4 + i) ≤ 127) {E : xE} {res : xR} : ∀ (n : Nat), (∀ (i x y z : Int) (H : PH), 0 ≤ i → i ≤ H0 591 (404 + 12 * k + 3) → MQc H0 H → RUN E res n kd_X12_cure (zget kd_X12_cure 31) 31 [590, k, i, x, y, z] [] H → ∃ H', MQc H0 H' ∧ REPR E res (some (0, cuF (H0 591) k (H0 591 (404 + 12 * k + 3) - i).toNat i)) H') ∧ (∀ (i j z : Int) (H : PH), (0 ≤ i ∧ i < H0 591 (404 + 12 * k + 3)) → 0 ≤ j → j ≤ 36 → (¬ H0 591 (404 + 12 * k + 4 + i) = 46 → cfF (H0 591) k (H0 591 (404 + 12 * k + 4 + i)) 36 1 = cfF (H0 591) k (H0 591 (404 + 12 * k + 4 + i)) (36 - j).toNat (j + 1)) → MQc H0 H → RUN E res n kd_X12_cure (zget kd_X12_cure 63) 63 [590, k, i, H0 591 (404 + 12 * k + 4 + i), j, z] [] H → ∃ H', MQc H0 H' ∧ REPR E res (some (0, cuF (H0 591) k (H0 591 (404 + 12 * k + 3) - i).toNat i)) H') := by
  have a0 := ok0.1.2.2.1
  have l8 := ok0.1.2.2.2.2.2.1 k hk.1 (by omega)
  have rows : ∀ H, MQc H0 H → OKR (H 591) ∧ H 591 1 = H0 591 1 ∧ H 591 2 = H0 591 2 := fun H q => ⟨OKR_AT ok0 q.2.2.1 q.2.2.2.2.2.2, (AT_c q.2.2.1 (by decide)).symm, (AT_c q.2.2.1 (by decide)).symm⟩
  intro n
  induction n using Nat.strongRecOn with
  | _ n ih =>
    constructor
    · intro i x y z H i0 i1 hQ h
      obtain ⟨ok, e1, e2⟩ := rows H hQ
      have z1 : zw (12 * k) = 12 * k := zw_lit (by omega) (by omega)
      have z2 : zw (404 + 12 * k) = 404 + 12 * k := zw_lit (by omega) (by omega)
      have z3 : zw (404 + 12 * k + 3) = 404 + 12 * k + 3 := zw_lit (by omega) (by omega)
      have z4 : zw (404 + 12 * k + 4) = 404 + 12 * k + 4 := zw_lit (by omega) (by omega)
      have el : H 591 (404 + 12 * k + 3) = H0 591 (404 + 12 * k + 3) := (AT_c hQ.2.2.1 (by omega)).symm
      by_cases c : i < H0 591 (404 + 12 * k + 3)
      · have c' : ¬ H0 591 (404 + 12 * k + 3) ≤ i := by omega
        have z5 : zw (404 + 12 * k + 4 + i) = 404 + 12 * k + 4 + i := zw_lit (by omega) (by omega)
        have es : H 591 (404 + 12 * k + 4 + i) = H0 591 (404 + 12 * k + 4 + i) := (AT_c hQ.2.2.1 (by omega)).symm
        have h := xw_top (hd := [31, 63]) 12 xD6_ok xc_X12_cure xa_X12_cure (t := 31) rfl h
        simp (maxDischargeDepth := 12) -implicitDefEqProofs [vb_X12_cure_0, vb_X12_cure_27, vb_X12_cure_29, vb_X12_cure_31, vb_X12_cure_63, vb_X12_cure_91, vb_X12_cure_99, vb_X12_cure_137, vb_X12_cure_143, vb_X12_cure_149, xI_0, xI_1, xI_3, xI_6, xI_7, xI_8, xI_9, xI_14, xI_15, xI_16, xI_36, xI_37, xI_38, xI_39, xI_43, xI_46, xI_49, xI_51, xI_60, xI_61, xI_62, xw_X12_cure_0, xw_X12_cure_27, xw_X12_cure_29, xw_X12_cure_31, xw_X12_cure_63, xw_X12_cure_91, xw_X12_cure_99, xw_X12_cure_137, xw_X12_cure_143, xw_X12_cure_149, zw_lit, xB_c, xB_s, xB_n, i1_c, j2_c, k1_c, jJ_e, xlg, xls, xla, xpd, ppush, zw_m1, zw_m2, zw_m3, gf_12_0, tg_12_0, gv_590_0, xD1, xD2, xD3, xD4, xD5, xD6, xb1_0, z1, z2, z3, z4, z5, el, es, c, c'] at h
        obtain ⟨m, hm, h⟩ := h
        exact (ih m hm).2 i 0 _ H ⟨i0, c⟩ (by decide) (by decide) (fun _ => rfl) hQ h
      · have c' : H0 591 (404 + 12 * k + 3) ≤ i := by omega
        rw [show (H0 591 (404 + 12 * k + 3) - i).toNat = 0 by omega]
        have h := xw_top (hd := [31, 63]) 12 xD6_ok xc_X12_cure xa_X12_cure (t := 31) rfl h
        simp (maxDischargeDepth := 12) -implicitDefEqProofs [vb_X12_cure_0, vb_X12_cure_27, vb_X12_cure_29, vb_X12_cure_31, vb_X12_cure_63, vb_X12_cure_91, vb_X12_cure_99, vb_X12_cure_137, vb_X12_cure_143, vb_X12_cure_149, xI_0, xI_1, xI_3, xI_6, xI_7, xI_8, xI_9, xI_14, xI_15, xI_16, xI_36, xI_37, xI_38, xI_39, xI_43, xI_46, xI_49, xI_51, xI_60, xI_61, xI_62, xw_X12_cure_0, xw_X12_cure_27, xw_X12_cure_29, xw_X12_cure_31, xw_X12_cure_63, xw_X12_cure_91, xw_X12_cure_99, xw_X12_cure_137, xw_X12_cure_143, xw_X12_cure_149, zw_lit, xB_c, xB_s, xB_n, i1_c, j2_c, k1_c, jJ_e, xlg, xls, xla, xpd, ppush, zw_m1, zw_m2, zw_m3, gf_12_0, tg_12_0, gv_590_0, xD1, xD2, xD3, xD4, xD5, xD6, xb1_0, z1, z2, z3, el, c, c'] at h
        exact ⟨H, hQ, h⟩
    · intro i j z H hi j0 j36 hcf hQ h
      obtain ⟨ok, e1, e2⟩ := rows H hQ
      have zi : zw (i + 1) = i + 1 := zw_lit (by omega) (by omega)
      have zj : zw (j + 1) = j + 1 := zw_lit (by omega) (by omega)
      have st : (H0 591 (404 + 12 * k + 3) - i).toNat = (H0 591 (404 + 12 * k + 3) - (i + 1)).toNat + 1 := by omega
      have hc := hC i hi.1 hi.2
      generalize hs : H0 591 (404 + 12 * k + 4 + i) = s at hcf h hc
      have nextI : ∀ (m : Nat) (x y z : Int), m < n → (s = 46 ∨ cfF (H0 591) k s 36 1 = 0) → RUN E res m kd_X12_cure (zget kd_X12_cure 31) 31 [590, k, i + 1, x, y, z] [] H → ∃ H', MQc H0 H' ∧ REPR E res (some (0, cuF (H0 591) k (H0 591 (404 + 12 * k + 3) - i).toNat i)) H' := fun m x y z hm w g => by
        rw [st]
        unfold cuF
        rw [hs, if_neg (fun u => w.elim u.1 u.2)]
        exact (ih m hm).1 (i + 1) x y z H (by omega) (by omega) hQ g
      by_cases w46 : s = 46
      · by_cases jc : j < 36
        · have jc' : ¬ 36 ≤ j := by omega
          have h := xw_top (hd := [31, 63]) 12 xD6_ok xc_X12_cure xa_X12_cure (t := 63) rfl h
          simp (maxDischargeDepth := 12) -implicitDefEqProofs [vb_X12_cure_0, vb_X12_cure_27, vb_X12_cure_29, vb_X12_cure_31, vb_X12_cure_63, vb_X12_cure_91, vb_X12_cure_99, vb_X12_cure_137, vb_X12_cure_143, vb_X12_cure_149, xI_0, xI_1, xI_3, xI_6, xI_7, xI_8, xI_9, xI_14, xI_15, xI_16, xI_36, xI_37, xI_38, xI_39, xI_43, xI_46, xI_49, xI_51, xI_60, xI_61, xI_62, xw_X12_cure_0, xw_X12_cure_27, xw_X12_cure_29, xw_X12_cure_31, xw_X12_cure_63, xw_X12_cure_91, xw_X12_cure_99, xw_X12_cure_137, xw_X12_cure_143, xw_X12_cure_149, zw_lit, xB_c, xB_s, xB_n, i1_c, j2_c, k1_c, jJ_e, xlg, xls, xla, xpd, ppush, zw_m1, zw_m2, zw_m3, gf_12_0, tg_12_0, gv_590_0, xD1, xD2, xD3, xD4, xD5, xD6, xb1_0, w46, jc, jc', zi] at h
          obtain ⟨m, hm, h⟩ := h
          exact nextI m _ _ _ hm (Or.inl w46) (by first | exact h | (rw [w46]; exact h))
        · have jc' : 36 ≤ j := by omega
          have h := xw_top (hd := [31, 63]) 12 xD6_ok xc_X12_cure xa_X12_cure (t := 63) rfl h
          simp (maxDischargeDepth := 12) -implicitDefEqProofs [vb_X12_cure_0, vb_X12_cure_27, vb_X12_cure_29, vb_X12_cure_31, vb_X12_cure_63, vb_X12_cure_91, vb_X12_cure_99, vb_X12_cure_137, vb_X12_cure_143, vb_X12_cure_149, xI_0, xI_1, xI_3, xI_6, xI_7, xI_8, xI_9, xI_14, xI_15, xI_16, xI_36, xI_37, xI_38, xI_39, xI_43, xI_46, xI_49, xI_51, xI_60, xI_61, xI_62, xw_X12_cure_0, xw_X12_cure_27, xw_X12_cure_29, xw_X12_cure_31, xw_X12_cure_63, xw_X12_cure_91, xw_X12_cure_99, xw_X12_cure_137, xw_X12_cure_143, xw_X12_cure_149, zw_lit, xB_c, xB_s, xB_n, i1_c, j2_c, k1_c, jJ_e, xlg, xls, xla, xpd, ppush, zw_m1, zw_m2, zw_m3, gf_12_0, tg_12_0, gv_590_0, xD1, xD2, xD3, xD4, xD5, xD6, xb1_0, jc, jc', zi] at h
          obtain ⟨m, hm, h⟩ := h
          exact nextI m _ _ _ hm (Or.inl w46) h
      · have hcf := hcf w46
        by_cases jc : j < 36
        · have jc' : ¬ 36 ≤ j := by omega
          have ocj := oc_j ⟨j0, jc⟩
          have st2 : (36 - j).toNat = (36 - (j + 1)).toNat + 1 := by omega
          have nextJ : ∀ (z : Int) (Y : PH), ¬ cfC (H0 591) k s (j + 1) → MQc H0 Y → xJ E res n kd_X12_cure 63 [590, k, i, s, j + 1, z] [] Y → ∃ H', MQc H0 H' ∧ REPR E res (some (0, cuF (H0 591) k (H0 591 (404 + 12 * k + 3) - i).toNat i)) H' := fun z Y nc q ⟨m, hm, g⟩ => by
            refine (ih m hm).2 i (j + 1) z Y hi (by omega) (by omega) ?_ q (by rw [hs]; exact g)
            intro _
            rw [hs, hcf, st2]
            show (if cfC (H0 591) k s (j + 1) then j + 1 else cfF (H0 591) k s (36 - (j + 1)).toNat (j + 1 + 1)) = _
            rw [if_neg nc]
          have lkE : likA (H 591) s (ocF (j + 1)) = likA (H0 591) s (ocF (j + 1)) := by
            unfold likA
            rw [e1]
            exact (lkA_EQ _ 0 (fun x x0 x1 => ⟨hQ.2.2.1.2 _ (by omega) (by have := ok0.1.2.1; omega) (by have := ok0.1.2.1; omega), hQ.2.2.1.2 _ (by omega) (by have := ok0.1.2.1; omega) (by have := ok0.1.2.1; omega)⟩)).symm
          have cuE : cuM (H 591) k s (ocF (j + 1)) = cuM (H0 591) k s (ocF (j + 1)) := (cuM_AT hQ.2.2.1 ok0 ok h8 ⟨hk.1, by omega⟩ _ _).symm
          have ob := ocF_in (c := j + 1) (by omega)
          have oz : zIn (ocF (j + 1)) := by unfold zIn; omega
          have sz : zIn s := by unfold zIn; omega
          have body : ∀ (z : Int) (K : Option pv → PH → Prop), (∀ v H2, K (some (0, v)) H2 → (v = 0 ∧ xJ E res n kd_X12_cure 63 [590, k, i, s, j + 1, ocF (j + 1)] [] H2) ∨ (¬ v = 0 ∧ REPR E res (some (0, 256 * s + ocF (j + 1))) H2)) → ((s = ocF (j + 1) ∧ xJ E res n kd_X12_cure 63 [590, k, i, s, j + 1, ocF (j + 1)] [] H) ∨ (¬ s = ocF (j + 1) ∧ ((likA (H 591) s (ocF (j + 1)) = true ∧ xJ E res n kd_X12_cure 63 [590, k, i, s, j + 1, ocF (j + 1)] [] H) ∨ (likA (H 591) s (ocF (j + 1)) = false ∧ xC E n 264 [(2, 590), (0, k), (0, s), (0, ocF (j + 1))] H K)))) → ∃ H', MQc H0 H' ∧ REPR E res (some (0, cuF (H0 591) k (H0 591 (404 + 12 * k + 3) - i).toNat i)) H' := fun z K hK w => by
            rcases w with ⟨e, g⟩ | ⟨ne, ⟨lk, g⟩ | ⟨lk, g⟩⟩
            · exact nextJ _ H (fun u => u.1 e.symm) hQ g
            · exact nextJ _ H (fun u => u.2.1 (by rw [← lkE]; exact lk)) hQ g
            · have lk : ¬ likA (H 591) s (ocF (j + 1)) = true := by rw [lk]; decide
              obtain ⟨r, H1, ⟨rfl, q1⟩, g⟩ := xc_use g (sp_m_isCure k s (ocF (j + 1)) H ok ⟨hk.1, by omega⟩ (by omega) sz oz)
              have g := hK _ _ g
              rw [cuE] at g
              by_cases u : 0 ≤ cuM (H0 591) k s (ocF (j + 1))
              · rw [if_pos u] at g
                have g := (g.resolve_left (fun w => absurd w.1 (by decide))).2
                refine ⟨H1, MQc_trans hQ q1, ?_⟩
                have cc : cfC (H0 591) k s (j + 1) := ⟨fun w => ne w.symm, by rw [← lkE]; exact lk, u⟩
                have ev : cfF (H0 591) k s 36 1 = j + 1 := by
                  rw [hcf, st2]
                  exact if_pos cc
                rw [st]
                unfold cuF
                rw [hs, ev, if_pos ⟨w46, by omega⟩]
                exact g
              · rw [if_neg u] at g
                have g := (g.resolve_right (fun w => absurd rfl w.1)).2
                exact nextJ _ H1 (fun w => u w.2.2) (MQc_trans hQ q1) g
          have z256 : zw (256 * s) = 256 * s := zw_lit (by omega) (by omega)
          have zz : zw (256 * s + ocF (j + 1)) = 256 * s + ocF (j + 1) := zw_lit (by omega) (by omega)
          have k1 := ok.1.2.1.1
          have k2 := ok.1.2.1.2
          by_cases j26 : j < 26
          · have j26' : ¬ 26 ≤ j := by omega
            have eo : zw (65 + j) = ocF (j + 1) := by rw [ocj, if_pos j26]; exact zw_lit (by omega) (by omega)
            have h := xw_top (hd := [31, 63]) 12 xD6_ok xc_X12_cure xa_X12_cure (t := 63) rfl h
            simp (maxDischargeDepth := 12) -implicitDefEqProofs [vb_X12_cure_0, vb_X12_cure_27, vb_X12_cure_29, vb_X12_cure_31, vb_X12_cure_63, vb_X12_cure_91, vb_X12_cure_99, vb_X12_cure_137, vb_X12_cure_143, vb_X12_cure_149, xI_0, xI_1, xI_3, xI_6, xI_7, xI_8, xI_9, xI_14, xI_15, xI_16, xI_36, xI_37, xI_38, xI_39, xI_43, xI_46, xI_49, xI_51, xI_60, xI_61, xI_62, xw_X12_cure_0, xw_X12_cure_27, xw_X12_cure_29, xw_X12_cure_31, xw_X12_cure_63, xw_X12_cure_91, xw_X12_cure_99, xw_X12_cure_137, xw_X12_cure_143, xw_X12_cure_149, zw_lit, xB_c, xB_s, xB_n, i1_c, j2_c, k1_c, jJ_e, xlg, xls, xla, xpd, ppush, zw_m1, zw_m2, zw_m3, gf_12_0, tg_12_0, gv_590_0, xD1, xD2, xD3, xD4, xD5, xD6, xb1_0, w46, jc, jc', j26, j26', eo, zj, z256, zz, k1, k2] at h
            exact body 0 _ (fun v H2 q => q) h
          · have j26' : 26 ≤ j := by omega
            have eo1 : zw (48 + j) = 48 + j := zw_lit (by omega) (by omega)
            have eo : zw (48 + j - 26) = ocF (j + 1) := by rw [ocj, if_neg j26, show 48 + j - 26 = 22 + j by omega]; exact zw_lit (by omega) (by omega)
            have h := xw_top (hd := [31, 63]) 12 xD6_ok xc_X12_cure xa_X12_cure (t := 63) rfl h
            simp (maxDischargeDepth := 12) -implicitDefEqProofs [vb_X12_cure_0, vb_X12_cure_27, vb_X12_cure_29, vb_X12_cure_31, vb_X12_cure_63, vb_X12_cure_91, vb_X12_cure_99, vb_X12_cure_137, vb_X12_cure_143, vb_X12_cure_149, xI_0, xI_1, xI_3, xI_6, xI_7, xI_8, xI_9, xI_14, xI_15, xI_16, xI_36, xI_37, xI_38, xI_39, xI_43, xI_46, xI_49, xI_51, xI_60, xI_61, xI_62, xw_X12_cure_0, xw_X12_cure_27, xw_X12_cure_29, xw_X12_cure_31, xw_X12_cure_63, xw_X12_cure_91, xw_X12_cure_99, xw_X12_cure_137, xw_X12_cure_143, xw_X12_cure_149, zw_lit, xB_c, xB_s, xB_n, i1_c, j2_c, k1_c, jJ_e, xlg, xls, xla, xpd, ppush, zw_m1, zw_m2, zw_m3, gf_12_0, tg_12_0, gv_590_0, xD1, xD2, xD3, xD4, xD5, xD6, xb1_0, w46, jc, jc', j26, j26', eo1, eo, zj, z256, zz, k1, k2] at h
            exact body 0 _ (fun v H2 q => q) h
        · have jc' : 36 ≤ j := by omega
          have e0 : cfF (H0 591) k s 36 1 = 0 := by
            rw [hcf, show (36 - j).toNat = 0 by omega]
            rfl
          have h := xw_top (hd := [31, 63]) 12 xD6_ok xc_X12_cure xa_X12_cure (t := 63) rfl h
          simp (maxDischargeDepth := 12) -implicitDefEqProofs [vb_X12_cure_0, vb_X12_cure_27, vb_X12_cure_29, vb_X12_cure_31, vb_X12_cure_63, vb_X12_cure_91, vb_X12_cure_99, vb_X12_cure_137, vb_X12_cure_143, vb_X12_cure_149, xI_0, xI_1, xI_3, xI_6, xI_7, xI_8, xI_9, xI_14, xI_15, xI_16, xI_36, xI_37, xI_38, xI_39, xI_43, xI_46, xI_49, xI_51, xI_60, xI_61, xI_62, xw_X12_cure_0, xw_X12_cure_27, xw_X12_cure_29, xw_X12_cure_31, xw_X12_cure_63, xw_X12_cure_91, xw_X12_cure_99, xw_X12_cure_137, xw_X12_cure_143, xw_X12_cure_149, zw_lit, xB_c, xB_s, xB_n, i1_c, j2_c, k1_c, jJ_e, xlg, xls, xla, xpd, ppush, zw_m1, zw_m2, zw_m3, gf_12_0, tg_12_0, gv_590_0, xD1, xD2, xD3, xD4, xD5, xD6, xb1_0, jc, jc', zi] at h
          obtain ⟨m, hm, h⟩ := h
          exact nextI m _ _ _ hm (Or.inr e0) h
set_option maxRecDepth 100000 in
theorem sp_m_cure (k : Int) (H : PH) (ok : OKR (H 591)) (hC : ∀ k, 0 ≤ k → k < H 591 2 → ∀ i, 0 ≤ i → i < H 591 (404 + 12 * k + 3) → 0 ≤ H 591 (404 + 12 * k + 4 + i) ∧ H 591 (404 + 12 * k + 4 + i) ≤ 127) : SPEC 265 [(2, 590), (0, k)] H (fun r H' => r = some (0, cuQ (H 591) k) ∧ MQc H H') := by
  intro E n' res h
  have a0 := ok.1.1
  have a2 := ok.1.2.2.1
  have os := ok.2.2.1
  unfold OKS at os
  have z0 : zw (H 591 0 - 1) = H 591 0 - 1 := zw_lit (by omega) (by omega)
  have z2 : zw (H 591 2 - 1) = H 591 2 - 1 := zw_lit (by omega) (by omega)
  have a1 := ok.1.2.1
  by_cases qk : 0 ≤ k ∧ k ≤ H 591 2 - 1
  · have k0 := qk.1
    have k1 := qk.2
    have k2 : ¬ k < 0 := by omega
    have k3 : ¬ H 591 2 - 1 < k := by omega
    have hk : 0 ≤ k ∧ k < H 591 2 := by omega
    have l8 := ok.1.2.2.2.2.2.1 k k0 (by omega)
    by_cases h8 : H 591 1 < 8
    · have h8' : ¬ H 591 1 = 8 := by omega
      have h := call_runP 6 vm_X12_cure h
      have h := xw_top (hd := [31, 63]) 12 xD6_ok xc_X12_cure xa_X12_cure (t := 0) rfl h
      simp (maxDischargeDepth := 12) -implicitDefEqProofs [vb_X12_cure_0, vb_X12_cure_27, vb_X12_cure_29, vb_X12_cure_31, vb_X12_cure_63, vb_X12_cure_91, vb_X12_cure_99, vb_X12_cure_137, vb_X12_cure_143, vb_X12_cure_149, xI_0, xI_1, xI_3, xI_6, xI_7, xI_8, xI_9, xI_14, xI_15, xI_16, xI_36, xI_37, xI_38, xI_39, xI_43, xI_46, xI_49, xI_51, xI_60, xI_61, xI_62, xw_X12_cure_0, xw_X12_cure_27, xw_X12_cure_29, xw_X12_cure_31, xw_X12_cure_63, xw_X12_cure_91, xw_X12_cure_99, xw_X12_cure_137, xw_X12_cure_143, xw_X12_cure_149, zw_lit, xB_c, xB_s, xB_n, i1_c, j2_c, k1_c, jJ_e, xlg, xls, xla, xpd, ppush, zw_m1, zw_m2, zw_m3, gf_12_0, tg_12_0, gv_590_0, xD1, xD2, xD3, xD4, xD5, xD6, xb1_0, z2, k0, k1, k2, k3, h8'] at h
      obtain ⟨r, H1, ⟨rfl, sc⟩, g⟩ := xc_use h (sp_X12_lineRead k H ok.1 ⟨k0, by omega⟩)
      have q1 : MQc H H1 := MQc_s ok (MQs_SC sc (by decide) (by decide))
      by_cases q : rdL (H 591) k < 0
      · have q' : ¬ 0 ≤ rdL (H 591) k := by omega
        simp (maxDischargeDepth := 12) -implicitDefEqProofs [vb_X12_cure_0, vb_X12_cure_27, vb_X12_cure_29, vb_X12_cure_31, vb_X12_cure_63, vb_X12_cure_91, vb_X12_cure_99, vb_X12_cure_137, vb_X12_cure_143, vb_X12_cure_149, xI_0, xI_1, xI_3, xI_6, xI_7, xI_8, xI_9, xI_14, xI_15, xI_16, xI_36, xI_37, xI_38, xI_39, xI_43, xI_46, xI_49, xI_51, xI_60, xI_61, xI_62, xw_X12_cure_0, xw_X12_cure_27, xw_X12_cure_29, xw_X12_cure_31, xw_X12_cure_63, xw_X12_cure_91, xw_X12_cure_99, xw_X12_cure_137, xw_X12_cure_143, xw_X12_cure_149, zw_lit, xB_c, xB_s, xB_n, i1_c, j2_c, k1_c, jJ_e, xlg, xls, xla, xpd, ppush, zw_m1, zw_m2, zw_m3, gf_12_0, tg_12_0, gv_590_0, xD1, xD2, xD3, xD4, xD5, xD6, xb1_0, q, q'] at g
        obtain ⟨m, hm, g⟩ := g
        obtain ⟨H2, q2, g2⟩ := (lp_mCureA k H ok hk h8 (hC k k0 hk.2) m).1 0 _ _ _ H1 (by decide) l8.1 q1 g
        rw [Int.sub_zero] at g2
        exact ⟨_, H2, g2, by unfold cuQ; rw [if_pos ⟨⟨hk, h8⟩, q⟩], q2⟩
      · have q' : 0 ≤ rdL (H 591) k := by omega
        simp (maxDischargeDepth := 12) -implicitDefEqProofs [vb_X12_cure_0, vb_X12_cure_27, vb_X12_cure_29, vb_X12_cure_31, vb_X12_cure_63, vb_X12_cure_91, vb_X12_cure_99, vb_X12_cure_137, vb_X12_cure_143, vb_X12_cure_149, xI_0, xI_1, xI_3, xI_6, xI_7, xI_8, xI_9, xI_14, xI_15, xI_16, xI_36, xI_37, xI_38, xI_39, xI_43, xI_46, xI_49, xI_51, xI_60, xI_61, xI_62, xw_X12_cure_0, xw_X12_cure_27, xw_X12_cure_29, xw_X12_cure_31, xw_X12_cure_63, xw_X12_cure_91, xw_X12_cure_99, xw_X12_cure_137, xw_X12_cure_143, xw_X12_cure_149, zw_lit, xB_c, xB_s, xB_n, i1_c, j2_c, k1_c, jJ_e, xlg, xls, xla, xpd, ppush, zw_m1, zw_m2, zw_m3, gf_12_0, tg_12_0, gv_590_0, xD1, xD2, xD3, xD4, xD5, xD6, xb1_0, q, q'] at g
        exact ⟨_, H1, g, by unfold cuQ; rw [if_neg (fun w => q w.2)], q1⟩
    · have h8' : (H 591 1 = 8) = True := eq_true (by omega)
      have h := call_runP 6 vm_X12_cure h
      have h := xw_top (hd := [31, 63]) 12 xD6_ok xc_X12_cure xa_X12_cure (t := 0) rfl h
      simp (maxDischargeDepth := 12) -implicitDefEqProofs [vb_X12_cure_0, vb_X12_cure_27, vb_X12_cure_29, vb_X12_cure_31, vb_X12_cure_63, vb_X12_cure_91, vb_X12_cure_99, vb_X12_cure_137, vb_X12_cure_143, vb_X12_cure_149, xI_0, xI_1, xI_3, xI_6, xI_7, xI_8, xI_9, xI_14, xI_15, xI_16, xI_36, xI_37, xI_38, xI_39, xI_43, xI_46, xI_49, xI_51, xI_60, xI_61, xI_62, xw_X12_cure_0, xw_X12_cure_27, xw_X12_cure_29, xw_X12_cure_31, xw_X12_cure_63, xw_X12_cure_91, xw_X12_cure_99, xw_X12_cure_137, xw_X12_cure_143, xw_X12_cure_149, zw_lit, xB_c, xB_s, xB_n, i1_c, j2_c, k1_c, jJ_e, xlg, xls, xla, xpd, ppush, zw_m1, zw_m2, zw_m3, gf_12_0, tg_12_0, gv_590_0, xD1, xD2, xD3, xD4, xD5, xD6, xb1_0, z2, k0, k1, k2, k3, h8'] at h
      exact ⟨_, H, h, by unfold cuQ; rw [if_neg (fun w => h8 w.1.2)], MQc_s ok MQs_refl⟩
  · by_cases k0 : 0 ≤ k
    · have k1 : ¬ k ≤ H 591 2 - 1 := by omega
      have k2 : ¬ k < 0 := by omega
      have k3 : H 591 2 - 1 < k := by omega
      have h := call_runP 6 vm_X12_cure h
      have h := xw_top (hd := [31, 63]) 12 xD6_ok xc_X12_cure xa_X12_cure (t := 0) rfl h
      simp (maxDischargeDepth := 12) -implicitDefEqProofs [vb_X12_cure_0, vb_X12_cure_27, vb_X12_cure_29, vb_X12_cure_31, vb_X12_cure_63, vb_X12_cure_91, vb_X12_cure_99, vb_X12_cure_137, vb_X12_cure_143, vb_X12_cure_149, xI_0, xI_1, xI_3, xI_6, xI_7, xI_8, xI_9, xI_14, xI_15, xI_16, xI_36, xI_37, xI_38, xI_39, xI_43, xI_46, xI_49, xI_51, xI_60, xI_61, xI_62, xw_X12_cure_0, xw_X12_cure_27, xw_X12_cure_29, xw_X12_cure_31, xw_X12_cure_63, xw_X12_cure_91, xw_X12_cure_99, xw_X12_cure_137, xw_X12_cure_143, xw_X12_cure_149, zw_lit, xB_c, xB_s, xB_n, i1_c, j2_c, k1_c, jJ_e, xlg, xls, xla, xpd, ppush, zw_m1, zw_m2, zw_m3, gf_12_0, tg_12_0, gv_590_0, xD1, xD2, xD3, xD4, xD5, xD6, xb1_0, z2, k0, k1, k2, k3] at h
      exact ⟨_, H, h, by unfold cuQ; rw [if_neg (by omega)], MQc_s ok MQs_refl⟩
    · have k2 : k < 0 := by omega
      have h := call_runP 6 vm_X12_cure h
      have h := xw_top (hd := [31, 63]) 12 xD6_ok xc_X12_cure xa_X12_cure (t := 0) rfl h
      simp (maxDischargeDepth := 12) -implicitDefEqProofs [vb_X12_cure_0, vb_X12_cure_27, vb_X12_cure_29, vb_X12_cure_31, vb_X12_cure_63, vb_X12_cure_91, vb_X12_cure_99, vb_X12_cure_137, vb_X12_cure_143, vb_X12_cure_149, xI_0, xI_1, xI_3, xI_6, xI_7, xI_8, xI_9, xI_14, xI_15, xI_16, xI_36, xI_37, xI_38, xI_39, xI_43, xI_46, xI_49, xI_51, xI_60, xI_61, xI_62, xw_X12_cure_0, xw_X12_cure_27, xw_X12_cure_29, xw_X12_cure_31, xw_X12_cure_63, xw_X12_cure_91, xw_X12_cure_99, xw_X12_cure_137, xw_X12_cure_143, xw_X12_cure_149, zw_lit, xB_c, xB_s, xB_n, i1_c, j2_c, k1_c, jJ_e, xlg, xls, xla, xpd, ppush, zw_m1, zw_m2, zw_m3, gf_12_0, tg_12_0, gv_590_0, xD1, xD2, xD3, xD4, xD5, xD6, xb1_0, z2, k0, k2] at h
      exact ⟨_, H, h, by unfold cuQ; rw [if_neg (by omega)], MQc_s ok MQs_refl⟩
theorem CI_ol {H : PH} {A : Int → Int} (ci : CI H A) : ∀ k, 0 ≤ k → k < A 2 → ∀ i, 0 ≤ i → i < A (404 + 12 * k + 3) → 0 ≤ A (404 + 12 * k + 4 + i) ∧ A (404 + 12 * k + 4 + i) ≤ 127 := fun k k0 k1 i i0 i1 => by
  obtain ⟨o1, o2, o3⟩ := (ci.1.2.2.1 k k0 k1).2.2.2.2.2.1 i i0 i1
  have o3 : A (404 + 12 * k + 4 + i) = ocF (sgf (H (H 47 k) 3) i) := o3
  rw [o3]
  exact ocF_in ⟨o1, o2⟩
theorem pr_cureA (k : Int) (H : PH) (h : REL H) : PAIR 140 [(2, 0), (0, k)] 265 [(2, 590), (0, k)] H := by
  obtain ⟨⟨S, n, rl⟩, tp⟩ := h
  intro E N res hh
  obtain ⟨r, H1, g, rfl, cq⟩ := sp_c_cure k S n H rl.2.1 rl.2.2.1 E N res hh
  refine ⟨_, H1, g, ⟨_, rfl⟩, ?_⟩
  obtain ⟨x1, x2, x3, x4, x5⟩ := RL_mid rl cq.2.2.1
  intro E N res hh
  obtain ⟨r', H2, g', rfl, mq⟩ := sp_m_cure k H1 x4 (by rw [x1]; exact CI_ol rl.2.1.1) E N res hh
  exact ⟨_, H2, g', by rw [x1], REL_MQc (REL_CQ rl tp cq) mq⟩
