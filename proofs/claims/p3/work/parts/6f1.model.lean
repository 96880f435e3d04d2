/-! ===== the model reads the law: what comes yet ===== -/
def TM (H : PH) : Int → Int := fun i => q2 (· &&& ·) (H 593 i) 255
def cdM (H : PH) : List Int := (List.range (H 590 10).toNat).map (fun i : Nat => H 595 i)
def sM (H : PH) : LwS := (H 590 5, H 590 11, cdM H)
def KA (H : PH) (R : Option (Int × List Int)) : Prop := kA (TM H) (H 590 4) (H 596) (H 597) (H 590 14).toNat (sM H) = R
def KE (H : PH) (R : Option (Int × List Int)) : Prop := kE (TM H) (H 590 4) (H 596) (H 597) (H 590 14).toNat (sM H) = R
theorem hr_nxb {H : PH} (h : 0 ≤ H 590 5) : hr H = nxb (TM H) (H 590 4) (H 590 5) := by
  unfold hr nxb
  by_cases c : H 590 5 < H 590 4
  · rw [if_pos c, if_pos ⟨h, c⟩]
    rfl
  · rw [if_neg c, if_neg (fun q => c q.2)]
theorem hr_cg {H H' : PH} (e : H' 593 = H 593) (e4 : H' 590 4 = H 590 4) (e5 : H' 590 5 = H 590 5) : hr H' = hr H := by
  unfold hr
  rw [e, e4, e5]
theorem TM_cg {H H' : PH} (e : H' 593 = H 593) : TM H' = TM H := by
  unfold TM
  rw [e]
theorem cdM_cg {H H' : PH} (e : H' 595 = H 595) (e10 : H' 590 10 = H 590 10) : cdM H' = cdM H := by
  unfold cdM
  rw [e, e10]
theorem cdM_len {H : PH} (h : 0 ≤ H 590 10) : ((cdM H).length : Int) = H 590 10 := by
  unfold cdM
  rw [List.length_map, List.length_range]
  omega
theorem cdM_add {H : PH} {x : Int} (h0 : 0 ≤ H 590 10) : cdM (pup (pup H 595 (H 590 10) x) 590 10 (H 590 10 + 1)) = cdM H ++ [x] := by
  have e1 : pup (pup H 595 (H 590 10) x) 590 10 (H 590 10 + 1) 590 10 = H 590 10 + 1 := if_pos ⟨rfl, rfl⟩
  have e2 : pup (pup H 595 (H 590 10) x) 590 10 (H 590 10 + 1) 595 = pup H 595 (H 590 10) x 595 := pup_r (by decide)
  unfold cdM
  rw [e1, e2, show (H 590 10 + 1).toNat = (H 590 10).toNat + 1 by omega, List.range_succ, List.map_append]
  congr 1
  · refine List.map_congr_left fun i hi => ?_
    have hi := List.mem_range.mp hi
    exact if_neg (fun q => by have := q.2; omega)
  · show [pup H 595 (H 590 10) x 595 ((H 590 10).toNat : Int)] = [x]
    have : pup H 595 (H 590 10) x 595 ((H 590 10).toNat : Int) = x := if_pos ⟨rfl, by omega⟩
    rw [this]
section KK
variable {H : PH} {R : Option (Int × List Int)}
/-- bounds that a state of the law has -/
theorem LSt_LG (h : LSt H 1 0) (h5 : 0 ≤ H 590 5) (hz : H 590 5 ≤ H 590 4) : LGd (H 590 4) (sM H) ∧ ((sM H).2.2.length : Int) + 1 ≤ 2 * (sM H).2.1 := by
  have hp := LSt_pc h
  have hn := LSt_n h (by omega) (by omega)
  obtain ⟨h1, h2, h3, h4, h6, h7⟩ := h
  have e : ((sM H).2.2.length : Int) = H 590 10 := cdM_len hn.1
  refine ⟨⟨h5, hz, h6, h7, ?_⟩, ?_⟩
  · rw [e]
    show H 590 10 ≤ 2 * H 590 11
    omega
  · rw [e]
    show H 590 10 + 1 ≤ 2 * H 590 11
    omega
theorem KA_prod (ho : 0 ≤ H 590 14) (hn : 0 ≤ H 590 10) (hp : ¬ H 597 (H 590 14) = 0) (h : KA H R) : KA (pup (pup (pup H 595 (H 590 10) (11000 + H 597 (H 590 14))) 590 10 (H 590 10 + 1)) 597 (H 590 14) 0) R := by
  unfold KA at h ⊢
  have eo : ((H 590 14).toNat : Int) = H 590 14 := by omega
  rw [← h, TM_cg (H := H) (by rw [pup_r (by decide), pup_r (by decide), pup_r (by decide)])]
  have e6 : pup (pup (pup H 595 (H 590 10) (11000 + H 597 (H 590 14))) 590 10 (H 590 10 + 1)) 597 (H 590 14) 0 596 = H 596 := by rw [pup_r (by decide), pup_r (by decide), pup_r (by decide)]
  have e7 : ∀ j, pup (pup (pup H 595 (H 590 10) (11000 + H 597 (H 590 14))) 590 10 (H 590 10 + 1)) 597 (H 590 14) 0 597 j = if j = H 590 14 then 0 else H 597 j := fun j => by
    by_cases c : j = H 590 14
    · rw [if_pos c]
      exact if_pos ⟨rfl, c⟩
    · rw [if_neg c, pup_app, if_neg (fun q => c q.2), pup_r (by decide), pup_r (by decide)]
  have es : sM (pup (pup (pup H 595 (H 590 10) (11000 + H 597 (H 590 14))) 590 10 (H 590 10 + 1)) 597 (H 590 14) 0) = pst (sM H) (11000 + H 597 (H 590 14)) := by
    unfold sM pst
    rw [cdM_cg (H := pup (pup H 595 (H 590 10) (11000 + H 597 (H 590 14))) 590 10 (H 590 10 + 1)) (pup_r (by decide)) rfl, cdM_add hn]
    rfl
  rw [e6, es]
  refine (kA_prod (pr' := pup (pup (pup H 595 (H 590 10) (11000 + H 597 (H 590 14))) 590 10 (H 590 10 + 1)) 597 (H 590 14) 0 597) (H 590 14).toNat (sM H) (by rw [eo]; exact hp) (fun j j0 j1 => by rw [e7, if_neg (by omega)]) (by rw [e7, if_pos eo])).symm.trans ?_ |>.symm
  rw [eo]
theorem KA_prod0 (hp : H 597 (H 590 14) = 0) (h : KA H R) : KA (pup H 597 (H 590 14) 0) R := by
  have e : pup H 597 (H 590 14) 0 = H := by
    rw [← hp]
    exact pup_id
  rw [e]
  exact h
theorem KA_sum0 (hp : H 596 (H 590 14) = 0) (h : KA H R) : KA (pup H 596 (H 590 14) 0) R := by
  have e : pup H 596 (H 590 14) 0 = H := by
    rw [← hp]
    exact pup_id
  rw [e]
  exact h
theorem KA_sum (ho : 0 ≤ H 590 14) (hn : 0 ≤ H 590 10) (h5 : 0 ≤ H 590 5) (hp : H 597 (H 590 14) = 0) (hs : ¬ H 596 (H 590 14) = 0) (hP : ¬ isP (hr H)) (h : KA H R) : KA (pup (pup (pup H 595 (H 590 10) (11000 + H 596 (H 590 14))) 590 10 (H 590 10 + 1)) 596 (H 590 14) 0) R := by
  unfold KA at h ⊢
  have eo : ((H 590 14).toNat : Int) = H 590 14 := by omega
  rw [← h, TM_cg (H := H) (by rw [pup_r (by decide), pup_r (by decide), pup_r (by decide)])]
  have e7 : pup (pup (pup H 595 (H 590 10) (11000 + H 596 (H 590 14))) 590 10 (H 590 10 + 1)) 596 (H 590 14) 0 597 = H 597 := by rw [pup_r (by decide), pup_r (by decide), pup_r (by decide)]
  have e6 : ∀ j, pup (pup (pup H 595 (H 590 10) (11000 + H 596 (H 590 14))) 590 10 (H 590 10 + 1)) 596 (H 590 14) 0 596 j = if j = H 590 14 then 0 else H 596 j := fun j => by
    by_cases c : j = H 590 14
    · rw [if_pos c]
      exact if_pos ⟨rfl, c⟩
    · rw [if_neg c, pup_app, if_neg (fun q => c q.2), pup_r (by decide), pup_r (by decide)]
  have es : sM (pup (pup (pup H 595 (H 590 10) (11000 + H 596 (H 590 14))) 590 10 (H 590 10 + 1)) 596 (H 590 14) 0) = pst (sM H) (11000 + H 596 (H 590 14)) := by
    unfold sM pst
    rw [cdM_cg (H := pup (pup H 595 (H 590 10) (11000 + H 596 (H 590 14))) 590 10 (H 590 10 + 1)) (pup_r (by decide)) rfl, cdM_add hn]
    rfl
  rw [e7, es]
  rw [hr_nxb h5] at hP
  refine (kA_sum (su' := pup (pup (pup H 595 (H 590 10) (11000 + H 596 (H 590 14))) 590 10 (H 590 10 + 1)) 596 (H 590 14) 0 596) (H 590 14).toNat (sM H) (by rw [eo]; exact hp) (by rw [eo]; exact hs) hP (fun j j0 j1 => by rw [e6, if_neg (by omega)]) (by rw [e6, if_pos eo])).symm.trans ?_ |>.symm
  rw [eo]
theorem KE_more {o c : Int} (ho : H 590 14 = o) (o0 : 0 ≤ o) (hL : LSt (pup H 597 o 0) 1 0) (h5 : 0 ≤ H 590 5) (hP : isP c) (hc : hr H = c) (h : KA (pup H 597 o 0) R) : KE (pup (pup (pup H 597 o 0) 597 o c) 590 5 (H 590 5 + 1)) R := by
  have hr5 : nxb (TM H) (H 590 4) (H 590 5) = c := (hr_nxb h5).symm.trans hc
  have hlt := nxb_lt (T := TM H) (z := H 590 4) (a := H 590 5) (by omega)
  have hg := LSt_LG hL h5 (by show H 590 5 ≤ H 590 4; omega)
  have eo : (o.toNat : Int) = o := by omega
  unfold KA at h
  unfold KE
  have et : TM (pup (pup (pup H 597 o 0) 597 o c) 590 5 (H 590 5 + 1)) = TM H := TM_cg (by rw [pup_r (by decide), pup_r (by decide), pup_r (by decide)])
  have et2 : TM (pup H 597 o 0) = TM H := TM_cg (pup_r (by decide))
  have e6 : pup (pup (pup H 597 o 0) 597 o c) 590 5 (H 590 5 + 1) 596 = H 596 := by rw [pup_r (by decide), pup_r (by decide), pup_r (by decide)]
  have e7 : pup (pup (pup H 597 o 0) 597 o c) 590 5 (H 590 5 + 1) 597 = pup (pup H 597 o 0) 597 o c 597 := pup_r (by decide)
  have es : sM (pup (pup (pup H 597 o 0) 597 o c) 590 5 (H 590 5 + 1)) = ((sM (pup H 597 o 0)).1 + 1, (sM (pup H 597 o 0)).2) := by
    unfold sM
    rw [cdM_cg (H := pup H 597 o 0) (by rw [pup_r (by decide), pup_r (by decide)]) rfl]
    rfl
  rw [et, e6, e7, es]
  rw [et2, show pup H 597 o 0 596 = H 596 from pup_r (by decide)] at h
  have ht : 1 ≤ (sM (pup H 597 o 0)).2.1 := by
    have := hg.1.2.2.1
    have := hg.2
    omega
  have key := kA_more (T := TM H) (z := H 590 4) (su := H 596) (pr := pup H 597 o 0 597) (pr' := pup (pup H 597 o 0) 597 o c 597) o.toNat (sM (pup H 597 o 0)) hg.1 hg.2 ht (by rw [eo]; exact if_pos ⟨rfl, rfl⟩) (by show isP (nxb (TM H) (H 590 4) (H 590 5)); rw [hr5]; exact hP) (fun j j0 j1 => if_neg (fun q => by have := q.2; omega)) (by rw [eo]; exact (if_pos ⟨rfl, rfl⟩).trans hr5.symm)
  have h14 : pup H 597 o 0 590 14 = o := ho
  rw [h14] at h
  have h14' : pup (pup (pup H 597 o 0) 597 o c) 590 5 (H 590 5 + 1) 590 14 = o := ho
  rw [h14']
  exact key.symm.trans h
theorem KE_plus {o c : Int} (ho : H 590 14 = o) (o0 : 0 ≤ o) (hL : LSt (pup H 596 o 0) 1 0) (h5 : 0 ≤ H 590 5) (hp : H 597 o = 0) (hS : isS c) (hc : hr H = c) (h : KA (pup H 596 o 0) R) : KE (pup (pup (pup H 596 o 0) 596 o c) 590 5 (H 590 5 + 1)) R := by
  have hr5 : nxb (TM H) (H 590 4) (H 590 5) = c := (hr_nxb h5).symm.trans hc
  have hlt := nxb_lt (T := TM H) (z := H 590 4) (a := H 590 5) (by omega)
  have hg := LSt_LG hL h5 (by show H 590 5 ≤ H 590 4; omega)
  have eo : (o.toNat : Int) = o := by omega
  unfold KA at h
  unfold KE
  have et : TM (pup (pup (pup H 596 o 0) 596 o c) 590 5 (H 590 5 + 1)) = TM H := TM_cg (by rw [pup_r (by decide), pup_r (by decide), pup_r (by decide)])
  have et2 : TM (pup H 596 o 0) = TM H := TM_cg (pup_r (by decide))
  have e7 : pup (pup (pup H 596 o 0) 596 o c) 590 5 (H 590 5 + 1) 597 = H 597 := by rw [pup_r (by decide), pup_r (by decide), pup_r (by decide)]
  have e6 : pup (pup (pup H 596 o 0) 596 o c) 590 5 (H 590 5 + 1) 596 = pup (pup H 596 o 0) 596 o c 596 := pup_r (by decide)
  have es : sM (pup (pup (pup H 596 o 0) 596 o c) 590 5 (H 590 5 + 1)) = ((sM (pup H 596 o 0)).1 + 1, (sM (pup H 596 o 0)).2) := by
    unfold sM
    rw [cdM_cg (H := pup H 596 o 0) (by rw [pup_r (by decide), pup_r (by decide)]) rfl]
    rfl
  rw [et, e6, e7, es]
  rw [et2, show pup H 596 o 0 597 = H 597 from pup_r (by decide)] at h
  have ht : 1 ≤ (sM (pup H 596 o 0)).2.1 := by
    have := hg.1.2.2.1
    have := hg.2
    omega
  have key := kA_plus (T := TM H) (z := H 590 4) (pr := H 597) (su := pup H 596 o 0 596) (su' := pup (pup H 596 o 0) 596 o c 596) o.toNat (sM (pup H 596 o 0)) hg.1 hg.2 ht (by rw [eo]; exact hp) (by rw [eo]; exact if_pos ⟨rfl, rfl⟩) (by show isS (nxb (TM H) (H 590 4) (H 590 5)); rw [hr5]; exact hS) (fun j j0 j1 => if_neg (fun q => by have := q.2; omega)) (by rw [eo]; exact (if_pos ⟨rfl, rfl⟩).trans hr5.symm)
  have h14 : pup H 596 o 0 590 14 = o := ho
  rw [h14] at h
  have h14' : pup (pup (pup H 596 o 0) 596 o c) 590 5 (H 590 5 + 1) 590 14 = o := ho
  rw [h14']
  exact key.symm.trans h
/-- neither a product's sign nor a sum's -/
theorem KA_end (h14 : H 590 14 = 0) (hp : H 597 0 = 0) (hs : H 596 0 = 0) (h5 : 0 ≤ H 590 5) (hP : ¬ isP (hr H)) (hS : ¬ isS (hr H)) (h : KA H R) : (H 590 5 < H 590 4 → R = none) ∧ (¬ H 590 5 < H 590 4 → R = some (H 590 11, cdM H)) := by
  unfold KA at h
  rw [hr_nxb h5] at hP hS
  rw [h14, show (0 : Int).toNat = 0 from rfl, kA_stop 0 (sM H) hp hs hP hS] at h
  have h : (if H 590 5 < H 590 4 then none else some (H 590 11, cdM H)) = R := h
  exact ⟨fun q => by rw [← h, if_pos q], fun q => by rw [← h, if_neg q]⟩
theorem KA_shut {o : Int} (h14 : H 590 14 = o) (o1 : 1 ≤ o) (hp : H 597 o = 0) (hs : H 596 o = 0) (h5 : 0 ≤ H 590 5) (hP : ¬ isP (hr H)) (hS : ¬ isS (hr H)) (h : KA H R) : (¬ hr H = 41 → R = none) ∧ (hr H = 41 → KA (pup (pup H 590 5 (H 590 5 + 1)) 590 14 (o - 1)) R) := by
  have eo : (o.toNat : Int) = o := by omega
  obtain ⟨k, hk⟩ : ∃ k, o.toNat = k + 1 := ⟨o.toNat - 1, by omega⟩
  unfold KA at h
  rw [hr_nxb h5] at hP hS ⊢
  rw [h14, kA_stop o.toNat (sM H) (by rw [eo]; exact hp) (by rw [eo]; exact hs) hP hS, hk] at h
  have h : (if nxb (TM H) (H 590 4) (H 590 5) = 41 then kA (TM H) (H 590 4) (H 596) (H 597) k (H 590 5 + 1, H 590 11, cdM H) else none) = R := h
  refine ⟨fun q => by rw [← h, if_neg q], fun q => ?_⟩
  rw [if_pos q] at h
  unfold KA
  have et : TM (pup (pup H 590 5 (H 590 5 + 1)) 590 14 (o - 1)) = TM H := TM_cg (by rw [pup_r (by decide), pup_r (by decide)])
  have es : sM (pup (pup H 590 5 (H 590 5 + 1)) 590 14 (o - 1)) = (H 590 5 + 1, H 590 11, cdM H) := by
    unfold sM
    rw [cdM_cg (H := H) (by rw [pup_r (by decide), pup_r (by decide)]) rfl]
    rfl
  have e14 : (pup (pup H 590 5 (H 590 5 + 1)) 590 14 (o - 1) 590 14).toNat = k := by
    show (o - 1).toNat = k
    omega
  rw [et, es, e14, show pup (pup H 590 5 (H 590 5 + 1)) 590 14 (o - 1) 596 = H 596 by rw [pup_r (by decide), pup_r (by decide)], show pup (pup H 590 5 (H 590 5 + 1)) 590 14 (o - 1) 597 = H 597 by rw [pup_r (by decide), pup_r (by decide)]]
  exact h
theorem KE_no (h5 : 0 ≤ H 590 5) (h : KE H R) (hq : 30 ≤ H 590 11 ∨ H 590 14 = 8 ∨ ¬ (hr H = 40 ∨ isD (hr H) ∨ hr H = 115 ∨ hr H = 111 ∨ hr H = 99)) : R = none := by
  unfold KE at h
  rw [hr_nxb h5] at hq
  rw [← h]
  exact kE_none _ _ (by
    rcases hq with q | q | q
    · exact Or.inl q
    · exact Or.inr (Or.inl (by omega))
    · exact Or.inr (Or.inr q))
theorem KE_par (h5 : 0 ≤ H 590 5) (h30 : H 590 11 < 30) (o0 : 0 ≤ H 590 14) (o7 : H 590 14 ≤ 7) (hc : hr H = 40) (h : KE H R) : KE (pup (pup (pup (pup (pup H 590 11 (H 590 11 + 1)) 590 5 (H 590 5 + 1)) 590 14 (H 590 14 + 1)) 596 (H 590 14 + 1) 0) 597 (H 590 14 + 1) 0) R := by
  have eo : ((H 590 14).toNat : Int) = H 590 14 := by omega
  unfold KE at h ⊢
  rw [hr_nxb h5] at hc
  have et : TM (pup (pup (pup (pup (pup H 590 11 (H 590 11 + 1)) 590 5 (H 590 5 + 1)) 590 14 (H 590 14 + 1)) 596 (H 590 14 + 1) 0) 597 (H 590 14 + 1) 0) = TM H := TM_cg (by rw [pup_r (by decide), pup_r (by decide), pup_r (by decide), pup_r (by decide), pup_r (by decide)])
  have es : sM (pup (pup (pup (pup (pup H 590 11 (H 590 11 + 1)) 590 5 (H 590 5 + 1)) 590 14 (H 590 14 + 1)) 596 (H 590 14 + 1) 0) 597 (H 590 14 + 1) 0) = (H 590 5 + 1, H 590 11 + 1, cdM H) := by
    unfold sM
    rw [cdM_cg (H := H) (by rw [pup_r (by decide), pup_r (by decide), pup_r (by decide), pup_r (by decide), pup_r (by decide)]) rfl]
    rfl
  have e14 : (pup (pup (pup (pup (pup H 590 11 (H 590 11 + 1)) 590 5 (H 590 5 + 1)) 590 14 (H 590 14 + 1)) 596 (H 590 14 + 1) 0) 597 (H 590 14 + 1) 0 590 14).toNat = (H 590 14).toNat + 1 := by
    show (H 590 14 + 1).toNat = _
    omega
  have e4 : pup (pup (pup (pup (pup H 590 11 (H 590 11 + 1)) 590 5 (H 590 5 + 1)) 590 14 (H 590 14 + 1)) 596 (H 590 14 + 1) 0) 597 (H 590 14 + 1) 0 590 4 = H 590 4 := rfl
  have e6 : ∀ j, pup (pup (pup (pup (pup H 590 11 (H 590 11 + 1)) 590 5 (H 590 5 + 1)) 590 14 (H 590 14 + 1)) 596 (H 590 14 + 1) 0) 597 (H 590 14 + 1) 0 596 j = if j = H 590 14 + 1 then 0 else H 596 j := fun j => by
    rw [pup_r (c' := 596) (c := 597) (by decide)]
    by_cases c : j = H 590 14 + 1
    · rw [if_pos c]
      exact if_pos ⟨rfl, c⟩
    · rw [if_neg c, pup_app, if_neg (fun q => c q.2), pup_r (by decide), pup_r (by decide), pup_r (by decide)]
  have e7 : ∀ j, pup (pup (pup (pup (pup H 590 11 (H 590 11 + 1)) 590 5 (H 590 5 + 1)) 590 14 (H 590 14 + 1)) 596 (H 590 14 + 1) 0) 597 (H 590 14 + 1) 0 597 j = if j = H 590 14 + 1 then 0 else H 597 j := fun j => by
    by_cases c : j = H 590 14 + 1
    · rw [if_pos c]
      exact if_pos ⟨rfl, c⟩
    · rw [if_neg c, pup_app, if_neg (fun q => c q.2), pup_r (by decide), pup_r (by decide), pup_r (by decide), pup_r (by decide)]
  rw [et, es, e14, e4]
  refine (kE_open (su' := pup (pup (pup (pup (pup H 590 11 (H 590 11 + 1)) 590 5 (H 590 5 + 1)) 590 14 (H 590 14 + 1)) 596 (H 590 14 + 1) 0) 597 (H 590 14 + 1) 0 596) (pr' := pup (pup (pup (pup (pup H 590 11 (H 590 11 + 1)) 590 5 (H 590 5 + 1)) 590 14 (H 590 14 + 1)) 596 (H 590 14 + 1) 0) 597 (H 590 14 + 1) 0 597) (H 590 14).toNat (by omega) (sM H) h30 hc (fun j j0 j1 => ⟨by rw [e6, if_neg (by omega)], by rw [e7, if_neg (by omega)]⟩) (by rw [eo, e6, if_pos rfl]) (by rw [eo, e7, if_pos rfl])).symm.trans h
theorem sM_val {x : Int} (hn : 0 ≤ H 590 10) {a : Int} {H1 : PH} (e5 : H1 595 = H 595) (e10 : H1 590 10 = H 590 10) (e11 : H1 590 11 = H 590 11 + 1) (ea : H1 590 5 = a) : sM (pup (pup H1 595 (H1 590 10) x) 590 10 (H1 590 10 + 1)) = (a, H 590 11 + 1, cdM H ++ [x]) := by
  unfold sM
  rw [cdM_add (by rw [e10]; exact hn), cdM_cg e5 e10, ← e11, ← ea]
  rfl
/-- a value was read -/
theorem KA_val {x a : Int} {H1 : PH} (hn : 0 ≤ H 590 10) (e3 : H1 593 = H 593) (e5 : H1 595 = H 595) (e6 : H1 596 = H 596) (e7 : H1 597 = H 597) (e4 : H1 590 4 = H 590 4) (e10 : H1 590 10 = H 590 10) (e11 : H1 590 11 = H 590 11 + 1) (e14 : H1 590 14 = H 590 14) (ea : H1 590 5 = a) (h : kA (TM H) (H 590 4) (H 596) (H 597) (H 590 14).toNat (a, H 590 11 + 1, cdM H ++ [x]) = R) : KA (pup (pup H1 595 (H1 590 10) x) 590 10 (H1 590 10 + 1)) R := by
  unfold KA
  have et : TM (pup (pup H1 595 (H1 590 10) x) 590 10 (H1 590 10 + 1)) = TM H := TM_cg (by rw [pup_r (by decide), pup_r (by decide), e3])
  have e14' : pup (pup H1 595 (H1 590 10) x) 590 10 (H1 590 10 + 1) 590 14 = H 590 14 := e14
  have e4' : pup (pup H1 595 (H1 590 10) x) 590 10 (H1 590 10 + 1) 590 4 = H 590 4 := e4
  rw [et, e4', e14', sM_val hn e5 e10 e11 ea, show pup (pup H1 595 (H1 590 10) x) 590 10 (H1 590 10 + 1) 596 = H 596 by rw [pup_r (by decide), pup_r (by decide), e6], show pup (pup H1 595 (H1 590 10) x) 590 10 (H1 590 10 + 1) 597 = H 597 by rw [pup_r (by decide), pup_r (by decide), e7]]
  exact h
theorem KE_dig {a v : Int} (h5 : 0 ≤ H 590 5) (h30 : H 590 11 < 30) (o0 : 0 ≤ H 590 14) (o7 : H 590 14 ≤ 7) (hd : isD (hr H)) (he : dgt (TM H) (H 590 4) 4 (H 590 5) 0 = (a, v)) (h : KE H R) : (isD (nxb (TM H) (H 590 4) a) → R = none) ∧ (¬ isD (nxb (TM H) (H 590 4) a) → kA (TM H) (H 590 4) (H 596) (H 597) (H 590 14).toNat (a, H 590 11 + 1, cdM H ++ [v]) = R) := by
  unfold KE at h
  rw [hr_nxb h5] at hd
  have e := (kE_one (T := TM H) (z := H 590 4) (su := H 596) (pr := H 597) (H 590 14).toNat (by omega) (sM H) h30).1 hd
  have he : dgt (TM H) (H 590 4) 4 (sM H).1 0 = (a, v) := he
  rw [he] at e
  refine ⟨fun q => ?_, fun q => ?_⟩
  · rw [if_pos q] at e
    exact h.symm.trans e
  · rw [if_neg q] at e
    exact e.symm.trans h
theorem KE_let (h5 : 0 ≤ H 590 5) (h30 : H 590 11 < 30) (o0 : 0 ≤ H 590 14) (o7 : H 590 14 ≤ 7) (h : KE H R) : (hr H = 115 → kA (TM H) (H 590 4) (H 596) (H 597) (H 590 14).toNat (H 590 5 + 1, H 590 11 + 1, cdM H ++ [10000]) = R) ∧ (hr H = 111 → kA (TM H) (H 590 4) (H 596) (H 597) (H 590 14).toNat (H 590 5 + 1, H 590 11 + 1, cdM H ++ [10001]) = R) ∧ (hr H = 99 → kA (TM H) (H 590 4) (H 596) (H 597) (H 590 14).toNat (H 590 5 + 1, H 590 11 + 1, cdM H ++ [10002]) = R) := by
  unfold KE at h
  have e := kE_one (T := TM H) (z := H 590 4) (su := H 596) (pr := H 597) (H 590 14).toNat (by omega) (sM H) h30
  rw [hr_nxb h5]
  exact ⟨fun q => (e.2.1 q).symm.trans h, fun q => (e.2.2.1 q).symm.trans h, fun q => (e.2.2.2 q).symm.trans h⟩
end KK
