/-! ===== what a contract leaves as it is ===== -/
theorem Ca_rf {G : zG} {us D mj : Nat} {as : List pv} {H : PH} {K : Option pv → PH → Prop} (h : Ca G us D mj as H K) : Ca G us D mj as H (fun r H' => K r H' ∧ RF H ∧ RF H') := by
  obtain ⟨oc, ini, cc, maxL, rt, cdj, a1, a2, a3⟩ := h
  refine ⟨oc, ini, cc, maxL, rt, cdj, a1, a2, fun hl hs0 h0 hW => ?_⟩
  obtain ⟨r, h', H', n0, b1, b2, b3, b4⟩ := a3 hl hs0 h0 hW
  exact ⟨r, h', H', n0, b1, ⟨b2, hW.2.2, b1.2.2⟩, b3, b4⟩
theorem cel_frm {md : List Nat} {H H' : PH} (f : frm md H H') (r : RF H) (r' : RF H') {c : Nat} (hc : c < 622) (ht : tau c < 1000) {i : Int} (hm : inmd md (tau c) i = false) : H' (c : Int) i = H (c : Int) i := by
  by_cases v : VA (c : Int) i
  · have e := f c i ht hm
    rw [gv_RF r' v.1 v.2.1 v.2.2.1, gv_RF r v.1 v.2.1 v.2.2.1] at e
    exact e
  · rw [r'.2 _ i v, r.2 _ i v]
theorem row_frm {md : List Nat} {H H' : PH} (f : frm md H H') (r : RF H) (r' : RF H') {c : Nat} (hc : c < 622) (ht : tau c < 1000) (hm : inmdA md (tau c) = false) : H' (c : Int) = H (c : Int) := funext fun i => cel_frm f r r' hc ht (inmd_A hm ht)
theorem RC_lo2 {H H' : PH} {S : Int → Int → Int} {n : Int} (r : RC H S n) (f : ∀ c, c < 589 → ¬ c = 0 → ¬ c = 44 → ¬ c = 45 → ¬ (53 ≤ c ∧ c ≤ 56) → ¬ (372 ≤ c ∧ c ≤ 467) → ¬ (213 ≤ c ∧ c ≤ 214) → H' c = H c) (f0 : H' 0 7 = H 0 7 ∧ H' 0 8 = H 0 8) : RC H' S n := by
  have ok := RC_sz r
  have ld := r.2.2.1
  have kq : ∀ q, KL q → H' q = H q ∧ H' (q + 1) = H (q + 1) := fun q hq => by
    have := KLh hq
    have := KL_in hq
    have := KZ (Or.inr hq)
    exact ⟨f q (by omega) (by omega) (by omega) (by omega) (by omega) (by omega) (by omega), f _ (by omega) (by omega) (by omega) (by omega) (by omega) (by omega) (by omega)⟩
  have kw : ∀ w, KW w → (H' w 2 = H w 2 ∧ H' w 3 = H w 3) ∧ H' (w + 1) = H (w + 1) := fun w hw => by
    have := KWh hw
    have := KWz hw
    rw [f w (by omega) (by omega) (by omega) (by omega) (by omega) (by omega) (by omega)]
    exact ⟨⟨rfl, rfl⟩, f _ (by omega) (by omega) (by omega) (by omega) (by omega) (by omega) (by omega)⟩
  have ci := CI_fr ok.1 r.1 (fun c hc => f c (by omega) (by omega) (by omega) (by omega) (by omega) (by omega) (by omega)) kq kw
  have gl : GFL H H' := GFL_of ld f0 (f 47 (by decide) (by decide) (by decide) (by decide) (by decide) (by decide) (by decide)) (by rw [f 1 (by decide) (by decide) (by decide) (by decide) (by decide) (by decide) (by decide)]; exact ⟨rfl, rfl⟩) (fun l l0 l1 => f _ (by omega) (by omega) (by omega) (by omega) (by omega) (by omega) (by omega)) kw (fun q hq _ => kq q hq)
  exact RC_fr r ci (CPr_fr (f 42 (by decide) (by decide) (by decide) (by decide) (by decide) (by decide) (by decide)) (f 43 (by decide) (by decide) (by decide) (by decide) (by decide) (by decide) (by decide)) r.2.1) gl
theorem REL_lo2 {H H' : PH} (h : REL H) (f : ∀ c, c < 589 → ¬ c = 0 → ¬ c = 44 → ¬ c = 45 → ¬ (53 ≤ c ∧ c ≤ 56) → ¬ (372 ≤ c ∧ c ≤ 467) → H' c = H c) (f0 : H' 0 7 = H 0 7 ∧ H' 0 8 = H 0 8) (e1 : H' 591 = H 591) (e2 : H' 592 = H 592) (e3 : H' 593 = H 593) (e4 : H' 590 2 = H 590 2 ∧ H' 590 4 = H 590 4) : REL H' := by
  obtain ⟨⟨S, n, r1, r2, r3, r4, r5⟩, t⟩ := h
  have g : ∀ c, 213 ≤ c → c ≤ 371 → H' c = H c := fun c _ _ => f c (by omega) (by omega) (by omega) (by omega) (by omega) (by omega)
  exact ⟨⟨S, n, by rw [e1]; exact r1, RC_lo2 r2 (fun c c0 c1 c2 c3 c4 c5 _ => f c c0 c1 c2 c3 c4 c5) f0, MCC_fr (fun c _ _ => g c (by omega) (by omega)) r3, by rw [e4.1]; exact r4, KPr_cell r5 e2⟩, TAP_fr t (by rw [g 213 (by decide) (by decide)]) (g 214 (by decide) (by decide)) e4.2 e3⟩
/-- a contract's places lie beside what both states say -/
noncomputable def mdOK (md : List Nat) : Bool := (List.range 594).all (fun c => (c == 0 || c == 44 || c == 45 || (Nat.ble 53 c && Nat.ble c 56) || (Nat.ble 372 c && Nat.ble c 467) || c == 589 || c == 590) || (Nat.blt (tau c) 1000 && !inmdA md (tau c))) && (Nat.blt (tau 0) 1000 && !inmd md (tau 0) 7 && !inmd md (tau 0) 8)
theorem REL_md {md : List Nat} {H H' : PH} (k : mdOK md = true) (h : REL H) (f : frm md H H') (r : RF H) (r' : RF H') (e4 : H' 590 2 = H 590 2 ∧ H' 590 4 = H 590 4) : REL H' := by
  unfold mdOK at k
  simp only [Bool.and_eq_true, Nat.blt_eq, Bool.not_eq_true'] at k
  obtain ⟨k1, ⟨k2, k3⟩, k4⟩ := k
  have g : ∀ c : Nat, c < 594 → ¬ c = 0 → ¬ c = 44 → ¬ c = 45 → ¬ (53 ≤ c ∧ c ≤ 56) → ¬ (372 ≤ c ∧ c ≤ 467) → ¬ c = 589 → ¬ c = 590 → H' (c : Int) = H (c : Int) := fun c c0 c1 c2 c3 c4 c5 c6 c7 => by
    have q := List.all_eq_true.mp k1 c (List.mem_range.mpr c0)
    simp only [Bool.or_eq_true, Bool.and_eq_true, beq_iff_eq, Nat.ble_eq, Nat.blt_eq, Bool.not_eq_true'] at q
    rcases q with q | q
    · omega
    · exact row_frm f r r' (by omega) q.1 q.2
  have gi : ∀ c : Int, c < 594 → ¬ c = 0 → ¬ c = 44 → ¬ c = 45 → ¬ (53 ≤ c ∧ c ≤ 56) → ¬ (372 ≤ c ∧ c ≤ 467) → ¬ c = 589 → ¬ c = 590 → H' c = H c := fun c c0 c1 c2 c3 c4 c5 c6 c7 => by
    by_cases p : 0 ≤ c
    · obtain ⟨m, rfl⟩ := Int.eq_ofNat_of_zero_le p
      exact g m (by omega) (by omega) (by omega) (by omega) (by omega) (by omega) (by omega) (by omega)
    · funext i
      have v : ¬ VA c i := fun w => p w.1
      rw [r'.2 c i v, r.2 c i v]
  exact REL_lo2 h (fun c c0 c1 c2 c3 c4 c5 => gi c (by omega) c1 c2 c3 c4 c5 (by omega) (by omega)) ⟨cel_frm f r r' (c := 0) (by decide) k2 k3, cel_frm f r r' (c := 0) (by decide) k2 k4⟩ (gi 591 (by decide) (by decide) (by decide) (by decide) (by decide) (by decide) (by decide) (by decide)) (gi 592 (by decide) (by decide) (by decide) (by decide) (by decide) (by decide) (by decide) (by decide)) (gi 593 (by decide) (by decide) (by decide) (by decide) (by decide) (by decide) (by decide) (by decide)) e4
