/-! ===== the two states, side by side ===== -/
theorem KWh_all : (List.range 622).all (fun c => !Nat.beq (zSh c).1 4 || Nat.blt c 588) = true := by decide +kernel
theorem KWh {w : Int} (h : KW w) : 0 ≤ w ∧ w < 588 := by
  have h0 := h.1
  have h1 := h.2.1
  have g := List.all_eq_true.mp KWh_all w.toNat (List.mem_range.mpr (by omega))
  rw [h.2.2] at g
  simp only [Nat.beq_refl, Bool.not_true, Bool.false_or, Nat.blt_eq] at g
  omega
theorem KLh_all : (List.range 622).all (fun c => !Nat.beq (zSh c).1 5 || Nat.blt c 588) = true := by decide +kernel
theorem KLh {q : Int} (h : KL q) : 0 ≤ q ∧ q < 588 := by
  obtain ⟨h0, h1, h2⟩ := h
  have g := List.all_eq_true.mp KLh_all q.toNat (List.mem_range.mpr (by omega))
  rw [h2] at g
  simp only [Nat.beq_refl, Bool.not_true, Bool.false_or, Nat.blt_eq] at g
  omega
theorem RC_lo {H H' : PH} {S : Int → Int → Int} {n : Int} (r : RC H S n) (f : ∀ c, c < 589 → H' c = H c) : RC H' S n := by
  have ok := RC_sz r
  have ld := r.2.2.1
  have kq : ∀ q, KL q → H' q = H q ∧ H' (q + 1) = H (q + 1) := fun q hq => by
    have := KLh hq
    exact ⟨f q (by omega), f _ (by omega)⟩
  have kw : ∀ w, KW w → (H' w 2 = H w 2 ∧ H' w 3 = H w 3) ∧ H' (w + 1) = H (w + 1) := fun w hw => by
    have := KWh hw
    rw [f w (by omega)]
    exact ⟨⟨rfl, rfl⟩, f _ (by omega)⟩
  have ci := CI_fr ok.1 r.1 (fun c hc => f c (by omega)) kq kw
  have gl : GFL H H' := GFL_of ld (by rw [f 0 (by decide)]; exact ⟨rfl, rfl⟩) (f 47 (by decide)) (by rw [f 1 (by decide)]; exact ⟨rfl, rfl⟩) (fun l l0 l1 => f _ (by omega)) kw (fun q hq _ => kq q hq)
  exact RC_fr r ci (CPr_fr (f 42 (by decide)) (f 43 (by decide)) r.2.1) gl
/-- the kept rows as the class's undone ones, the newest first -/
def kpS (S : Int → Int → Int) (n : Int) : Int → Int → Int := fun j => S (n - j)
/-- one state, said twice -/
def RLn (H : PH) (S : Int → Int → Int) (n : Int) : Prop := S 0 = H 591 ∧ RC H S n ∧ MCC (S 0) H ∧ H 590 2 = n ∧ KPr (kpS S n) n H
/-- one tape, said twice -/
def TAP (H : PH) : Prop := ∃ (sz : Int) (w : Int → Int), H 213 1 = sz ∧ H 214 = w ∧ H 590 4 = sz ∧ (0 ≤ sz ∧ sz ≤ 600) ∧ (∀ i, 0 ≤ i → i < sz → 0 ≤ w i ∧ w i ≤ 255) ∧ ∀ i, 0 ≤ i → i < sz → q2 (· &&& ·) (H 593 i) 255 = w i
def REL (H : PH) : Prop := (∃ S n, RLn H S n) ∧ TAP H
theorem TAP_fr {H H' : PH} (t : TAP H) (h1 : H' 213 1 = H 213 1) (h2 : H' 214 = H 214) (h3 : H' 590 4 = H 590 4) (h4 : H' 593 = H 593) : TAP H' := by
  obtain ⟨sz, w, a, b, c, d, e, f⟩ := t
  exact ⟨sz, w, by rw [h1]; exact a, by rw [h2]; exact b, by rw [h3]; exact c, d, e, by rw [h4]; exact f⟩
theorem TAP_0 {H : PH} (h1 : H 213 1 = 0) (h3 : H 590 4 = 0) : TAP H := ⟨0, H 214, h1, rfl, h3, by decide, fun i i0 i1 => by omega, fun i i0 i1 => by omega⟩
theorem REL_sz {H : PH} (h : REL H) : H 213 1 = H 590 4 := by
  obtain ⟨_, sz, w, a, _, b, _⟩ := h
  rw [a, b]
/-- what the class's part leaves for the model's -/
theorem RL_mid {H H1 : PH} {S : Int → Int → Int} {n : Int} (r : RLn H S n) (o : OF H H1) : H1 591 = S 0 ∧ H1 590 2 = n ∧ KPr (kpS S n) n H1 ∧ OKR (H1 591) ∧ (0 ≤ n ∧ n ≤ 20) := by
  obtain ⟨r1, r2, r3, r4, r5⟩ := r
  have e : H1 591 = S 0 := by rw [o.1 591 (by decide)]; exact r1.symm
  exact ⟨e, by rw [o.1 590 (by decide)]; exact r4, KPr_cell r5 (o.1 592 (by decide)), by rw [e]; exact RC_sz r2, r2.2.2.2.1.1⟩
theorem kpS_cns {S : Int → Int → Int} {n : Int} {B A : Int → Int} {H : PH} (hn : 0 ≤ n ∧ n ≤ 20) (e : S 0 = A) (h : KPr (kpU (kpS S n) n A) (min 20 (n + 1)) H) : KPr (kpS (cns B S) (min 20 (n + 1))) (min 20 (n + 1)) H := by
  refine KPr_eq h (fun j k j0 j1 _ _ => ?_)
  unfold kpU kpS cns
  rw [if_neg (show ¬ (min 20 (n + 1) - j ≤ 0) by omega)]
  by_cases q : j = min 20 (n + 1) - 1
  · rw [if_pos q, show min 20 (n + 1) - j - 1 = 0 by omega, e]
  · rw [if_neg q]
    split
    · rename_i n20
      rw [show min 20 (n + 1) - j - 1 = n - (j + 1) by omega]
    · rw [show min 20 (n + 1) - j - 1 = n - j by omega]
theorem RL_set {H1 H2 : PH} {S : Int → Int → Int} {n : Int} {B : Int → Int} (hn : 0 ≤ n ∧ n ≤ 20) (e1 : H1 591 = S 0) (rc : RC H1 (cns B S) (min 20 (n + 1))) (mc : MCC B H1) (md : MDs H1 H2 (kpS S n) n B) : RLn H2 (cns B S) (min 20 (n + 1)) := by
  obtain ⟨m1, m2, m3, m4, m5⟩ := md
  exact ⟨m3.symm, RC_lo rc (fun c hc => m1.1 c (by omega)), MCC_fr (fun c _ _ => m1.1 c (by omega)) mc, m4, kpS_cns hn e1.symm m5⟩
theorem RL_low {H1 H2 : PH} {S : Int → Int → Int} {n : Int} (r : RLn H1 S n) (f : ∀ c, c < 589 → H2 c = H1 c) (e1 : H2 591 = H1 591) (e2 : H2 592 = H1 592) (e3 : H2 590 2 = H1 590 2) : RLn H2 S n := by
  obtain ⟨r1, r2, r3, r4, r5⟩ := r
  exact ⟨by rw [e1]; exact r1, RC_lo r2 f, MCC_fr (fun c _ _ => f c (by omega)) r3, by rw [e3]; exact r4, KPr_cell r5 e2⟩
theorem RL_CQ {H H1 : PH} {S : Int → Int → Int} {n : Int} (r : RLn H S n) (c : CQ H H1 S n) : RLn H1 S n := by
  obtain ⟨r1, r2, r3, r4, r5⟩ := r
  obtain ⟨c1, c2, c3, c4, c5⟩ := c
  exact ⟨by rw [c3.1 591 (by decide)]; exact r1, c1, c2, by rw [c3.1 590 (by decide)]; exact r4, KPr_cell r5 (c3.1 592 (by decide))⟩
theorem REL_CQ {H H1 : PH} {S : Int → Int → Int} {n : Int} (r : RLn H S n) (t : TAP H) (c : CQ H H1 S n) : REL H1 := ⟨⟨S, n, RL_CQ r c⟩, TAP_fr t c.2.2.2.1 c.2.2.1.2.2 (by rw [c.2.2.1.1 590 (by decide)]) (c.2.2.1.1 593 (by decide))⟩
theorem REL_MQ {H1 H2 : PH} (r : REL H1) (m : MQs H1 H2) : REL H2 := by
  obtain ⟨⟨S, n, r⟩, t⟩ := r
  obtain ⟨m1, m2, m3, m4, m5⟩ := m
  exact ⟨⟨S, n, RL_low r (fun c hc => m1.1 c (by omega)) m3 m5 m4⟩, TAP_fr t (by rw [m1.1 213 (by decide)]) (m1.1 214 (by decide)) m2 m1.2.2⟩
theorem TAP_mid {H H1 H2 : PH} (t : TAP H) (o : OF H H1) (c : H1 213 1 = H 213 1) (m : MO H1 H2) (m4 : H2 590 4 = H1 590 4) : TAP H2 := TAP_fr t (by rw [m.1 213 (by decide)]; exact c) (by rw [m.1 214 (by decide)]; exact o.2.2) (by rw [m4, o.1 590 (by decide)]) (by rw [m.2.2]; exact o.1 593 (by decide))
theorem REL_DD {H H1 H2 : PH} {S : Int → Int → Int} {n : Int} {B B2 : Int → Int} (r : RLn H S n) (t : TAP H) (cd : CD H H1 S n B) (md : MDs H1 H2 (kpS S n) n B2) (e : B2 = B) : REL H2 := by
  obtain ⟨c1, c2, c3, c4, c5⟩ := cd
  obtain ⟨x1, x2, x3, x4, x5⟩ := RL_mid r c3
  exact ⟨⟨_, _, RL_set x5 x1 c1 c2 (e ▸ md)⟩, TAP_mid t c3 c4 md.1 md.2.1⟩
/-- a call of the class and one of the model: answers alike, states side by side -/
def PAIR (mj : Nat) (as : List pv) (mm : Nat) (bs : List pv) (H : PH) : Prop := SPEC mj as H (fun r H1 => (∃ v, r = some (0, v)) ∧ SPEC mm bs H1 (fun r' H2 => r' = r ∧ REL H2))
/-- the states alone -/
def PAIR0 (mj : Nat) (as : List pv) (mm : Nat) (bs : List pv) (H : PH) : Prop := SPEC mj as H (fun r H1 => (∃ v, r = some (0, v)) ∧ SPEC mm bs H1 (fun r' H2 => (∃ v, r' = some (0, v)) ∧ REL H2))
theorem pr_limit (v : Int) (H : PH) (h : REL H) : PAIR 124 [(2, 0), (0, v)] 230 [(2, 590), (0, v)] H := by
  obtain ⟨⟨S, n, rl⟩, tp⟩ := h
  intro E N res hh
  obtain ⟨r, H1, g, p⟩ := sp_c_limit v S n H rl.2.1 E N res hh
  refine ⟨r, H1, g, ?_⟩
  rcases p with ⟨q, rfl, cd⟩ | ⟨q, rfl, rfl⟩
  · refine ⟨⟨_, rfl⟩, ?_⟩
    obtain ⟨x1, x2, x3, x4, x5⟩ := RL_mid rl cd.2.2.1
    intro E N res hh
    obtain ⟨r', H2, g', p'⟩ := sp_m_limit v (kpS S n) n H1 x5 x2 x3 E N res hh
    refine ⟨r', H2, g', ?_⟩
    rcases p' with ⟨q', rfl, md⟩ | ⟨q', _⟩
    · exact ⟨by rw [x1], REL_DD rl tp cd md (by rw [x1])⟩
    · exact absurd q (by first | exact q' | (rw [x1] at q'; exact q'))
  · refine ⟨⟨_, rfl⟩, ?_⟩
    obtain ⟨x1, x2, x3, x4, x5⟩ := RL_mid rl (OF_refl (H := H1))
    intro E N res hh
    obtain ⟨r', H2, g', p'⟩ := sp_m_limit v (kpS S n) n H1 x5 x2 x3 E N res hh
    refine ⟨r', H2, g', ?_⟩
    rcases p' with ⟨q', rfl, md⟩ | ⟨q', rfl, rfl⟩
    · exact absurd (by first | exact q' | (rw [x1] at q'; exact q')) q
    · exact ⟨rfl, ⟨S, n, rl⟩, tp⟩
theorem pr_far (v : Int) (H : PH) (h : REL H) : PAIR 125 [(2, 0), (0, v)] 231 [(2, 590), (0, v)] H := by
  obtain ⟨⟨S, n, rl⟩, tp⟩ := h
  intro E N res hh
  obtain ⟨r, H1, g, p⟩ := sp_c_far v S n H rl.2.1 E N res hh
  refine ⟨r, H1, g, ?_⟩
  rcases p with ⟨q, rfl, cd⟩ | ⟨q, rfl, rfl⟩
  · refine ⟨⟨_, rfl⟩, ?_⟩
    obtain ⟨x1, x2, x3, x4, x5⟩ := RL_mid rl cd.2.2.1
    intro E N res hh
    obtain ⟨r', H2, g', p'⟩ := sp_m_far v (kpS S n) n H1 x5 x2 x3 E N res hh
    refine ⟨r', H2, g', ?_⟩
    rcases p' with ⟨q', rfl, md⟩ | ⟨q', _⟩
    · exact ⟨by rw [x1], REL_DD rl tp cd md (by rw [x1])⟩
    · exact absurd q (by first | exact q' | (rw [x1] at q'; exact q'))
  · refine ⟨⟨_, rfl⟩, ?_⟩
    obtain ⟨x1, x2, x3, x4, x5⟩ := RL_mid rl (OF_refl (H := H1))
    intro E N res hh
    obtain ⟨r', H2, g', p'⟩ := sp_m_far v (kpS S n) n H1 x5 x2 x3 E N res hh
    refine ⟨r', H2, g', ?_⟩
    rcases p' with ⟨q', rfl, md⟩ | ⟨q', rfl, rfl⟩
    · exact absurd (by first | exact q' | (rw [x1] at q'; exact q')) q
    · exact ⟨rfl, ⟨S, n, rl⟩, tp⟩
theorem pr_pack (v : Int) (H : PH) (h : REL H) : PAIR 126 [(2, 0), (0, v)] 232 [(2, 590), (0, v)] H := by
  obtain ⟨⟨S, n, rl⟩, tp⟩ := h
  intro E N res hh
  obtain ⟨r, H1, g, p⟩ := sp_c_pack v S n H rl.2.1 E N res hh
  refine ⟨r, H1, g, ?_⟩
  rcases p with ⟨q, rfl, cd⟩ | ⟨q, rfl, rfl⟩
  · refine ⟨⟨_, rfl⟩, ?_⟩
    obtain ⟨x1, x2, x3, x4, x5⟩ := RL_mid rl cd.2.2.1
    intro E N res hh
    obtain ⟨r', H2, g', p'⟩ := sp_m_pack v (kpS S n) n H1 x5 x2 x3 E N res hh
    refine ⟨r', H2, g', ?_⟩
    rcases p' with ⟨q', rfl, md⟩ | ⟨q', _⟩
    · exact ⟨by rw [x1], REL_DD rl tp cd md (by rw [x1])⟩
    · exact absurd q (by first | exact q' | (rw [x1] at q'; exact q'))
  · refine ⟨⟨_, rfl⟩, ?_⟩
    obtain ⟨x1, x2, x3, x4, x5⟩ := RL_mid rl (OF_refl (H := H1))
    intro E N res hh
    obtain ⟨r', H2, g', p'⟩ := sp_m_pack v (kpS S n) n H1 x5 x2 x3 E N res hh
    refine ⟨r', H2, g', ?_⟩
    rcases p' with ⟨q', rfl, md⟩ | ⟨q', rfl, rfl⟩
    · exact absurd (by first | exact q' | (rw [x1] at q'; exact q')) q
    · exact ⟨rfl, ⟨S, n, rl⟩, tp⟩
theorem pr_days (v : Int) (H : PH) (h : REL H) : PAIR 135 [(2, 0), (0, v)] 253 [(2, 590), (0, v)] H := by
  obtain ⟨⟨S, n, rl⟩, tp⟩ := h
  intro E N res hh
  obtain ⟨r, H1, g, p⟩ := sp_c_days v S n H rl.2.1 E N res hh
  refine ⟨r, H1, g, ?_⟩
  rcases p with ⟨q, rfl, cd⟩ | ⟨q, rfl, rfl⟩
  · refine ⟨⟨_, rfl⟩, ?_⟩
    obtain ⟨x1, x2, x3, x4, x5⟩ := RL_mid rl cd.2.2.1
    intro E N res hh
    obtain ⟨r', H2, g', p'⟩ := sp_m_days v (kpS S n) n H1 x4 x5 x2 x3 E N res hh
    refine ⟨r', H2, g', ?_⟩
    rcases p' with ⟨q', rfl, md⟩ | ⟨q', _⟩
    · exact ⟨by rw [x1], REL_DD rl tp cd md (by rw [x1])⟩
    · exact absurd q (by first | exact q' | (rw [x1] at q'; exact q'))
  · refine ⟨⟨_, rfl⟩, ?_⟩
    obtain ⟨x1, x2, x3, x4, x5⟩ := RL_mid rl (OF_refl (H := H1))
    intro E N res hh
    obtain ⟨r', H2, g', p'⟩ := sp_m_days v (kpS S n) n H1 x4 x5 x2 x3 E N res hh
    refine ⟨r', H2, g', ?_⟩
    rcases p' with ⟨q', rfl, md⟩ | ⟨q', rfl, rfl⟩
    · exact absurd (by first | exact q' | (rw [x1] at q'; exact q')) q
    · exact ⟨rfl, ⟨S, n, rl⟩, tp⟩
theorem pr_rate (v u : Int) (H : PH) (h : REL H) : PAIR 136 [(2, 0), (0, v), (0, u)] 255 [(2, 590), (0, v), (0, u)] H := by
  obtain ⟨⟨S, n, rl⟩, tp⟩ := h
  intro E N res hh
  obtain ⟨r, H1, g, p⟩ := sp_c_rate v u S n H rl.2.1 E N res hh
  refine ⟨r, H1, g, ?_⟩
  rcases p with ⟨q, rfl, cd⟩ | ⟨q, rfl, rfl⟩
  · refine ⟨⟨_, rfl⟩, ?_⟩
    obtain ⟨x1, x2, x3, x4, x5⟩ := RL_mid rl cd.2.2.1
    intro E N res hh
    obtain ⟨r', H2, g', p'⟩ := sp_m_rate v u (kpS S n) n H1 x5 x2 x3 E N res hh
    refine ⟨r', H2, g', ?_⟩
    rcases p' with ⟨q', rfl, md⟩ | ⟨q', _⟩
    · exact ⟨by rw [x1], REL_DD rl tp cd md (by rw [x1])⟩
    · exact absurd q (by first | exact q' | (rw [x1] at q'; exact q'))
  · refine ⟨⟨_, rfl⟩, ?_⟩
    obtain ⟨x1, x2, x3, x4, x5⟩ := RL_mid rl (OF_refl (H := H1))
    intro E N res hh
    obtain ⟨r', H2, g', p'⟩ := sp_m_rate v u (kpS S n) n H1 x5 x2 x3 E N res hh
    refine ⟨r', H2, g', ?_⟩
    rcases p' with ⟨q', rfl, md⟩ | ⟨q', rfl, rfl⟩
    · exact absurd (by first | exact q' | (rw [x1] at q'; exact q')) q
    · exact ⟨rfl, ⟨S, n, rl⟩, tp⟩
theorem pr_claim (b v : Int) (H : PH) (h : REL H) : PAIR 123 [(2, 0), (0, b), (0, v)] 229 [(2, 590), (0, b), (0, v)] H := by
  obtain ⟨⟨S, n, rl⟩, tp⟩ := h
  intro E N res hh
  obtain ⟨r, H1, g, p⟩ := sp_c_claim b v S n H rl.2.1 E N res hh
  refine ⟨r, H1, g, ?_⟩
  rcases p with ⟨q, rfl, cd⟩ | ⟨q, rfl, rfl⟩
  · refine ⟨⟨_, rfl⟩, ?_⟩
    obtain ⟨x1, x2, x3, x4, x5⟩ := RL_mid rl cd.2.2.1
    intro E N res hh
    obtain ⟨r', H2, g', p'⟩ := sp_m_claim b v (kpS S n) n H1 x4 x5 x2 x3 E N res hh
    refine ⟨r', H2, g', ?_⟩
    rcases p' with ⟨q', rfl, md⟩ | ⟨q', _⟩
    · exact ⟨by rw [x1], REL_DD rl tp cd md (by rw [x1])⟩
    · exact absurd q (by first | exact q' | (rw [x1] at q'; exact q'))
  · refine ⟨⟨_, rfl⟩, ?_⟩
    obtain ⟨x1, x2, x3, x4, x5⟩ := RL_mid rl (OF_refl (H := H1))
    intro E N res hh
    obtain ⟨r', H2, g', p'⟩ := sp_m_claim b v (kpS S n) n H1 x4 x5 x2 x3 E N res hh
    refine ⟨r', H2, g', ?_⟩
    rcases p' with ⟨q', rfl, md⟩ | ⟨q', rfl, rfl⟩
    · exact absurd (by first | exact q' | (rw [x1] at q'; exact q')) q
    · exact ⟨rfl, ⟨S, n, rl⟩, tp⟩
theorem pr_remark (b u v : Int) (H : PH) (h : REL H) : PAIR 121 [(2, 0), (0, b), (0, u), (0, v)] 226 [(2, 590), (0, b), (0, u), (0, v)] H := by
  obtain ⟨⟨S, n, rl⟩, tp⟩ := h
  intro E N res hh
  obtain ⟨r, H1, g, p⟩ := sp_c_remark b u v S n H rl.2.1 E N res hh
  refine ⟨r, H1, g, ?_⟩
  rcases p with ⟨q, rfl, cd⟩ | ⟨q, rfl, rfl⟩
  · refine ⟨⟨_, rfl⟩, ?_⟩
    obtain ⟨x1, x2, x3, x4, x5⟩ := RL_mid rl cd.2.2.1
    intro E N res hh
    obtain ⟨r', H2, g', p'⟩ := sp_m_remark b u v (kpS S n) n H1 x4 x5 x2 x3 E N res hh
    refine ⟨r', H2, g', ?_⟩
    rcases p' with ⟨q', rfl, md⟩ | ⟨q', _⟩
    · exact ⟨by rw [x1], REL_DD rl tp cd md (by rw [x1])⟩
    · exact absurd q (by first | exact q' | (rw [x1] at q'; exact q'))
  · refine ⟨⟨_, rfl⟩, ?_⟩
    obtain ⟨x1, x2, x3, x4, x5⟩ := RL_mid rl (OF_refl (H := H1))
    intro E N res hh
    obtain ⟨r', H2, g', p'⟩ := sp_m_remark b u v (kpS S n) n H1 x4 x5 x2 x3 E N res hh
    refine ⟨r', H2, g', ?_⟩
    rcases p' with ⟨q', rfl, md⟩ | ⟨q', rfl, rfl⟩
    · exact absurd (by first | exact q' | (rw [x1] at q'; exact q')) q
    · exact ⟨rfl, ⟨S, n, rl⟩, tp⟩
theorem pr_deliver (b v : Int) (H : PH) (h : REL H) : PAIR 137 [(2, 0), (0, b), (0, v)] 256 [(2, 590), (0, b), (0, v)] H := by
  obtain ⟨⟨S, n, rl⟩, tp⟩ := h
  intro E N res hh
  obtain ⟨r, H1, g, p⟩ := sp_c_deliver b v S n H rl.2.1 rl.2.2.1 E N res hh
  refine ⟨r, H1, g, ?_⟩
  rcases p with ⟨q, rfl, cd⟩ | ⟨q, rfl, cq⟩
  · refine ⟨⟨_, rfl⟩, ?_⟩
    obtain ⟨x1, x2, x3, x4, x5⟩ := RL_mid rl cd.2.2.1
    intro E N res hh
    obtain ⟨r', H2, g', p'⟩ := sp_m_deliver b v (kpS S n) n H1 x4 x5 x2 x3 E N res hh
    refine ⟨r', H2, g', ?_⟩
    rcases p' with ⟨q', rfl, md⟩ | ⟨q', _⟩
    · exact ⟨by rw [x1], REL_DD rl tp cd md (by rw [x1])⟩
    · exact absurd q (by first | exact q' | (rw [x1] at q'; exact q'))
  · refine ⟨⟨_, rfl⟩, ?_⟩
    obtain ⟨x1, x2, x3, x4, x5⟩ := RL_mid rl cq.2.2.1
    intro E N res hh
    obtain ⟨r', H2, g', p'⟩ := sp_m_deliver b v (kpS S n) n H1 x4 x5 x2 x3 E N res hh
    refine ⟨r', H2, g', ?_⟩
    rcases p' with ⟨q', rfl, md⟩ | ⟨q', rfl, mq⟩
    · exact absurd (by rw [x1] at q'; exact q') q
    · exact ⟨rfl, REL_MQ (REL_CQ rl tp cq) mq⟩
theorem pr_strike (k : Int) (H : PH) (h : REL H) : PAIR 141 [(2, 0), (0, k)] 266 [(2, 590), (0, k)] H := by
  obtain ⟨⟨S, n, rl⟩, tp⟩ := h
  intro E N res hh
  obtain ⟨r, H1, g, p⟩ := sp_c_strike k S n H rl.2.1 E N res hh
  refine ⟨r, H1, g, ?_⟩
  rcases p with ⟨q, rfl, cd⟩ | ⟨q, rfl, rfl⟩
  · refine ⟨⟨_, rfl⟩, ?_⟩
    obtain ⟨x1, x2, x3, x4, x5⟩ := RL_mid rl cd.2.2.1
    intro E N res hh
    obtain ⟨r', H2, g', p'⟩ := sp_m_strike k (kpS S n) n H1 x4 x5 x2 x3 E N res hh
    refine ⟨r', H2, g', ?_⟩
    rcases p' with ⟨q', rfl, md⟩ | ⟨q', _⟩
    · exact ⟨by rw [x1], REL_DD rl tp cd md (by rw [x1])⟩
    · exact absurd q (by first | exact q' | (rw [x1] at q'; exact q'))
  · refine ⟨⟨_, rfl⟩, ?_⟩
    obtain ⟨x1, x2, x3, x4, x5⟩ := RL_mid rl (OF_refl (H := H1))
    intro E N res hh
    obtain ⟨r', H2, g', p'⟩ := sp_m_strike k (kpS S n) n H1 x4 x5 x2 x3 E N res hh
    refine ⟨r', H2, g', ?_⟩
    rcases p' with ⟨q', rfl, md⟩ | ⟨q', rfl, rfl⟩
    · exact absurd (by first | exact q' | (rw [x1] at q'; exact q')) q
    · exact ⟨rfl, ⟨S, n, rl⟩, tp⟩
/-- a row said anew by the model: its places as the class's -/
theorem RL_row {H1 H2 : PH} {S : Int → Int → Int} {n : Int} (rc : RC H1 S n) (mc : MCC (S 0) H1) (f : ∀ c, c < 589 → H2 c = H1 c) (e : ∀ j, 0 ≤ j → j < 1124 → H2 591 j = S 0 j) (h2 : H2 590 2 = n) (kp : KPr (kpS S n) n H2) : RLn H2 (hd0 (H2 591) S) n := by
  have ok := RC_sz rc
  have g : AG (S 0) (H2 591) := fun j j0 j1 => (e j j0 j1).symm
  have rc2 := RC_hd (RC_lo rc f) g
  have s0 : hd0 (H2 591) S 0 = H2 591 := if_pos (by decide)
  refine ⟨s0, rc2, ?_, h2, KPr_eq kp (fun j k j0 j1 _ _ => ?_)⟩
  · rw [s0]
    exact AT_MCC (AT_AG ok.1.2.1.1 g) ok (MCC_fr (fun c _ _ => f c (by omega)) mc)
  · unfold kpS hd0
    rw [if_neg (by omega)]
theorem pr_text (H : PH) (h : REL H) : PAIR 107 [(2, 0)] 182 [(2, 590)] H := by
  obtain ⟨⟨S, n, rl⟩, sz, w, t1, t2, t3, t4, t5, t6⟩ := h
  have ok0 := RC_sz rl.2.1
  have okT : ∀ m B', txK sz w m 0 (S 0) B' → OKR B' := fun m B' k => OKR_tx t5 m 0 (S 0) B' (Int.le_refl _) ok0 k
  intro E N res hh
  obtain ⟨r, H1, g, p⟩ := sp_c_text sz w S n H rl.2.1 rl.2.2.1 t1 t2 t4 t5 okT E N res hh
  refine ⟨r, H1, g, ?_⟩
  rcases p with ⟨m, B', k, rfl, cd⟩ | ⟨k, rfl, cd⟩
  · refine ⟨⟨_, rfl⟩, ?_⟩
    obtain ⟨c1, c2, c3, c4, c5⟩ := cd
    obtain ⟨x1, x2, x3, x4, x5⟩ := RL_mid rl c3
    intro E N res hh
    obtain ⟨r', H2, g', f', p'⟩ := sp_X12_text sz w (S 0) (kpS S n) n H1 (by rw [c3.1 590 (by decide)]; exact t3) t4 t5 (by rw [c3.1 593 (by decide)]; exact t6) x1 ok0.1 x5 x2 x3 E N res hh
    refine ⟨r', H2, g', ?_⟩
    have fl : ∀ c, c < 589 → H2 c = H1 c := fun c hc => f'.1 c (by omega) (by omega) (by omega) (by omega)
    rcases p' with ⟨m', B2, k', rfl, q1, q2, q3⟩ | ⟨k', _⟩
    · obtain ⟨rfl, rfl⟩ := txK_inj m m' 0 (S 0) B' B2 k k'
      refine ⟨rfl, ⟨_, _, RL_row c1 c2 fl q1 q2 (kpS_cns x5 rfl q3)⟩, TAP_0 ?_ f'.2.2⟩
      rw [fl 213 (by decide)]
      exact c4
    · exact absurd k (k' m B')
  · refine ⟨⟨_, rfl⟩, ?_⟩
    obtain ⟨c1, c2, c3, c4, c5⟩ := cd
    obtain ⟨x1, x2, x3, x4, x5⟩ := RL_mid rl c3
    intro E N res hh
    obtain ⟨r', H2, g', f', p'⟩ := sp_X12_text sz w (S 0) (kpS S n) n H1 (by rw [c3.1 590 (by decide)]; exact t3) t4 t5 (by rw [c3.1 593 (by decide)]; exact t6) x1 ok0.1 x5 x2 x3 E N res hh
    refine ⟨r', H2, g', ?_⟩
    have fl : ∀ c, c < 589 → H2 c = H1 c := fun c hc => f'.1 c (by omega) (by omega) (by omega) (by omega)
    rcases p' with ⟨m', B2, k', _⟩ | ⟨k', rfl, q1, q2, q3⟩
    · exact absurd k' (k m' B2)
    · refine ⟨rfl, ⟨_, _, RL_row c1 c2 fl q1 q2 q3⟩, TAP_0 ?_ f'.2.2⟩
      rw [fl 213 (by decide)]
      exact c4
theorem pr_law (H : PH) (h : REL H) : PAIR 108 [(2, 0)] 189 [(2, 590)] H := by
  obtain ⟨⟨S, n, rl⟩, sz, w, t1, t2, t3, t4, t5, t6⟩ := h
  have ok0 := RC_sz rl.2.1
  intro E N res hh
  obtain ⟨r, H1, g, p⟩ := sp_c_law sz w S n H rl.2.1 rl.2.2.1 t1 t2 t4 t5 E N res hh
  refine ⟨r, H1, g, ?_⟩
  rcases p with ⟨q, k, rfl, cd⟩ | ⟨k, rfl, cd⟩
  · refine ⟨⟨_, rfl⟩, ?_⟩
    obtain ⟨c1, c2, c3, c4, c5⟩ := cd
    obtain ⟨x1, x2, x3, x4, x5⟩ := RL_mid rl c3
    intro E N res hh
    obtain ⟨r', H2, g', f', f4, p'⟩ := sp_X12_law sz w (S 0) (kpS S n) n H1 t5 (by rw [c3.1 590 (by decide)]; exact t3) t4 (by rw [c3.1 593 (by decide)]; exact t6) x1 x5 x2 x3 E N res hh
    refine ⟨r', H2, g', ?_⟩
    have fl : ∀ c, c < 589 → H2 c = H1 c := fun c hc => f'.1 c (by omega)
    rcases p' with ⟨q', k', rfl, q1, q2, q3⟩ | ⟨k', _⟩
    · have e := Option.some.inj (k.symm.trans k')
      subst e
      refine ⟨rfl, ⟨_, _, RL_row c1 c2 fl (fun j _ _ => by rw [q1]; rfl) q2 (kpS_cns x5 rfl q3)⟩, TAP_0 ?_ f4⟩
      rw [fl 213 (by decide)]
      exact c4
    · rw [k] at k'
      cases k'
  · refine ⟨⟨_, rfl⟩, ?_⟩
    obtain ⟨c1, c2, c3, c4, c5⟩ := cd
    obtain ⟨x1, x2, x3, x4, x5⟩ := RL_mid rl c3
    intro E N res hh
    obtain ⟨r', H2, g', f', f4, p'⟩ := sp_X12_law sz w (S 0) (kpS S n) n H1 t5 (by rw [c3.1 590 (by decide)]; exact t3) t4 (by rw [c3.1 593 (by decide)]; exact t6) x1 x5 x2 x3 E N res hh
    refine ⟨r', H2, g', ?_⟩
    have fl : ∀ c, c < 589 → H2 c = H1 c := fun c hc => f'.1 c (by omega)
    rcases p' with ⟨q', k', _⟩ | ⟨k', rfl, q1, q2, q3⟩
    · rw [k] at k'
      cases k'
    · refine ⟨rfl, ⟨_, _, RL_row c1 c2 fl (fun j _ _ => by rw [q1]) q2 q3⟩, TAP_0 ?_ f4⟩
      rw [fl 213 (by decide)]
      exact c4
theorem pr_back (H : PH) (h : REL H) : PAIR 142 [(2, 0)] 159 [(2, 590)] H := by
  obtain ⟨⟨S, n, rl⟩, tp⟩ := h
  intro E N res hh
  obtain ⟨r, H1, g, p⟩ := sp_c_back S n H rl.2.1 rl.2.2.1 E N res hh
  refine ⟨r, H1, g, ?_⟩
  rcases p with ⟨q, rfl, cb⟩ | ⟨q, rfl, rfl⟩
  · refine ⟨⟨_, rfl⟩, ?_⟩
    obtain ⟨c1, c2, c3, c4, c5⟩ := cb
    obtain ⟨x1, x2, x3, x4, x5⟩ := RL_mid rl c3
    intro E N res hh
    obtain ⟨r', H2, g', p'⟩ := sp_m_back (kpS S n) n H1 x5 x2 x3 E N res hh
    refine ⟨r', H2, g', ?_⟩
    rcases p' with ⟨q', rfl, m1, m2, m3, m4, m5⟩ | ⟨q', _⟩
    · refine ⟨rfl, ⟨_, _, RL_row (S := tlS1 S) c1 c2 (fun c hc => m1.1 c (by omega)) (fun j j0 j1 => ?_) m4 (KPr_eq m5 (fun j k j0 j1 _ _ => ?_))⟩, TAP_mid tp c3 c4 m1 m2⟩
      · rw [m3 j j0 j1]
        unfold kpS tlS1
        rw [show n - (n - 1) = 0 + 1 by omega]
      · unfold kpS tlS1
        rw [show n - 1 - j + 1 = n - j by omega]
    · omega
  · refine ⟨⟨_, rfl⟩, ?_⟩
    obtain ⟨x1, x2, x3, x4, x5⟩ := RL_mid rl (OF_refl (H := H1))
    intro E N res hh
    obtain ⟨r', H2, g', p'⟩ := sp_m_back (kpS S n) n H1 x5 x2 x3 E N res hh
    refine ⟨r', H2, g', ?_⟩
    rcases p' with ⟨q', _⟩ | ⟨q', rfl, rfl⟩
    · omega
    · exact ⟨rfl, ⟨S, n, rl⟩, tp⟩
theorem REL_MQc {H1 H2 : PH} (r : REL H1) (m : MQc H1 H2) : REL H2 := by
  obtain ⟨⟨S, n, r1, r2, r3, r4, r5⟩, t⟩ := r
  obtain ⟨m1, m2, m3, m4, m5, m6, m7⟩ := m
  have ok := RC_sz r2
  have g : AT (S 0) (H2 591) := by rw [r1]; exact m3
  have fl : ∀ c, c < 589 → H2 c = H1 c := fun c hc => m1.1 c (by omega)
  have s0 : hd0 (H2 591) S 0 = H2 591 := if_pos (by decide)
  refine ⟨⟨hd0 (H2 591) S, n, s0, RC_hdT (RC_lo r2 fl) g m7, ?_, by rw [m4]; exact r4, KPr_eq (KPr_cell r5 m5) (fun j k j0 j1 _ _ => ?_)⟩, TAP_fr t (by rw [m1.1 213 (by decide)]) (m1.1 214 (by decide)) m2 m1.2.2⟩
  · rw [s0]
    exact AT_MCC g ok (MCC_fr (fun c _ _ => fl c (by omega)) r3)
  · unfold kpS hd0
    rw [if_neg (by omega)]
theorem pr_cure (k : Int) (H : PH) (h : REL H) : PAIR0 140 [(2, 0), (0, k)] 265 [(2, 590), (0, k)] H := by
  obtain ⟨⟨S, n, rl⟩, tp⟩ := h
  intro E N res hh
  obtain ⟨r, H1, g, e, cq⟩ := sf_cure k S n H rl.2.1 rl.2.2.1 E N res hh
  refine ⟨r, H1, g, e, ?_⟩
  obtain ⟨x1, x2, x3, x4, x5⟩ := RL_mid rl cq.2.2.1
  intro E N res hh
  obtain ⟨r', H2, g', e', mq⟩ := sf_mCure k H1 x4 E N res hh
  exact ⟨r', H2, g', e', REL_MQc (REL_CQ rl tp cq) mq⟩
