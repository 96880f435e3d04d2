/-! ===== the law's calls, both states side by side ===== -/
theorem t_i {r : Option pv} {p : pv} (h : ∃ v : Int, r = some (0, v)) (e : r = some p) : p.1 ≤ 2 := by
  obtain ⟨v, h⟩ := h
  rw [h] at e
  cases e
  exact Nat.zero_le 2
theorem pokA (vs : List Int) (c : Int) (h0 : 0 ≤ c) (h1 : c < 622) (h : ∀ x ∈ vs, zIn x) : pokS ((2, c) :: vs.map (fun v => ((0 : Nat), v))) := fun p hp => by
  rcases List.mem_cons.mp hp with e | e
  · rw [e]
    show -2 ≤ c
    omega
  · obtain ⟨v, hv, e⟩ := List.mem_map.mp e
    rw [← e]
    exact h v hv
theorem rc_feed {G : zG} {us : Nat} {g : Nat → Nat → Int} (a0 : Int) (a1 : Int) (a2 : Int) (a3 : Int) (a4 : Int) (H : PH) (h : TI g H) (hr : REL H) (za0 : zIn a0) (za1 : zIn a1) (za2 : zIn a2) (za3 : zIn a3) (za4 : zIn a4) : Ca G us 2 105 [(2, 0), (0, a0), (0, a1), (0, a2), (0, a3), (0, a4)] H (fun r H' => ∃ v, r = some (0, v) ∧ TI g H' ∧ SPEC 161 [(2, 590), (0, a0), (0, a1), (0, a2), (0, a3), (0, a4)] H' (fun r' H2 => r' = some (0, v) ∧ REL H2)) := by
  refine Ca_mono (Nat.le_refl _) ?_ (Ca_spec (qc_feed a0 a1 a2 a3 a4 H h za0 za1 za2 za3 za4) (pr_feed a0 a1 a2 a3 a4 H hr) (pokA [a0, a1, a2, a3, a4] 0 (by decide) (by decide) (by intro x hx; simp only [List.mem_cons, List.not_mem_nil, or_false] at hx; rcases hx with rfl | rfl | rfl | rfl | rfl <;> assumption)) (fun p H' q => ?_) (fun p H' q => t_i q.1 rfl))
  · rintro r H' ⟨⟨v, e, ti, _⟩, _, s⟩
    rw [e] at s
    exact ⟨v, e, ti, s⟩
  · exact t_i ⟨_, q.choose_spec.1⟩ rfl
theorem rm_feed {G : zG} {us : Nat} {g : Nat → Nat → Int} (a0 : Int) (a1 : Int) (a2 : Int) (a3 : Int) (a4 : Int) (v : Int) (H : PH) (h : TI g H) (hs : SPEC 161 [(2, 590), (0, a0), (0, a1), (0, a2), (0, a3), (0, a4)] H (fun r' H2 => r' = some (0, v) ∧ REL H2)) (za0 : zIn a0) (za1 : zIn a1) (za2 : zIn a2) (za3 : zIn a3) (za4 : zIn a4) : Ca G us 2 161 [(2, 590), (0, a0), (0, a1), (0, a2), (0, a3), (0, a4)] H (fun r H' => r = some (0, v) ∧ TI g H' ∧ REL H') := by
  refine Ca_mono (Nat.le_refl _) ?_ (Ca_spec (qm_feed a0 a1 a2 a3 a4 H h za0 za1 za2 za3 za4) hs (pokA [a0, a1, a2, a3, a4] 590 (by decide) (by decide) (by intro x hx; simp only [List.mem_cons, List.not_mem_nil, or_false] at hx; rcases hx with rfl | rfl | rfl | rfl | rfl <;> assumption)) (fun p H' q => ?_) (fun p H' q => t_i ⟨_, q.1⟩ rfl))
  · rintro r H' ⟨⟨_, _, ti, _⟩, s⟩
    exact ⟨s.1, ti, s.2⟩
  · exact t_i ⟨_, q.choose_spec.1⟩ rfl
theorem rc_end {G : zG} {us : Nat} {g : Nat → Nat → Int} (a0 : Int) (H : PH) (h : TI g H) (hr : REL H) (za0 : zIn a0) : Ca G us 2 106 [(2, 0), (0, a0)] H (fun r H' => ∃ v, r = some (0, v) ∧ TI g H' ∧ SPEC 162 [(2, 590), (0, a0)] H' (fun r' H2 => r' = some (0, v) ∧ REL H2)) := by
  refine Ca_mono (Nat.le_refl _) ?_ (Ca_spec (qc_end a0 H h za0) (pr_end a0 H hr) (pokA [a0] 0 (by decide) (by decide) (by intro x hx; simp only [List.mem_cons, List.not_mem_nil, or_false] at hx; rcases hx with rfl <;> assumption)) (fun p H' q => ?_) (fun p H' q => t_i q.1 rfl))
  · rintro r H' ⟨⟨v, e, ti, _⟩, _, s⟩
    rw [e] at s
    exact ⟨v, e, ti, s⟩
  · exact t_i ⟨_, q.choose_spec.1⟩ rfl
theorem rm_end {G : zG} {us : Nat} {g : Nat → Nat → Int} (a0 : Int) (v : Int) (H : PH) (h : TI g H) (hs : SPEC 162 [(2, 590), (0, a0)] H (fun r' H2 => r' = some (0, v) ∧ REL H2)) (za0 : zIn a0) : Ca G us 2 162 [(2, 590), (0, a0)] H (fun r H' => r = some (0, v) ∧ TI g H' ∧ REL H') := by
  refine Ca_mono (Nat.le_refl _) ?_ (Ca_spec (qm_end a0 H h za0) hs (pokA [a0] 590 (by decide) (by decide) (by intro x hx; simp only [List.mem_cons, List.not_mem_nil, or_false] at hx; rcases hx with rfl <;> assumption)) (fun p H' q => ?_) (fun p H' q => t_i ⟨_, q.1⟩ rfl))
  · rintro r H' ⟨⟨_, _, ti, _⟩, s⟩
    exact ⟨s.1, ti, s.2⟩
  · exact t_i ⟨_, q.choose_spec.1⟩ rfl
theorem rc_text {G : zG} {us : Nat} {g : Nat → Nat → Int} (H : PH) (h : TI g H) (hr : REL H) : Ca G us 13 107 [(2, 0)] H (fun r H' => ∃ v, r = some (0, v) ∧ TI g H' ∧ SPEC 182 [(2, 590)] H' (fun r' H2 => r' = some (0, v) ∧ REL H2)) := by
  refine Ca_mono (Nat.le_refl _) ?_ (Ca_spec (qc_text  H h ) (pr_text  H hr) (pokA [] 0 (by decide) (by decide) (by intro x hx; cases hx)) (fun p H' q => ?_) (fun p H' q => t_i q.1 rfl))
  · rintro r H' ⟨⟨⟨v, e⟩, ti, _⟩, _, s⟩
    rw [e] at s
    exact ⟨v, e, ti, s⟩
  · exact t_i q.1 rfl
theorem rm_text {G : zG} {us : Nat} {g : Nat → Nat → Int} (v : Int) (H : PH) (h : TI g H) (hs : SPEC 182 [(2, 590)] H (fun r' H2 => r' = some (0, v) ∧ REL H2)) : Ca G us 6 182 [(2, 590)] H (fun r H' => r = some (0, v) ∧ TI g H' ∧ REL H') := by
  refine Ca_mono (Nat.le_refl _) ?_ (Ca_spec (qm_text  H h ) hs (pokA [] 590 (by decide) (by decide) (by intro x hx; cases hx)) (fun p H' q => ?_) (fun p H' q => t_i ⟨_, q.1⟩ rfl))
  · rintro r H' ⟨⟨_, ti, _⟩, s⟩
    exact ⟨s.1, ti, s.2⟩
  · exact t_i q.1 rfl
theorem rc_law {G : zG} {us : Nat} {g : Nat → Nat → Int} (H : PH) (h : TI g H) (hr : REL H) : Ca G us 31 108 [(2, 0)] H (fun r H' => ∃ v, r = some (0, v) ∧ TI g H' ∧ SPEC 189 [(2, 590)] H' (fun r' H2 => r' = some (0, v) ∧ REL H2)) := by
  refine Ca_mono (Nat.le_refl _) ?_ (Ca_spec (qc_law  H h ) (pr_law  H hr) (pokA [] 0 (by decide) (by decide) (by intro x hx; cases hx)) (fun p H' q => ?_) (fun p H' q => t_i q.1 rfl))
  · rintro r H' ⟨⟨⟨v, e⟩, ti, _⟩, _, s⟩
    rw [e] at s
    exact ⟨v, e, ti, s⟩
  · exact t_i q.1 rfl
theorem rm_law {G : zG} {us : Nat} {g : Nat → Nat → Int} (v : Int) (H : PH) (h : TI g H) (hs : SPEC 189 [(2, 590)] H (fun r' H2 => r' = some (0, v) ∧ REL H2)) : Ca G us 5 189 [(2, 590)] H (fun r H' => r = some (0, v) ∧ TI g H' ∧ REL H') := by
  refine Ca_mono (Nat.le_refl _) ?_ (Ca_spec (qm_law  H h ) hs (pokA [] 590 (by decide) (by decide) (by intro x hx; cases hx)) (fun p H' q => ?_) (fun p H' q => t_i ⟨_, q.1⟩ rfl))
  · rintro r H' ⟨⟨_, ti, _⟩, s⟩
    exact ⟨s.1, ti, s.2⟩
  · exact t_i q.1 rfl
theorem rc_fault {G : zG} {us : Nat} {g : Nat → Nat → Int} (H : PH) (h : TI g H) (hr : REL H) : Ca G us 1 109 [(2, 0)] H (fun r H' => ∃ v, r = some (0, v) ∧ TI g H' ∧ REL H') := by
  refine Ca_mono (Nat.le_refl _) ?_ (Ca_rf (ct_X11_fault G us (gH H) H _ (GOK_gH h.2.2) (WT_self h.1) ⟨sref 0 (by decide) rfl, trivial⟩ (fun f hf => by cases hf)))
  rintro r H' ⟨q, r1, r2⟩
  obtain ⟨⟨v, e⟩, ti, _⟩ := qfin h q.1 q.2.1
  exact ⟨v, e, ti, REL_md (by decide +kernel) hr q.2.2.2.1 r1 r2 ⟨(SM_frz q.1).1.1, (SM_frz q.1).2⟩⟩
theorem rm_fault {G : zG} {us : Nat} {g : Nat → Nat → Int} (H : PH) (h : TI g H) (hr : REL H) : Ca G us 1 168 [(2, 590)] H (fun r H' => ∃ v, r = some (0, v) ∧ TI g H' ∧ REL H') := by
  refine Ca_mono (Nat.le_refl _) ?_ (Ca_rf (ct_X12_fault G us (gH H) H _ (GOK_gH h.2.2) (WT_self h.1) ⟨sref 590 (by decide) rfl, trivial⟩ (fun f hf => by cases hf)))
  rintro r H' ⟨q, r1, r2⟩
  obtain ⟨⟨v, e⟩, ti, _⟩ := qfin h q.1 q.2.1
  exact ⟨v, e, ti, REL_md (by decide +kernel) hr q.2.2.2.1 r1 r2 ⟨(SM_frz q.1).1.1, (SM_frz q.1).2⟩⟩
theorem rc_is {G : zG} {us : Nat} {g : Nat → Nat → Int} (a0 : Int) (H : PH) (h : TI g H) (hr : REL H) (za0 : zIn a0) : Ca G us 6 110 [(2, 0), (0, a0)] H (fun r H' => ∃ v, r = some (0, v) ∧ TI g H' ∧ REL H') := by
  refine Ca_mono (Nat.le_refl _) ?_ (Ca_spec (qc_is a0 H h za0) (rq_is a0 H hr) (pokA [a0] 0 (by decide) (by decide) (by intro x hx; simp only [List.mem_cons, List.not_mem_nil, or_false] at hx; rcases hx with rfl <;> assumption)) (fun p H' q => t_i q.1 rfl) (fun p H' q => t_i q.1 rfl))
  rintro r H' ⟨⟨⟨v, e⟩, ti, _⟩, _, s⟩
  exact ⟨v, e, ti, s⟩
theorem rm_is {G : zG} {us : Nat} {g : Nat → Nat → Int} (a0 : Int) (H : PH) (h : TI g H) (hr : REL H) (za0 : zIn a0) : Ca G us 9 210 [(2, 590), (0, a0)] H (fun r H' => ∃ v, r = some (0, v) ∧ TI g H' ∧ REL H') := by
  refine Ca_mono (Nat.le_refl _) ?_ (Ca_rf (ct_X12_is G us (gH H) H _ (GOK_gH h.2.2) (WT_self h.1) ⟨sref 590 (by decide) rfl, vin za0.1 (zIn_hi za0), trivial⟩ (fun f hf => by cases hf)))
  rintro r H' ⟨q, r1, r2⟩
  obtain ⟨⟨v, e⟩, ti, _⟩ := qfin h q.1 q.2.1
  exact ⟨v, e, ti, REL_md (by decide +kernel) hr q.2.2.2.1 r1 r2 ⟨(SM_frz q.1).1.1, (SM_frz q.1).2⟩⟩
theorem rc_bill {G : zG} {us : Nat} {g : Nat → Nat → Int} (a0 : Int) (a1 : Int) (H : PH) (h : TI g H) (hr : REL H) (za0 : zIn a0) (za1 : zIn a1) : Ca G us 3 111 [(2, 0), (0, a0), (0, a1)] H (fun r H' => ∃ v, r = some (0, v) ∧ TI g H' ∧ REL H') := by
  refine Ca_mono (Nat.le_refl _) ?_ (Ca_rf (ct_X11_bill G us (gH H) H _ (GOK_gH h.2.2) (WT_self h.1) ⟨sref 0 (by decide) rfl, vin za0.1 (zIn_hi za0), vin za1.1 (zIn_hi za1), trivial⟩ (fun f hf => by cases hf)))
  rintro r H' ⟨q, r1, r2⟩
  obtain ⟨⟨v, e⟩, ti, _⟩ := qfin h q.1 q.2.1
  exact ⟨v, e, ti, REL_md (by decide +kernel) hr q.2.2.2.1 r1 r2 ⟨(SM_frz q.1).1.1, (SM_frz q.1).2⟩⟩
theorem rm_bill {G : zG} {us : Nat} {g : Nat → Nat → Int} (a0 : Int) (a1 : Int) (H : PH) (h : TI g H) (hr : REL H) (za0 : zIn a0) (za1 : zIn a1) : Ca G us 3 211 [(2, 590), (0, a0), (0, a1)] H (fun r H' => ∃ v, r = some (0, v) ∧ TI g H' ∧ REL H') := by
  refine Ca_mono (Nat.le_refl _) ?_ (Ca_rf (ct_X12_bill G us (gH H) H _ (GOK_gH h.2.2) (WT_self h.1) ⟨sref 590 (by decide) rfl, vin za0.1 (zIn_hi za0), vin za1.1 (zIn_hi za1), trivial⟩ (fun f hf => by cases hf)))
  rintro r H' ⟨q, r1, r2⟩
  obtain ⟨⟨v, e⟩, ti, _⟩ := qfin h q.1 q.2.1
  exact ⟨v, e, ti, REL_md (by decide +kernel) hr q.2.2.2.1 r1 r2 ⟨(SM_frz q.1).1.1, (SM_frz q.1).2⟩⟩
theorem rc_line {G : zG} {us : Nat} {g : Nat → Nat → Int} (a0 : Int) (a1 : Int) (H : PH) (h : TI g H) (hr : REL H) (za0 : zIn a0) (za1 : zIn a1) : Ca G us 3 112 [(2, 0), (0, a0), (0, a1)] H (fun r H' => ∃ v, r = some (0, v) ∧ TI g H' ∧ REL H') := by
  refine Ca_mono (Nat.le_refl _) ?_ (Ca_rf (ct_X11_line G us (gH H) H _ (GOK_gH h.2.2) (WT_self h.1) ⟨sref 0 (by decide) rfl, vin za0.1 (zIn_hi za0), vin za1.1 (zIn_hi za1), trivial⟩ (fun f hf => by cases hf)))
  rintro r H' ⟨q, r1, r2⟩
  obtain ⟨⟨v, e⟩, ti, _⟩ := qfin h q.1 q.2.1
  exact ⟨v, e, ti, REL_md (by decide +kernel) hr q.2.2.2.1 r1 r2 ⟨(SM_frz q.1).1.1, (SM_frz q.1).2⟩⟩
theorem rm_line {G : zG} {us : Nat} {g : Nat → Nat → Int} (a0 : Int) (a1 : Int) (H : PH) (h : TI g H) (hr : REL H) (za0 : zIn a0) (za1 : zIn a1) : Ca G us 3 212 [(2, 590), (0, a0), (0, a1)] H (fun r H' => ∃ v, r = some (0, v) ∧ TI g H' ∧ REL H') := by
  refine Ca_mono (Nat.le_refl _) ?_ (Ca_rf (ct_X12_line G us (gH H) H _ (GOK_gH h.2.2) (WT_self h.1) ⟨sref 590 (by decide) rfl, vin za0.1 (zIn_hi za0), vin za1.1 (zIn_hi za1), trivial⟩ (fun f hf => by cases hf)))
  rintro r H' ⟨q, r1, r2⟩
  obtain ⟨⟨v, e⟩, ti, _⟩ := qfin h q.1 q.2.1
  exact ⟨v, e, ti, REL_md (by decide +kernel) hr q.2.2.2.1 r1 r2 ⟨(SM_frz q.1).1.1, (SM_frz q.1).2⟩⟩
theorem rc_apart {G : zG} {us : Nat} {g : Nat → Nat → Int} (a0 : Int) (a1 : Int) (H : PH) (h : TI g H) (hr : REL H) (za0 : zIn a0) (za1 : zIn a1) : Ca G us 4 113 [(2, 0), (0, a0), (0, a1)] H (fun r H' => ∃ v, r = some (0, v) ∧ TI g H' ∧ REL H') := by
  refine Ca_mono (Nat.le_refl _) ?_ (Ca_spec (qc_apart a0 a1 H h za0 za1) (rq_apart a0 a1 H hr) (pokA [a0, a1] 0 (by decide) (by decide) (by intro x hx; simp only [List.mem_cons, List.not_mem_nil, or_false] at hx; rcases hx with rfl | rfl <;> assumption)) (fun p H' q => t_i q.1 rfl) (fun p H' q => t_i q.1 rfl))
  rintro r H' ⟨⟨⟨v, e⟩, ti, _⟩, _, s⟩
  exact ⟨v, e, ti, s⟩
theorem rm_apart {G : zG} {us : Nat} {g : Nat → Nat → Int} (a0 : Int) (a1 : Int) (H : PH) (h : TI g H) (hr : REL H) (za0 : zIn a0) (za1 : zIn a1) : Ca G us 5 200 [(2, 590), (0, a0), (0, a1)] H (fun r H' => ∃ v, r = some (0, v) ∧ TI g H' ∧ REL H') := by
  refine Ca_mono (Nat.le_refl _) ?_ (Ca_rf (ct_X12_apart G us (gH H) H _ (GOK_gH h.2.2) (WT_self h.1) ⟨sref 590 (by decide) rfl, vin za0.1 (zIn_hi za0), vin za1.1 (zIn_hi za1), trivial⟩ (fun f hf => by cases hf)))
  rintro r H' ⟨q, r1, r2⟩
  obtain ⟨⟨v, e⟩, ti, _⟩ := qfin h q.1 q.2.1
  exact ⟨v, e, ti, REL_md (by decide +kernel) hr q.2.2.2.1 r1 r2 ⟨(SM_frz q.1).1.1, (SM_frz q.1).2⟩⟩
theorem rc_read {G : zG} {us : Nat} {g : Nat → Nat → Int} (a0 : Int) (H : PH) (h : TI g H) (hr : REL H) (za0 : zIn a0) : Ca G us 6 114 [(2, 0), (0, a0)] H (fun r H' => ∃ v, r = some (0, v) ∧ TI g H' ∧ REL H') := by
  refine Ca_mono (Nat.le_refl _) ?_ (Ca_spec (qc_read a0 H h za0) (rq_read a0 H hr) (pokA [a0] 0 (by decide) (by decide) (by intro x hx; simp only [List.mem_cons, List.not_mem_nil, or_false] at hx; rcases hx with rfl <;> assumption)) (fun p H' q => t_i q.1 rfl) (fun p H' q => t_i q.1 rfl))
  rintro r H' ⟨⟨⟨v, e⟩, ti, _⟩, _, s⟩
  exact ⟨v, e, ti, s⟩
theorem rm_read {G : zG} {us : Nat} {g : Nat → Nat → Int} (a0 : Int) (H : PH) (h : TI g H) (hr : REL H) (za0 : zIn a0) : Ca G us 7 204 [(2, 590), (0, a0)] H (fun r H' => ∃ v, r = some (0, v) ∧ TI g H' ∧ REL H') := by
  refine Ca_mono (Nat.le_refl _) ?_ (Ca_rf (ct_X12_read G us (gH H) H _ (GOK_gH h.2.2) (WT_self h.1) ⟨sref 590 (by decide) rfl, vin za0.1 (zIn_hi za0), trivial⟩ (fun f hf => by cases hf)))
  rintro r H' ⟨q, r1, r2⟩
  obtain ⟨⟨v, e⟩, ti, _⟩ := qfin h q.1 q.2.1
  exact ⟨v, e, ti, REL_md (by decide +kernel) hr q.2.2.2.1 r1 r2 ⟨(SM_frz q.1).1.1, (SM_frz q.1).2⟩⟩
theorem rc_least {G : zG} {us : Nat} {g : Nat → Nat → Int} (a0 : Int) (H : PH) (h : TI g H) (hr : REL H) (za0 : zIn a0) : Ca G us 4 115 [(2, 0), (0, a0)] H (fun r H' => ∃ v, r = some (0, v) ∧ TI g H' ∧ REL H') := by
  refine Ca_mono (Nat.le_refl _) ?_ (Ca_spec (qc_least a0 H h za0) (rq_least a0 H hr) (pokA [a0] 0 (by decide) (by decide) (by intro x hx; simp only [List.mem_cons, List.not_mem_nil, or_false] at hx; rcases hx with rfl <;> assumption)) (fun p H' q => t_i q.1 rfl) (fun p H' q => t_i q.1 rfl))
  rintro r H' ⟨⟨⟨v, e⟩, ti, _⟩, _, s⟩
  exact ⟨v, e, ti, s⟩
theorem rm_least {G : zG} {us : Nat} {g : Nat → Nat → Int} (a0 : Int) (H : PH) (h : TI g H) (hr : REL H) (za0 : zIn a0) : Ca G us 5 205 [(2, 590), (0, a0)] H (fun r H' => ∃ v, r = some (0, v) ∧ TI g H' ∧ REL H') := by
  refine Ca_mono (Nat.le_refl _) ?_ (Ca_rf (ct_X12_least G us (gH H) H _ (GOK_gH h.2.2) (WT_self h.1) ⟨sref 590 (by decide) rfl, vin za0.1 (zIn_hi za0), trivial⟩ (fun f hf => by cases hf)))
  rintro r H' ⟨q, r1, r2⟩
  obtain ⟨⟨v, e⟩, ti, _⟩ := qfin h q.1 q.2.1
  exact ⟨v, e, ti, REL_md (by decide +kernel) hr q.2.2.2.1 r1 r2 ⟨(SM_frz q.1).1.1, (SM_frz q.1).2⟩⟩
theorem rc_heap {G : zG} {us : Nat} {g : Nat → Nat → Int} (a0 : Int) (a1 : Int) (H : PH) (h : TI g H) (hr : REL H) (za0 : zIn a0) (za1 : zIn a1) : Ca G us 7 116 [(2, 0), (0, a0), (0, a1)] H (fun r H' => ∃ v, r = some (0, v) ∧ TI g H' ∧ REL H') := by
  refine Ca_mono (Nat.le_refl _) ?_ (Ca_spec (qc_heap a0 a1 H h za0 za1) (rq_heap a0 a1 H hr) (pokA [a0, a1] 0 (by decide) (by decide) (by intro x hx; simp only [List.mem_cons, List.not_mem_nil, or_false] at hx; rcases hx with rfl | rfl <;> assumption)) (fun p H' q => t_i q.1 rfl) (fun p H' q => t_i q.1 rfl))
  rintro r H' ⟨⟨⟨v, e⟩, ti, _⟩, _, s⟩
  exact ⟨v, e, ti, s⟩
theorem rm_heap {G : zG} {us : Nat} {g : Nat → Nat → Int} (a0 : Int) (a1 : Int) (H : PH) (h : TI g H) (hr : REL H) (za0 : zIn a0) (za1 : zIn a1) : Ca G us 10 219 [(2, 590), (0, a0), (0, a1)] H (fun r H' => ∃ v, r = some (0, v) ∧ TI g H' ∧ REL H') := by
  refine Ca_mono (Nat.le_refl _) ?_ (Ca_rf (ct_X12_heap G us (gH H) H _ (GOK_gH h.2.2) (WT_self h.1) ⟨sref 590 (by decide) rfl, vin za0.1 (zIn_hi za0), vin za1.1 (zIn_hi za1), trivial⟩ (fun f hf => by cases hf)))
  rintro r H' ⟨q, r1, r2⟩
  obtain ⟨⟨v, e⟩, ti, _⟩ := qfin h q.1 q.2.1
  exact ⟨v, e, ti, REL_md (by decide +kernel) hr q.2.2.2.1 r1 r2 ⟨(SM_frz q.1).1.1, (SM_frz q.1).2⟩⟩
theorem rc_tally {G : zG} {us : Nat} {g : Nat → Nat → Int} (a0 : Int) (a1 : Int) (H : PH) (h : TI g H) (hr : REL H) (za0 : zIn a0) (za1 : zIn a1) : Ca G us 7 117 [(2, 0), (0, a0), (0, a1)] H (fun r H' => ∃ v, r = some (0, v) ∧ TI g H' ∧ REL H') := by
  refine Ca_mono (Nat.le_refl _) ?_ (Ca_spec (qc_tally a0 a1 H h za0 za1) (rq_tally a0 a1 H hr) (pokA [a0, a1] 0 (by decide) (by decide) (by intro x hx; simp only [List.mem_cons, List.not_mem_nil, or_false] at hx; rcases hx with rfl | rfl <;> assumption)) (fun p H' q => t_i q.1 rfl) (fun p H' q => t_i q.1 rfl))
  rintro r H' ⟨⟨⟨v, e⟩, ti, _⟩, _, s⟩
  exact ⟨v, e, ti, s⟩
theorem rm_tally {G : zG} {us : Nat} {g : Nat → Nat → Int} (a0 : Int) (a1 : Int) (H : PH) (h : TI g H) (hr : REL H) (za0 : zIn a0) (za1 : zIn a1) : Ca G us 10 218 [(2, 590), (0, a0), (0, a1)] H (fun r H' => ∃ v, r = some (0, v) ∧ TI g H' ∧ REL H') := by
  refine Ca_mono (Nat.le_refl _) ?_ (Ca_rf (ct_X12_tally G us (gH H) H _ (GOK_gH h.2.2) (WT_self h.1) ⟨sref 590 (by decide) rfl, vin za0.1 (zIn_hi za0), vin za1.1 (zIn_hi za1), trivial⟩ (fun f hf => by cases hf)))
  rintro r H' ⟨q, r1, r2⟩
  obtain ⟨⟨v, e⟩, ti, _⟩ := qfin h q.1 q.2.1
  exact ⟨v, e, ti, REL_md (by decide +kernel) hr q.2.2.2.1 r1 r2 ⟨(SM_frz q.1).1.1, (SM_frz q.1).2⟩⟩
theorem rc_brought {G : zG} {us : Nat} {g : Nat → Nat → Int} (a0 : Int) (a1 : Int) (H : PH) (h : TI g H) (hr : REL H) (za0 : zIn a0) (za1 : zIn a1) : Ca G us 7 118 [(2, 0), (0, a0), (0, a1)] H (fun r H' => ∃ v, r = some (0, v) ∧ TI g H' ∧ REL H') := by
  refine Ca_mono (Nat.le_refl _) ?_ (Ca_spec (qc_brought a0 a1 H h za0 za1) (rq_brought a0 a1 H hr) (pokA [a0, a1] 0 (by decide) (by decide) (by intro x hx; simp only [List.mem_cons, List.not_mem_nil, or_false] at hx; rcases hx with rfl | rfl <;> assumption)) (fun p H' q => t_i q.1 rfl) (fun p H' q => t_i q.1 rfl))
  rintro r H' ⟨⟨⟨v, e⟩, ti, _⟩, _, s⟩
  exact ⟨v, e, ti, s⟩
theorem rm_brought {G : zG} {us : Nat} {g : Nat → Nat → Int} (a0 : Int) (a1 : Int) (H : PH) (h : TI g H) (hr : REL H) (za0 : zIn a0) (za1 : zIn a1) : Ca G us 10 220 [(2, 590), (0, a0), (0, a1)] H (fun r H' => ∃ v, r = some (0, v) ∧ TI g H' ∧ REL H') := by
  refine Ca_mono (Nat.le_refl _) ?_ (Ca_rf (ct_X12_brought G us (gH H) H _ (GOK_gH h.2.2) (WT_self h.1) ⟨sref 590 (by decide) rfl, vin za0.1 (zIn_hi za0), vin za1.1 (zIn_hi za1), trivial⟩ (fun f hf => by cases hf)))
  rintro r H' ⟨q, r1, r2⟩
  obtain ⟨⟨v, e⟩, ti, _⟩ := qfin h q.1 q.2.1
  exact ⟨v, e, ti, REL_md (by decide +kernel) hr q.2.2.2.1 r1 r2 ⟨(SM_frz q.1).1.1, (SM_frz q.1).2⟩⟩
theorem rc_matched {G : zG} {us : Nat} {g : Nat → Nat → Int} (a0 : Int) (H : PH) (h : TI g H) (hr : REL H) (za0 : zIn a0) : Ca G us 7 119 [(2, 0), (0, a0)] H (fun r H' => ∃ v, r = some (0, v) ∧ TI g H' ∧ REL H') := by
  refine Ca_mono (Nat.le_refl _) ?_ (Ca_spec (qc_matched a0 H h za0) (rq_matched a0 H hr) (pokA [a0] 0 (by decide) (by decide) (by intro x hx; simp only [List.mem_cons, List.not_mem_nil, or_false] at hx; rcases hx with rfl <;> assumption)) (fun p H' q => t_i q.1 rfl) (fun p H' q => t_i q.1 rfl))
  rintro r H' ⟨⟨⟨v, e⟩, ti, _⟩, _, s⟩
  exact ⟨v, e, ti, s⟩
theorem rm_matched {G : zG} {us : Nat} {g : Nat → Nat → Int} (a0 : Int) (H : PH) (h : TI g H) (hr : REL H) (za0 : zIn a0) : Ca G us 10 221 [(2, 590), (0, a0)] H (fun r H' => ∃ v, r = some (0, v) ∧ TI g H' ∧ REL H') := by
  refine Ca_mono (Nat.le_refl _) ?_ (Ca_rf (ct_X12_matched G us (gH H) H _ (GOK_gH h.2.2) (WT_self h.1) ⟨sref 590 (by decide) rfl, vin za0.1 (zIn_hi za0), trivial⟩ (fun f hf => by cases hf)))
  rintro r H' ⟨q, r1, r2⟩
  obtain ⟨⟨v, e⟩, ti, _⟩ := qfin h q.1 q.2.1
  exact ⟨v, e, ti, REL_md (by decide +kernel) hr q.2.2.2.1 r1 r2 ⟨(SM_frz q.1).1.1, (SM_frz q.1).2⟩⟩
/-- the class's best: its measures, then its flow, which lies beside what both states say -/
theorem none_t {a : Option pv} {p : pv} (h : a = none) (e : a = some p) : p.1 ≤ 2 := by
  rw [h] at e
  cases e
theorem ca_matchR {G : zG} {us : Nat} {g : Nat → Nat → Int} (H : PH) (h : TI g H) (hr : REL H) : Ca G us 6 151 [(2, 0)] H (fun r H' => r = none ∧ WT 0 (gH H) H' ∧ REL H') := by
  refine Ca_mono (Nat.le_refl _) ?_ (Ca_spec (ct_X11_matchAll G us (gH H) H _ (GOK_gH h.2.2) (WT_self h.1) ⟨sref 0 (by decide) rfl, trivial⟩ (fun f hf => by cases hf)) (rq_match H hr) (pokA [] 0 (by decide) (by decide) (by intro x hx; cases hx)) (fun p H' q => (q.2.1).elim) (fun p H' q => none_t q.1 rfl))
  exact fun r H' q => ⟨q.2.1, q.1.1, q.2.2⟩
theorem ca_flowR {G : zG} {us : Nat} {g : Nat → Nat → Int} (H0 H : PH) (h : TI g H0) (hW : WT 0 (gH H0) H) (hr : REL H) : Ca G us 5 34 [(2, 372)] H (fun r H' => r = none ∧ REL H') := by
  refine Ca_mono (Nat.le_refl _) ?_ (Ca_rf (ct_X3_refresh G us (gH H0) H _ (GOK_gH h.2.2) hW ⟨sref 372 (by decide) rfl, trivial⟩ (fun f hf => by cases hf)))
  rintro r H' ⟨q, r1, r2⟩
  refine ⟨?_, REL_md (by decide +kernel) hr q.2.2.2.1 r1 r2 ⟨cel_frm q.2.2.2.1 r1 r2 (c := 590) (by decide) (by decide +kernel) (by decide +kernel), cel_frm q.2.2.2.1 r1 r2 (c := 590) (by decide) (by decide +kernel) (by decide +kernel)⟩⟩
  cases r with
  | none => rfl
  | some p => exact (q.2.1).elim
set_option maxRecDepth 20000 in
set_option maxHeartbeats 4000000 in
theorem cb_best {G : zG} {us : Nat} {g : Nat → Nat → Int} (a0 : Int) (H : PH) (h : TI g H) (hr : REL H) : Ca G us 7 120 [(2, 0), (0, a0)] H (fun r H' => (∃ v, r = some (0, v)) ∧ REL H') := by
  refine ⟨_, _, _, _, _, _, vm_X11_best, by simp [pcat], ?_⟩
  refine tr_lab (D := 6) (t := 0) vb_X11_best_0 _ ve_X11_best_0 ?_
  simp (maxDischargeDepth := 12) [vb_X11_best_0, wB, wI, k1, kI, kR, kL, k2, pget, pget_pset, pnl_pset, pnl_cons, pnl_nil, parg, ppush, pcat, zw_lit, zw_m1, zw_m2, zw_m3, zNC_eq, zrow, pup_app, gv_0_4, gv_372_9, gv_372_10, tg_11_4, tg_3_9, tg_3_10, sh_0, sh_372]
  repeat' (with_reducible (first | (refine And.intro ?_ ?_) | intro _))
  all_goals try (refine Ca_use (ca_X11_within _ _ _ _) (by omega) ?_; rintro _ _ ⟨rfl, rfl⟩; simp (maxDischargeDepth := 12) [wB, wI, k1, kI, kR, kL, k2, pget, pget_pset, pnl_pset, pnl_cons, pnl_nil, parg, ppush, pcat, zw_lit, zw_m1, zw_m2, zw_m3, zNC_eq, zrow, pup_app, gv_0_4, gv_372_9, gv_372_10, tg_11_4, tg_3_9, tg_3_10, sh_0, sh_372])
  all_goals repeat' (with_reducible (first | (refine And.intro ?_ ?_) | intro _))
  all_goals try (refine tr_lab (D := 6) (t := 11) vb_X11_best_11 _ ve_X11_best_11 ?_; simp (maxDischargeDepth := 12) [vb_X11_best_11, wB, wI, k1, kI, kR, kL, k2, pget, pget_pset, pnl_pset, pnl_cons, pnl_nil, parg, ppush, pcat, zw_lit, zw_m1, zw_m2, zw_m3, zNC_eq, zrow, pup_app, gv_0_4, gv_372_9, gv_372_10, tg_11_4, tg_3_9, tg_3_10, sh_0, sh_372])
  all_goals repeat' (with_reducible (first | (refine And.intro ?_ ?_) | intro _))
  all_goals try (refine Ca_use (ca_matchR H h hr) (by omega) ?_; rintro _ H1 ⟨rfl, w1, hr1⟩; simp (maxDischargeDepth := 12) [wB, wI, k1, kI, kR, kL, k2, pget, pget_pset, pnl_pset, pnl_cons, pnl_nil, parg, ppush, pcat, zw_lit, zw_m1, zw_m2, zw_m3, zNC_eq, zrow, pup_app, gv_0_4, gv_372_9, gv_372_10, tg_11_4, tg_3_9, tg_3_10, sh_0, sh_372])
  all_goals repeat' (with_reducible (first | (refine And.intro ?_ ?_) | intro _))
  all_goals try (refine Ca_use (ca_flowR H H1 h w1 hr1) (by omega) ?_; rintro _ H2 ⟨rfl, hr2⟩; simp (maxDischargeDepth := 12) [wB, wI, k1, kI, kR, kL, k2, pget, pget_pset, pnl_pset, pnl_cons, pnl_nil, parg, ppush, pcat, zw_lit, zw_m1, zw_m2, zw_m3, zNC_eq, zrow, pup_app, gv_0_4, gv_372_9, gv_372_10, tg_11_4, tg_3_9, tg_3_10, sh_0, sh_372])
  all_goals repeat' (with_reducible (first | (refine And.intro ?_ ?_) | intro _))
  all_goals try (refine tr_lab (D := 6) (t := 36) vb_X11_best_36 _ ve_X11_best_36 ?_; simp (maxDischargeDepth := 12) [vb_X11_best_36, wB, wI, k1, kI, kR, kL, k2, pget, pget_pset, pnl_pset, pnl_cons, pnl_nil, parg, ppush, pcat, zw_lit, zw_m1, zw_m2, zw_m3, zNC_eq, zrow, pup_app, gv_0_4, gv_372_9, gv_372_10, tg_11_4, tg_3_9, tg_3_10, sh_0, sh_372])
  all_goals repeat' (with_reducible (first | (refine And.intro ?_ ?_) | intro _))
  all_goals try (refine tr_lab (D := 6) (t := 43) vb_X11_best_43 _ ve_X11_best_43 ?_; simp (maxDischargeDepth := 12) [vb_X11_best_43, wB, wI, k1, kI, kR, kL, k2, pget, pget_pset, pnl_pset, pnl_cons, pnl_nil, parg, ppush, pcat, zw_lit, zw_m1, zw_m2, zw_m3, zNC_eq, zrow, pup_app, gv_0_4, gv_372_9, gv_372_10, tg_11_4, tg_3_9, tg_3_10, sh_0, sh_372])
  all_goals repeat' (with_reducible (first | (refine And.intro ?_ ?_) | intro _))
  all_goals (first | omega | assumption | exact ⟨_, rfl⟩ | skip)
theorem rc_best {G : zG} {us : Nat} {g : Nat → Nat → Int} (a0 : Int) (H : PH) (h : TI g H) (hr : REL H) (za0 : zIn a0) : Ca G us 7 120 [(2, 0), (0, a0)] H (fun r H' => ∃ v, r = some (0, v) ∧ TI g H' ∧ REL H') :=
  Ca_mono (Nat.le_refl _) (fun r H' q => ⟨q.1.1.choose, q.1.1.choose_spec, q.1.2.1, q.2.2⟩) (Ca_and (qc_best a0 H h za0) (cb_best a0 H h hr) (fun p H' q => t_i q.1 rfl) (fun p H' q => t_i q.1 rfl))
theorem rm_best {G : zG} {us : Nat} {g : Nat → Nat → Int} (a0 : Int) (H : PH) (h : TI g H) (hr : REL H) (za0 : zIn a0) : Ca G us 10 225 [(2, 590), (0, a0)] H (fun r H' => ∃ v, r = some (0, v) ∧ TI g H' ∧ REL H') := by
  refine Ca_mono (Nat.le_refl _) ?_ (Ca_rf (ct_X12_best G us (gH H) H _ (GOK_gH h.2.2) (WT_self h.1) ⟨sref 590 (by decide) rfl, vin za0.1 (zIn_hi za0), trivial⟩ (fun f hf => by cases hf)))
  rintro r H' ⟨q, r1, r2⟩
  obtain ⟨⟨v, e⟩, ti, _⟩ := qfin h q.1 q.2.1
  exact ⟨v, e, ti, REL_md (by decide +kernel) hr q.2.2.2.1 r1 r2 ⟨(SM_frz q.1).1.1, (SM_frz q.1).2⟩⟩
theorem rc_remark {G : zG} {us : Nat} {g : Nat → Nat → Int} (a0 : Int) (a1 : Int) (a2 : Int) (H : PH) (h : TI g H) (hr : REL H) (za0 : zIn a0) (za1 : zIn a1) (za2 : zIn a2) : Ca G us 3 121 [(2, 0), (0, a0), (0, a1), (0, a2)] H (fun r H' => ∃ v, r = some (0, v) ∧ TI g H' ∧ SPEC 226 [(2, 590), (0, a0), (0, a1), (0, a2)] H' (fun r' H2 => r' = some (0, v) ∧ REL H2)) := by
  refine Ca_mono (Nat.le_refl _) ?_ (Ca_spec (qc_remark a0 a1 a2 H h za0 za1 za2) (pr_remark a0 a1 a2 H hr) (pokA [a0, a1, a2] 0 (by decide) (by decide) (by intro x hx; simp only [List.mem_cons, List.not_mem_nil, or_false] at hx; rcases hx with rfl | rfl | rfl <;> assumption)) (fun p H' q => ?_) (fun p H' q => t_i q.1 rfl))
  · rintro r H' ⟨⟨⟨v, e⟩, ti, _⟩, _, s⟩
    rw [e] at s
    exact ⟨v, e, ti, s⟩
  · exact t_i q.1 rfl
theorem rm_remark {G : zG} {us : Nat} {g : Nat → Nat → Int} (a0 : Int) (a1 : Int) (a2 : Int) (v : Int) (H : PH) (h : TI g H) (hs : SPEC 226 [(2, 590), (0, a0), (0, a1), (0, a2)] H (fun r' H2 => r' = some (0, v) ∧ REL H2)) (za0 : zIn a0) (za1 : zIn a1) (za2 : zIn a2) : Ca G us 3 226 [(2, 590), (0, a0), (0, a1), (0, a2)] H (fun r H' => r = some (0, v) ∧ TI g H' ∧ REL H') := by
  refine Ca_mono (Nat.le_refl _) ?_ (Ca_spec (qm_remark a0 a1 a2 H h za0 za1 za2) hs (pokA [a0, a1, a2] 590 (by decide) (by decide) (by intro x hx; simp only [List.mem_cons, List.not_mem_nil, or_false] at hx; rcases hx with rfl | rfl | rfl <;> assumption)) (fun p H' q => ?_) (fun p H' q => t_i ⟨_, q.1⟩ rfl))
  · rintro r H' ⟨⟨_, ti, _⟩, s⟩
    exact ⟨s.1, ti, s.2⟩
  · exact t_i q.1 rfl
theorem rc_remarked {G : zG} {us : Nat} {g : Nat → Nat → Int} (a0 : Int) (a1 : Int) (a2 : Int) (H : PH) (h : TI g H) (hr : REL H) (za0 : zIn a0) (za1 : zIn a1) (za2 : zIn a2) : Ca G us 3 122 [(2, 0), (0, a0), (0, a1), (0, a2)] H (fun r H' => ∃ v, r = some (0, v) ∧ TI g H' ∧ REL H') := by
  refine Ca_mono (Nat.le_refl _) ?_ (Ca_rf (ct_X11_remarked G us (gH H) H _ (GOK_gH h.2.2) (WT_self h.1) ⟨sref 0 (by decide) rfl, vin za0.1 (zIn_hi za0), vin za1.1 (zIn_hi za1), vin za2.1 (zIn_hi za2), trivial⟩ (fun f hf => by cases hf)))
  rintro r H' ⟨q, r1, r2⟩
  obtain ⟨⟨v, e⟩, ti, _⟩ := qfin h q.1 q.2.1
  exact ⟨v, e, ti, REL_md (by decide +kernel) hr q.2.2.2.1 r1 r2 ⟨(SM_frz q.1).1.1, (SM_frz q.1).2⟩⟩
theorem rm_remarked {G : zG} {us : Nat} {g : Nat → Nat → Int} (a0 : Int) (a1 : Int) (a2 : Int) (H : PH) (h : TI g H) (hr : REL H) (za0 : zIn a0) (za1 : zIn a1) (za2 : zIn a2) : Ca G us 3 227 [(2, 590), (0, a0), (0, a1), (0, a2)] H (fun r H' => ∃ v, r = some (0, v) ∧ TI g H' ∧ REL H') := by
  refine Ca_mono (Nat.le_refl _) ?_ (Ca_rf (ct_X12_remarked G us (gH H) H _ (GOK_gH h.2.2) (WT_self h.1) ⟨sref 590 (by decide) rfl, vin za0.1 (zIn_hi za0), vin za1.1 (zIn_hi za1), vin za2.1 (zIn_hi za2), trivial⟩ (fun f hf => by cases hf)))
  rintro r H' ⟨q, r1, r2⟩
  obtain ⟨⟨v, e⟩, ti, _⟩ := qfin h q.1 q.2.1
  exact ⟨v, e, ti, REL_md (by decide +kernel) hr q.2.2.2.1 r1 r2 ⟨(SM_frz q.1).1.1, (SM_frz q.1).2⟩⟩
theorem rc_claim {G : zG} {us : Nat} {g : Nat → Nat → Int} (a0 : Int) (a1 : Int) (H : PH) (h : TI g H) (hr : REL H) (za0 : zIn a0) (za1 : zIn a1) : Ca G us 3 123 [(2, 0), (0, a0), (0, a1)] H (fun r H' => ∃ v, r = some (0, v) ∧ TI g H' ∧ SPEC 229 [(2, 590), (0, a0), (0, a1)] H' (fun r' H2 => r' = some (0, v) ∧ REL H2)) := by
  refine Ca_mono (Nat.le_refl _) ?_ (Ca_spec (qc_claim a0 a1 H h za0 za1) (pr_claim a0 a1 H hr) (pokA [a0, a1] 0 (by decide) (by decide) (by intro x hx; simp only [List.mem_cons, List.not_mem_nil, or_false] at hx; rcases hx with rfl | rfl <;> assumption)) (fun p H' q => ?_) (fun p H' q => t_i q.1 rfl))
  · rintro r H' ⟨⟨⟨v, e⟩, ti, _⟩, _, s⟩
    rw [e] at s
    exact ⟨v, e, ti, s⟩
  · exact t_i q.1 rfl
theorem rm_claim {G : zG} {us : Nat} {g : Nat → Nat → Int} (a0 : Int) (a1 : Int) (v : Int) (H : PH) (h : TI g H) (hs : SPEC 229 [(2, 590), (0, a0), (0, a1)] H (fun r' H2 => r' = some (0, v) ∧ REL H2)) (za0 : zIn a0) (za1 : zIn a1) : Ca G us 3 229 [(2, 590), (0, a0), (0, a1)] H (fun r H' => r = some (0, v) ∧ TI g H' ∧ REL H') := by
  refine Ca_mono (Nat.le_refl _) ?_ (Ca_spec (qm_claim a0 a1 H h za0 za1) hs (pokA [a0, a1] 590 (by decide) (by decide) (by intro x hx; simp only [List.mem_cons, List.not_mem_nil, or_false] at hx; rcases hx with rfl | rfl <;> assumption)) (fun p H' q => ?_) (fun p H' q => t_i ⟨_, q.1⟩ rfl))
  · rintro r H' ⟨⟨_, ti, _⟩, s⟩
    exact ⟨s.1, ti, s.2⟩
  · exact t_i q.1 rfl
theorem rc_limit {G : zG} {us : Nat} {g : Nat → Nat → Int} (a0 : Int) (H : PH) (h : TI g H) (hr : REL H) (za0 : zIn a0) : Ca G us 3 124 [(2, 0), (0, a0)] H (fun r H' => ∃ v, r = some (0, v) ∧ TI g H' ∧ SPEC 230 [(2, 590), (0, a0)] H' (fun r' H2 => r' = some (0, v) ∧ REL H2)) := by
  refine Ca_mono (Nat.le_refl _) ?_ (Ca_spec (qc_limit a0 H h za0) (pr_limit a0 H hr) (pokA [a0] 0 (by decide) (by decide) (by intro x hx; simp only [List.mem_cons, List.not_mem_nil, or_false] at hx; rcases hx with rfl <;> assumption)) (fun p H' q => ?_) (fun p H' q => t_i q.1 rfl))
  · rintro r H' ⟨⟨⟨v, e⟩, ti, _⟩, _, s⟩
    rw [e] at s
    exact ⟨v, e, ti, s⟩
  · exact t_i q.1 rfl
theorem rm_limit {G : zG} {us : Nat} {g : Nat → Nat → Int} (a0 : Int) (v : Int) (H : PH) (h : TI g H) (hs : SPEC 230 [(2, 590), (0, a0)] H (fun r' H2 => r' = some (0, v) ∧ REL H2)) (za0 : zIn a0) : Ca G us 3 230 [(2, 590), (0, a0)] H (fun r H' => r = some (0, v) ∧ TI g H' ∧ REL H') := by
  refine Ca_mono (Nat.le_refl _) ?_ (Ca_spec (qm_limit a0 H h za0) hs (pokA [a0] 590 (by decide) (by decide) (by intro x hx; simp only [List.mem_cons, List.not_mem_nil, or_false] at hx; rcases hx with rfl <;> assumption)) (fun p H' q => ?_) (fun p H' q => t_i ⟨_, q.1⟩ rfl))
  · rintro r H' ⟨⟨_, ti, _⟩, s⟩
    exact ⟨s.1, ti, s.2⟩
  · exact t_i q.1 rfl
theorem rc_far {G : zG} {us : Nat} {g : Nat → Nat → Int} (a0 : Int) (H : PH) (h : TI g H) (hr : REL H) (za0 : zIn a0) : Ca G us 3 125 [(2, 0), (0, a0)] H (fun r H' => ∃ v, r = some (0, v) ∧ TI g H' ∧ SPEC 231 [(2, 590), (0, a0)] H' (fun r' H2 => r' = some (0, v) ∧ REL H2)) := by
  refine Ca_mono (Nat.le_refl _) ?_ (Ca_spec (qc_far a0 H h za0) (pr_far a0 H hr) (pokA [a0] 0 (by decide) (by decide) (by intro x hx; simp only [List.mem_cons, List.not_mem_nil, or_false] at hx; rcases hx with rfl <;> assumption)) (fun p H' q => ?_) (fun p H' q => t_i q.1 rfl))
  · rintro r H' ⟨⟨⟨v, e⟩, ti, _⟩, _, s⟩
    rw [e] at s
    exact ⟨v, e, ti, s⟩
  · exact t_i q.1 rfl
theorem rm_far {G : zG} {us : Nat} {g : Nat → Nat → Int} (a0 : Int) (v : Int) (H : PH) (h : TI g H) (hs : SPEC 231 [(2, 590), (0, a0)] H (fun r' H2 => r' = some (0, v) ∧ REL H2)) (za0 : zIn a0) : Ca G us 3 231 [(2, 590), (0, a0)] H (fun r H' => r = some (0, v) ∧ TI g H' ∧ REL H') := by
  refine Ca_mono (Nat.le_refl _) ?_ (Ca_spec (qm_far a0 H h za0) hs (pokA [a0] 590 (by decide) (by decide) (by intro x hx; simp only [List.mem_cons, List.not_mem_nil, or_false] at hx; rcases hx with rfl <;> assumption)) (fun p H' q => ?_) (fun p H' q => t_i ⟨_, q.1⟩ rfl))
  · rintro r H' ⟨⟨_, ti, _⟩, s⟩
    exact ⟨s.1, ti, s.2⟩
  · exact t_i q.1 rfl
theorem rc_pack {G : zG} {us : Nat} {g : Nat → Nat → Int} (a0 : Int) (H : PH) (h : TI g H) (hr : REL H) (za0 : zIn a0) : Ca G us 3 126 [(2, 0), (0, a0)] H (fun r H' => ∃ v, r = some (0, v) ∧ TI g H' ∧ SPEC 232 [(2, 590), (0, a0)] H' (fun r' H2 => r' = some (0, v) ∧ REL H2)) := by
  refine Ca_mono (Nat.le_refl _) ?_ (Ca_spec (qc_pack a0 H h za0) (pr_pack a0 H hr) (pokA [a0] 0 (by decide) (by decide) (by intro x hx; simp only [List.mem_cons, List.not_mem_nil, or_false] at hx; rcases hx with rfl <;> assumption)) (fun p H' q => ?_) (fun p H' q => t_i q.1 rfl))
  · rintro r H' ⟨⟨⟨v, e⟩, ti, _⟩, _, s⟩
    rw [e] at s
    exact ⟨v, e, ti, s⟩
  · exact t_i q.1 rfl
theorem rm_pack {G : zG} {us : Nat} {g : Nat → Nat → Int} (a0 : Int) (v : Int) (H : PH) (h : TI g H) (hs : SPEC 232 [(2, 590), (0, a0)] H (fun r' H2 => r' = some (0, v) ∧ REL H2)) (za0 : zIn a0) : Ca G us 3 232 [(2, 590), (0, a0)] H (fun r H' => r = some (0, v) ∧ TI g H' ∧ REL H') := by
  refine Ca_mono (Nat.le_refl _) ?_ (Ca_spec (qm_pack a0 H h za0) hs (pokA [a0] 590 (by decide) (by decide) (by intro x hx; simp only [List.mem_cons, List.not_mem_nil, or_false] at hx; rcases hx with rfl <;> assumption)) (fun p H' q => ?_) (fun p H' q => t_i ⟨_, q.1⟩ rfl))
  · rintro r H' ⟨⟨_, ti, _⟩, s⟩
    exact ⟨s.1, ti, s.2⟩
  · exact t_i q.1 rfl
theorem rc_paid {G : zG} {us : Nat} {g : Nat → Nat → Int} (a0 : Int) (H : PH) (h : TI g H) (hr : REL H) (za0 : zIn a0) : Ca G us 7 127 [(2, 0), (0, a0)] H (fun r H' => ∃ v, r = some (0, v) ∧ TI g H' ∧ REL H') := by
  refine Ca_mono (Nat.le_refl _) ?_ (Ca_spec (qc_paid a0 H h za0) (rq_paid a0 H hr) (pokA [a0] 0 (by decide) (by decide) (by intro x hx; simp only [List.mem_cons, List.not_mem_nil, or_false] at hx; rcases hx with rfl <;> assumption)) (fun p H' q => t_i q.1 rfl) (fun p H' q => t_i q.1 rfl))
  rintro r H' ⟨⟨⟨v, e⟩, ti, _⟩, _, s⟩
  exact ⟨v, e, ti, s⟩
theorem rm_paid {G : zG} {us : Nat} {g : Nat → Nat → Int} (a0 : Int) (H : PH) (h : TI g H) (hr : REL H) (za0 : zIn a0) : Ca G us 10 234 [(2, 590), (0, a0)] H (fun r H' => ∃ v, r = some (0, v) ∧ TI g H' ∧ REL H') := by
  refine Ca_mono (Nat.le_refl _) ?_ (Ca_rf (ct_X12_paid G us (gH H) H _ (GOK_gH h.2.2) (WT_self h.1) ⟨sref 590 (by decide) rfl, vin za0.1 (zIn_hi za0), trivial⟩ (fun f hf => by cases hf)))
  rintro r H' ⟨q, r1, r2⟩
  obtain ⟨⟨v, e⟩, ti, _⟩ := qfin h q.1 q.2.1
  exact ⟨v, e, ti, REL_md (by decide +kernel) hr q.2.2.2.1 r1 r2 ⟨(SM_frz q.1).1.1, (SM_frz q.1).2⟩⟩
theorem rc_against {G : zG} {us : Nat} {g : Nat → Nat → Int} (a0 : Int) (a1 : Int) (H : PH) (h : TI g H) (hr : REL H) (za0 : zIn a0) (za1 : zIn a1) : Ca G us 5 128 [(2, 0), (0, a0), (0, a1)] H (fun r H' => ∃ v, r = some (0, v) ∧ TI g H' ∧ REL H') := by
  refine Ca_mono (Nat.le_refl _) ?_ (Ca_rf (ct_X11_against G us (gH H) H _ (GOK_gH h.2.2) (WT_self h.1) ⟨sref 0 (by decide) rfl, vin za0.1 (zIn_hi za0), vin za1.1 (zIn_hi za1), trivial⟩ (fun f hf => by cases hf)))
  rintro r H' ⟨q, r1, r2⟩
  obtain ⟨⟨v, e⟩, ti, _⟩ := qfin h q.1 q.2.1
  exact ⟨v, e, ti, REL_md (by decide +kernel) hr q.2.2.2.1 r1 r2 ⟨(SM_frz q.1).1.1, (SM_frz q.1).2⟩⟩
theorem rm_against {G : zG} {us : Nat} {g : Nat → Nat → Int} (a0 : Int) (a1 : Int) (H : PH) (h : TI g H) (hr : REL H) (za0 : zIn a0) (za1 : zIn a1) : Ca G us 6 241 [(2, 590), (0, a0), (0, a1)] H (fun r H' => ∃ v, r = some (0, v) ∧ TI g H' ∧ REL H') := by
  refine Ca_mono (Nat.le_refl _) ?_ (Ca_rf (ct_X12_against G us (gH H) H _ (GOK_gH h.2.2) (WT_self h.1) ⟨sref 590 (by decide) rfl, vin za0.1 (zIn_hi za0), vin za1.1 (zIn_hi za1), trivial⟩ (fun f hf => by cases hf)))
  rintro r H' ⟨q, r1, r2⟩
  obtain ⟨⟨v, e⟩, ti, _⟩ := qfin h q.1 q.2.1
  exact ⟨v, e, ti, REL_md (by decide +kernel) hr q.2.2.2.1 r1 r2 ⟨(SM_frz q.1).1.1, (SM_frz q.1).2⟩⟩
theorem rc_hold {G : zG} {us : Nat} {g : Nat → Nat → Int} (a0 : Int) (a1 : Int) (H : PH) (h : TI g H) (hr : REL H) (za0 : zIn a0) (za1 : zIn a1) : Ca G us 6 129 [(2, 0), (0, a0), (0, a1)] H (fun r H' => ∃ v, r = some (0, v) ∧ TI g H' ∧ REL H') := by
  refine Ca_mono (Nat.le_refl _) ?_ (Ca_spec (qc_hold a0 a1 H h za0 za1) (rq_hold a0 a1 H hr) (pokA [a0, a1] 0 (by decide) (by decide) (by intro x hx; simp only [List.mem_cons, List.not_mem_nil, or_false] at hx; rcases hx with rfl | rfl <;> assumption)) (fun p H' q => t_i q.1 rfl) (fun p H' q => t_i q.1 rfl))
  rintro r H' ⟨⟨⟨v, e⟩, ti, _⟩, _, s⟩
  exact ⟨v, e, ti, s⟩
theorem rm_hold {G : zG} {us : Nat} {g : Nat → Nat → Int} (a0 : Int) (a1 : Int) (H : PH) (h : TI g H) (hr : REL H) (za0 : zIn a0) (za1 : zIn a1) : Ca G us 7 244 [(2, 590), (0, a0), (0, a1)] H (fun r H' => ∃ v, r = some (0, v) ∧ TI g H' ∧ REL H') := by
  refine Ca_mono (Nat.le_refl _) ?_ (Ca_rf (ct_X12_hold G us (gH H) H _ (GOK_gH h.2.2) (WT_self h.1) ⟨sref 590 (by decide) rfl, vin za0.1 (zIn_hi za0), vin za1.1 (zIn_hi za1), trivial⟩ (fun f hf => by cases hf)))
  rintro r H' ⟨q, r1, r2⟩
  obtain ⟨⟨v, e⟩, ti, _⟩ := qfin h q.1 q.2.1
  exact ⟨v, e, ti, REL_md (by decide +kernel) hr q.2.2.2.1 r1 r2 ⟨(SM_frz q.1).1.1, (SM_frz q.1).2⟩⟩
theorem rc_close {G : zG} {us : Nat} {g : Nat → Nat → Int} (a0 : Int) (H : PH) (h : TI g H) (hr : REL H) (za0 : zIn a0) : Ca G us 4 130 [(2, 0), (0, a0)] H (fun r H' => ∃ v, r = some (0, v) ∧ TI g H' ∧ REL H') := by
  refine Ca_mono (Nat.le_refl _) ?_ (Ca_spec (qc_close a0 H h za0) (rq_close a0 H hr) (pokA [a0] 0 (by decide) (by decide) (by intro x hx; simp only [List.mem_cons, List.not_mem_nil, or_false] at hx; rcases hx with rfl <;> assumption)) (fun p H' q => t_i q.1 rfl) (fun p H' q => t_i q.1 rfl))
  rintro r H' ⟨⟨⟨v, e⟩, ti, _⟩, _, s⟩
  exact ⟨v, e, ti, s⟩
theorem rm_close {G : zG} {us : Nat} {g : Nat → Nat → Int} (a0 : Int) (H : PH) (h : TI g H) (hr : REL H) (za0 : zIn a0) : Ca G us 4 245 [(2, 590), (0, a0)] H (fun r H' => ∃ v, r = some (0, v) ∧ TI g H' ∧ REL H') := by
  refine Ca_mono (Nat.le_refl _) ?_ (Ca_rf (ct_X12_close G us (gH H) H _ (GOK_gH h.2.2) (WT_self h.1) ⟨sref 590 (by decide) rfl, vin za0.1 (zIn_hi za0), trivial⟩ (fun f hf => by cases hf)))
  rintro r H' ⟨q, r1, r2⟩
  obtain ⟨⟨v, e⟩, ti, _⟩ := qfin h q.1 q.2.1
  exact ⟨v, e, ti, REL_md (by decide +kernel) hr q.2.2.2.1 r1 r2 ⟨(SM_frz q.1).1.1, (SM_frz q.1).2⟩⟩
theorem rc_blame {G : zG} {us : Nat} {g : Nat → Nat → Int} (a0 : Int) (a1 : Int) (H : PH) (h : TI g H) (hr : REL H) (za0 : zIn a0) (za1 : zIn a1) : Ca G us 4 131 [(2, 0), (0, a0), (0, a1)] H (fun r H' => ∃ v, r = some (0, v) ∧ TI g H' ∧ REL H') := by
  refine Ca_mono (Nat.le_refl _) ?_ (Ca_rf (ct_X11_blame G us (gH H) H _ (GOK_gH h.2.2) (WT_self h.1) ⟨sref 0 (by decide) rfl, vin za0.1 (zIn_hi za0), vin za1.1 (zIn_hi za1), trivial⟩ (fun f hf => by cases hf)))
  rintro r H' ⟨q, r1, r2⟩
  obtain ⟨⟨v, e⟩, ti, _⟩ := qfin h q.1 q.2.1
  exact ⟨v, e, ti, REL_md (by decide +kernel) hr q.2.2.2.1 r1 r2 ⟨(SM_frz q.1).1.1, (SM_frz q.1).2⟩⟩
theorem rm_blame {G : zG} {us : Nat} {g : Nat → Nat → Int} (a0 : Int) (a1 : Int) (H : PH) (h : TI g H) (hr : REL H) (za0 : zIn a0) (za1 : zIn a1) : Ca G us 4 246 [(2, 590), (0, a0), (0, a1)] H (fun r H' => ∃ v, r = some (0, v) ∧ TI g H' ∧ REL H') := by
  refine Ca_mono (Nat.le_refl _) ?_ (Ca_rf (ct_X12_blame G us (gH H) H _ (GOK_gH h.2.2) (WT_self h.1) ⟨sref 590 (by decide) rfl, vin za0.1 (zIn_hi za0), vin za1.1 (zIn_hi za1), trivial⟩ (fun f hf => by cases hf)))
  rintro r H' ⟨q, r1, r2⟩
  obtain ⟨⟨v, e⟩, ti, _⟩ := qfin h q.1 q.2.1
  exact ⟨v, e, ti, REL_md (by decide +kernel) hr q.2.2.2.1 r1 r2 ⟨(SM_frz q.1).1.1, (SM_frz q.1).2⟩⟩
theorem rc_worn {G : zG} {us : Nat} {g : Nat → Nat → Int} (a0 : Int) (a1 : Int) (H : PH) (h : TI g H) (hr : REL H) (za0 : zIn a0) (za1 : zIn a1) : Ca G us 4 132 [(2, 0), (0, a0), (0, a1)] H (fun r H' => ∃ v, r = some (0, v) ∧ TI g H' ∧ REL H') := by
  refine Ca_mono (Nat.le_refl _) ?_ (Ca_rf (ct_X11_worn G us (gH H) H _ (GOK_gH h.2.2) (WT_self h.1) ⟨sref 0 (by decide) rfl, vin za0.1 (zIn_hi za0), vin za1.1 (zIn_hi za1), trivial⟩ (fun f hf => by cases hf)))
  rintro r H' ⟨q, r1, r2⟩
  obtain ⟨⟨v, e⟩, ti, _⟩ := qfin h q.1 q.2.1
  exact ⟨v, e, ti, REL_md (by decide +kernel) hr q.2.2.2.1 r1 r2 ⟨(SM_frz q.1).1.1, (SM_frz q.1).2⟩⟩
theorem rm_worn {G : zG} {us : Nat} {g : Nat → Nat → Int} (a0 : Int) (a1 : Int) (H : PH) (h : TI g H) (hr : REL H) (za0 : zIn a0) (za1 : zIn a1) : Ca G us 5 247 [(2, 590), (0, a0), (0, a1)] H (fun r H' => ∃ v, r = some (0, v) ∧ TI g H' ∧ REL H') := by
  refine Ca_mono (Nat.le_refl _) ?_ (Ca_rf (ct_X12_worn G us (gH H) H _ (GOK_gH h.2.2) (WT_self h.1) ⟨sref 590 (by decide) rfl, vin za0.1 (zIn_hi za0), vin za1.1 (zIn_hi za1), trivial⟩ (fun f hf => by cases hf)))
  rintro r H' ⟨q, r1, r2⟩
  obtain ⟨⟨v, e⟩, ti, _⟩ := qfin h q.1 q.2.1
  exact ⟨v, e, ti, REL_md (by decide +kernel) hr q.2.2.2.1 r1 r2 ⟨(SM_frz q.1).1.1, (SM_frz q.1).2⟩⟩
theorem rc_twin {G : zG} {us : Nat} {g : Nat → Nat → Int} (a0 : Int) (a1 : Int) (H : PH) (h : TI g H) (hr : REL H) (za0 : zIn a0) (za1 : zIn a1) : Ca G us 3 133 [(2, 0), (0, a0), (0, a1)] H (fun r H' => ∃ v, r = some (0, v) ∧ TI g H' ∧ REL H') := by
  refine Ca_mono (Nat.le_refl _) ?_ (Ca_rf (ct_X11_twin G us (gH H) H _ (GOK_gH h.2.2) (WT_self h.1) ⟨sref 0 (by decide) rfl, vin za0.1 (zIn_hi za0), vin za1.1 (zIn_hi za1), trivial⟩ (fun f hf => by cases hf)))
  rintro r H' ⟨q, r1, r2⟩
  obtain ⟨⟨v, e⟩, ti, _⟩ := qfin h q.1 q.2.1
  exact ⟨v, e, ti, REL_md (by decide +kernel) hr q.2.2.2.1 r1 r2 ⟨(SM_frz q.1).1.1, (SM_frz q.1).2⟩⟩
theorem rm_twin {G : zG} {us : Nat} {g : Nat → Nat → Int} (a0 : Int) (a1 : Int) (H : PH) (h : TI g H) (hr : REL H) (za0 : zIn a0) (za1 : zIn a1) : Ca G us 5 250 [(2, 590), (0, a0), (0, a1)] H (fun r H' => ∃ v, r = some (0, v) ∧ TI g H' ∧ REL H') := by
  refine Ca_mono (Nat.le_refl _) ?_ (Ca_rf (ct_X12_twin G us (gH H) H _ (GOK_gH h.2.2) (WT_self h.1) ⟨sref 590 (by decide) rfl, vin za0.1 (zIn_hi za0), vin za1.1 (zIn_hi za1), trivial⟩ (fun f hf => by cases hf)))
  rintro r H' ⟨q, r1, r2⟩
  obtain ⟨⟨v, e⟩, ti, _⟩ := qfin h q.1 q.2.1
  exact ⟨v, e, ti, REL_md (by decide +kernel) hr q.2.2.2.1 r1 r2 ⟨(SM_frz q.1).1.1, (SM_frz q.1).2⟩⟩
theorem rc_shed {G : zG} {us : Nat} {g : Nat → Nat → Int} (a0 : Int) (H : PH) (h : TI g H) (hr : REL H) (za0 : zIn a0) : Ca G us 7 134 [(2, 0), (0, a0)] H (fun r H' => ∃ v, r = some (0, v) ∧ TI g H' ∧ REL H') := by
  refine Ca_mono (Nat.le_refl _) ?_ (Ca_spec (qc_shed a0 H h za0) (rq_shed a0 H hr) (pokA [a0] 0 (by decide) (by decide) (by intro x hx; simp only [List.mem_cons, List.not_mem_nil, or_false] at hx; rcases hx with rfl <;> assumption)) (fun p H' q => t_i q.1 rfl) (fun p H' q => t_i q.1 rfl))
  rintro r H' ⟨⟨⟨v, e⟩, ti, _⟩, _, s⟩
  exact ⟨v, e, ti, s⟩
theorem rm_shed {G : zG} {us : Nat} {g : Nat → Nat → Int} (a0 : Int) (H : PH) (h : TI g H) (hr : REL H) (za0 : zIn a0) : Ca G us 11 252 [(2, 590), (0, a0)] H (fun r H' => ∃ v, r = some (0, v) ∧ TI g H' ∧ REL H') := by
  refine Ca_mono (Nat.le_refl _) ?_ (Ca_rf (ct_X12_shed G us (gH H) H _ (GOK_gH h.2.2) (WT_self h.1) ⟨sref 590 (by decide) rfl, vin za0.1 (zIn_hi za0), trivial⟩ (fun f hf => by cases hf)))
  rintro r H' ⟨q, r1, r2⟩
  obtain ⟨⟨v, e⟩, ti, _⟩ := qfin h q.1 q.2.1
  exact ⟨v, e, ti, REL_md (by decide +kernel) hr q.2.2.2.1 r1 r2 ⟨(SM_frz q.1).1.1, (SM_frz q.1).2⟩⟩
theorem rc_days {G : zG} {us : Nat} {g : Nat → Nat → Int} (a0 : Int) (H : PH) (h : TI g H) (hr : REL H) (za0 : zIn a0) : Ca G us 3 135 [(2, 0), (0, a0)] H (fun r H' => ∃ v, r = some (0, v) ∧ TI g H' ∧ SPEC 253 [(2, 590), (0, a0)] H' (fun r' H2 => r' = some (0, v) ∧ REL H2)) := by
  refine Ca_mono (Nat.le_refl _) ?_ (Ca_spec (qc_days a0 H h za0) (pr_days a0 H hr) (pokA [a0] 0 (by decide) (by decide) (by intro x hx; simp only [List.mem_cons, List.not_mem_nil, or_false] at hx; rcases hx with rfl <;> assumption)) (fun p H' q => ?_) (fun p H' q => t_i q.1 rfl))
  · rintro r H' ⟨⟨⟨v, e⟩, ti, _⟩, _, s⟩
    rw [e] at s
    exact ⟨v, e, ti, s⟩
  · exact t_i q.1 rfl
theorem rm_days {G : zG} {us : Nat} {g : Nat → Nat → Int} (a0 : Int) (v : Int) (H : PH) (h : TI g H) (hs : SPEC 253 [(2, 590), (0, a0)] H (fun r' H2 => r' = some (0, v) ∧ REL H2)) (za0 : zIn a0) : Ca G us 3 253 [(2, 590), (0, a0)] H (fun r H' => r = some (0, v) ∧ TI g H' ∧ REL H') := by
  refine Ca_mono (Nat.le_refl _) ?_ (Ca_spec (qm_days a0 H h za0) hs (pokA [a0] 590 (by decide) (by decide) (by intro x hx; simp only [List.mem_cons, List.not_mem_nil, or_false] at hx; rcases hx with rfl <;> assumption)) (fun p H' q => ?_) (fun p H' q => t_i ⟨_, q.1⟩ rfl))
  · rintro r H' ⟨⟨_, ti, _⟩, s⟩
    exact ⟨s.1, ti, s.2⟩
  · exact t_i q.1 rfl
theorem rc_rate {G : zG} {us : Nat} {g : Nat → Nat → Int} (a0 : Int) (a1 : Int) (H : PH) (h : TI g H) (hr : REL H) (za0 : zIn a0) (za1 : zIn a1) : Ca G us 3 136 [(2, 0), (0, a0), (0, a1)] H (fun r H' => ∃ v, r = some (0, v) ∧ TI g H' ∧ SPEC 255 [(2, 590), (0, a0), (0, a1)] H' (fun r' H2 => r' = some (0, v) ∧ REL H2)) := by
  refine Ca_mono (Nat.le_refl _) ?_ (Ca_spec (qc_rate a0 a1 H h za0 za1) (pr_rate a0 a1 H hr) (pokA [a0, a1] 0 (by decide) (by decide) (by intro x hx; simp only [List.mem_cons, List.not_mem_nil, or_false] at hx; rcases hx with rfl | rfl <;> assumption)) (fun p H' q => ?_) (fun p H' q => t_i q.1 rfl))
  · rintro r H' ⟨⟨⟨v, e⟩, ti, _⟩, _, s⟩
    rw [e] at s
    exact ⟨v, e, ti, s⟩
  · exact t_i q.1 rfl
theorem rm_rate {G : zG} {us : Nat} {g : Nat → Nat → Int} (a0 : Int) (a1 : Int) (v : Int) (H : PH) (h : TI g H) (hs : SPEC 255 [(2, 590), (0, a0), (0, a1)] H (fun r' H2 => r' = some (0, v) ∧ REL H2)) (za0 : zIn a0) (za1 : zIn a1) : Ca G us 3 255 [(2, 590), (0, a0), (0, a1)] H (fun r H' => r = some (0, v) ∧ TI g H' ∧ REL H') := by
  refine Ca_mono (Nat.le_refl _) ?_ (Ca_spec (qm_rate a0 a1 H h za0 za1) hs (pokA [a0, a1] 590 (by decide) (by decide) (by intro x hx; simp only [List.mem_cons, List.not_mem_nil, or_false] at hx; rcases hx with rfl | rfl <;> assumption)) (fun p H' q => ?_) (fun p H' q => t_i ⟨_, q.1⟩ rfl))
  · rintro r H' ⟨⟨_, ti, _⟩, s⟩
    exact ⟨s.1, ti, s.2⟩
  · exact t_i q.1 rfl
theorem rc_deliver {G : zG} {us : Nat} {g : Nat → Nat → Int} (a0 : Int) (a1 : Int) (H : PH) (h : TI g H) (hr : REL H) (za0 : zIn a0) (za1 : zIn a1) : Ca G us 12 137 [(2, 0), (0, a0), (0, a1)] H (fun r H' => ∃ v, r = some (0, v) ∧ TI g H' ∧ SPEC 256 [(2, 590), (0, a0), (0, a1)] H' (fun r' H2 => r' = some (0, v) ∧ REL H2)) := by
  refine Ca_mono (Nat.le_refl _) ?_ (Ca_spec (qc_deliver a0 a1 H h za0 za1) (pr_deliver a0 a1 H hr) (pokA [a0, a1] 0 (by decide) (by decide) (by intro x hx; simp only [List.mem_cons, List.not_mem_nil, or_false] at hx; rcases hx with rfl | rfl <;> assumption)) (fun p H' q => ?_) (fun p H' q => t_i q.1 rfl))
  · rintro r H' ⟨⟨⟨v, e⟩, ti, _⟩, _, s⟩
    rw [e] at s
    exact ⟨v, e, ti, s⟩
  · exact t_i q.1 rfl
theorem rm_deliver {G : zG} {us : Nat} {g : Nat → Nat → Int} (a0 : Int) (a1 : Int) (v : Int) (H : PH) (h : TI g H) (hs : SPEC 256 [(2, 590), (0, a0), (0, a1)] H (fun r' H2 => r' = some (0, v) ∧ REL H2)) (za0 : zIn a0) (za1 : zIn a1) : Ca G us 11 256 [(2, 590), (0, a0), (0, a1)] H (fun r H' => r = some (0, v) ∧ TI g H' ∧ REL H') := by
  refine Ca_mono (Nat.le_refl _) ?_ (Ca_spec (qm_deliver a0 a1 H h za0 za1) hs (pokA [a0, a1] 590 (by decide) (by decide) (by intro x hx; simp only [List.mem_cons, List.not_mem_nil, or_false] at hx; rcases hx with rfl | rfl <;> assumption)) (fun p H' q => ?_) (fun p H' q => t_i ⟨_, q.1⟩ rfl))
  · rintro r H' ⟨⟨_, ti, _⟩, s⟩
    exact ⟨s.1, ti, s.2⟩
  · exact t_i q.1 rfl
theorem rc_gone {G : zG} {us : Nat} {g : Nat → Nat → Int} (a0 : Int) (H : PH) (h : TI g H) (hr : REL H) (za0 : zIn a0) : Ca G us 3 138 [(2, 0), (0, a0)] H (fun r H' => ∃ v, r = some (0, v) ∧ TI g H' ∧ REL H') := by
  refine Ca_mono (Nat.le_refl _) ?_ (Ca_rf (ct_X11_gone G us (gH H) H _ (GOK_gH h.2.2) (WT_self h.1) ⟨sref 0 (by decide) rfl, vin za0.1 (zIn_hi za0), trivial⟩ (fun f hf => by cases hf)))
  rintro r H' ⟨q, r1, r2⟩
  obtain ⟨⟨v, e⟩, ti, _⟩ := qfin h q.1 q.2.1
  exact ⟨v, e, ti, REL_md (by decide +kernel) hr q.2.2.2.1 r1 r2 ⟨(SM_frz q.1).1.1, (SM_frz q.1).2⟩⟩
theorem rm_gone {G : zG} {us : Nat} {g : Nat → Nat → Int} (a0 : Int) (H : PH) (h : TI g H) (hr : REL H) (za0 : zIn a0) : Ca G us 3 257 [(2, 590), (0, a0)] H (fun r H' => ∃ v, r = some (0, v) ∧ TI g H' ∧ REL H') := by
  refine Ca_mono (Nat.le_refl _) ?_ (Ca_rf (ct_X12_gone G us (gH H) H _ (GOK_gH h.2.2) (WT_self h.1) ⟨sref 590 (by decide) rfl, vin za0.1 (zIn_hi za0), trivial⟩ (fun f hf => by cases hf)))
  rintro r H' ⟨q, r1, r2⟩
  obtain ⟨⟨v, e⟩, ti, _⟩ := qfin h q.1 q.2.1
  exact ⟨v, e, ti, REL_md (by decide +kernel) hr q.2.2.2.1 r1 r2 ⟨(SM_frz q.1).1.1, (SM_frz q.1).2⟩⟩
theorem rc_settled {G : zG} {us : Nat} {g : Nat → Nat → Int} (a0 : Int) (H : PH) (h : TI g H) (hr : REL H) (za0 : zIn a0) : Ca G us 7 139 [(2, 0), (0, a0)] H (fun r H' => ∃ v, r = some (0, v) ∧ TI g H' ∧ REL H') := by
  refine Ca_mono (Nat.le_refl _) ?_ (Ca_spec (qc_settled a0 H h za0) (rq_settled a0 H hr) (pokA [a0] 0 (by decide) (by decide) (by intro x hx; simp only [List.mem_cons, List.not_mem_nil, or_false] at hx; rcases hx with rfl <;> assumption)) (fun p H' q => t_i q.1 rfl) (fun p H' q => t_i q.1 rfl))
  rintro r H' ⟨⟨⟨v, e⟩, ti, _⟩, _, s⟩
  exact ⟨v, e, ti, s⟩
theorem rm_settled {G : zG} {us : Nat} {g : Nat → Nat → Int} (a0 : Int) (H : PH) (h : TI g H) (hr : REL H) (za0 : zIn a0) : Ca G us 9 263 [(2, 590), (0, a0)] H (fun r H' => ∃ v, r = some (0, v) ∧ TI g H' ∧ REL H') := by
  refine Ca_mono (Nat.le_refl _) ?_ (Ca_rf (ct_X12_settled G us (gH H) H _ (GOK_gH h.2.2) (WT_self h.1) ⟨sref 590 (by decide) rfl, vin za0.1 (zIn_hi za0), trivial⟩ (fun f hf => by cases hf)))
  rintro r H' ⟨q, r1, r2⟩
  obtain ⟨⟨v, e⟩, ti, _⟩ := qfin h q.1 q.2.1
  exact ⟨v, e, ti, REL_md (by decide +kernel) hr q.2.2.2.1 r1 r2 ⟨(SM_frz q.1).1.1, (SM_frz q.1).2⟩⟩
theorem rc_cure {G : zG} {us : Nat} {g : Nat → Nat → Int} (a0 : Int) (H : PH) (h : TI g H) (hr : REL H) (za0 : zIn a0) : Ca G us 6 140 [(2, 0), (0, a0)] H (fun r H' => ∃ v, r = some (0, v) ∧ TI g H' ∧ REL H') := by
  refine Ca_mono (Nat.le_refl _) ?_ (Ca_spec (qc_cure a0 H h za0) (rq_cure a0 H hr) (pokA [a0] 0 (by decide) (by decide) (by intro x hx; simp only [List.mem_cons, List.not_mem_nil, or_false] at hx; rcases hx with rfl <;> assumption)) (fun p H' q => t_i q.1 rfl) (fun p H' q => t_i q.1 rfl))
  rintro r H' ⟨⟨⟨v, e⟩, ti, _⟩, _, s⟩
  exact ⟨v, e, ti, s⟩
theorem rm_cure {G : zG} {us : Nat} {g : Nat → Nat → Int} (a0 : Int) (H : PH) (h : TI g H) (hr : REL H) (za0 : zIn a0) : Ca G us 8 265 [(2, 590), (0, a0)] H (fun r H' => ∃ v, r = some (0, v) ∧ TI g H' ∧ REL H') := by
  refine Ca_mono (Nat.le_refl _) ?_ (Ca_spec (qm_cure a0 H h za0) (rq_mCure a0 H hr) (pokA [a0] 590 (by decide) (by decide) (by intro x hx; simp only [List.mem_cons, List.not_mem_nil, or_false] at hx; rcases hx with rfl <;> assumption)) (fun p H' q => t_i q.1 rfl) (fun p H' q => t_i q.1 rfl))
  rintro r H' ⟨⟨⟨v, e⟩, ti, _⟩, _, s⟩
  exact ⟨v, e, ti, s⟩
theorem rc_strike {G : zG} {us : Nat} {g : Nat → Nat → Int} (a0 : Int) (H : PH) (h : TI g H) (hr : REL H) (za0 : zIn a0) : Ca G us 4 141 [(2, 0), (0, a0)] H (fun r H' => ∃ v, r = some (0, v) ∧ TI g H' ∧ SPEC 266 [(2, 590), (0, a0)] H' (fun r' H2 => r' = some (0, v) ∧ REL H2)) := by
  refine Ca_mono (Nat.le_refl _) ?_ (Ca_spec (qc_strike a0 H h za0) (pr_strike a0 H hr) (pokA [a0] 0 (by decide) (by decide) (by intro x hx; simp only [List.mem_cons, List.not_mem_nil, or_false] at hx; rcases hx with rfl <;> assumption)) (fun p H' q => ?_) (fun p H' q => t_i q.1 rfl))
  · rintro r H' ⟨⟨⟨v, e⟩, ti, _⟩, _, s⟩
    rw [e] at s
    exact ⟨v, e, ti, s⟩
  · exact t_i q.1 rfl
theorem rm_strike {G : zG} {us : Nat} {g : Nat → Nat → Int} (a0 : Int) (v : Int) (H : PH) (h : TI g H) (hs : SPEC 266 [(2, 590), (0, a0)] H (fun r' H2 => r' = some (0, v) ∧ REL H2)) (za0 : zIn a0) : Ca G us 3 266 [(2, 590), (0, a0)] H (fun r H' => r = some (0, v) ∧ TI g H' ∧ REL H') := by
  refine Ca_mono (Nat.le_refl _) ?_ (Ca_spec (qm_strike a0 H h za0) hs (pokA [a0] 590 (by decide) (by decide) (by intro x hx; simp only [List.mem_cons, List.not_mem_nil, or_false] at hx; rcases hx with rfl <;> assumption)) (fun p H' q => ?_) (fun p H' q => t_i ⟨_, q.1⟩ rfl))
  · rintro r H' ⟨⟨_, ti, _⟩, s⟩
    exact ⟨s.1, ti, s.2⟩
  · exact t_i q.1 rfl
theorem rc_back {G : zG} {us : Nat} {g : Nat → Nat → Int} (H : PH) (h : TI g H) (hr : REL H) : Ca G us 9 142 [(2, 0)] H (fun r H' => ∃ v, r = some (0, v) ∧ TI g H' ∧ SPEC 159 [(2, 590)] H' (fun r' H2 => r' = some (0, v) ∧ REL H2)) := by
  refine Ca_mono (Nat.le_refl _) ?_ (Ca_spec (qc_back  H h ) (pr_back  H hr) (pokA [] 0 (by decide) (by decide) (by intro x hx; cases hx)) (fun p H' q => ?_) (fun p H' q => t_i q.1 rfl))
  · rintro r H' ⟨⟨⟨v, e⟩, ti, _⟩, _, s⟩
    rw [e] at s
    exact ⟨v, e, ti, s⟩
  · exact t_i q.1 rfl
theorem rm_back {G : zG} {us : Nat} {g : Nat → Nat → Int} (v : Int) (H : PH) (h : TI g H) (hs : SPEC 159 [(2, 590)] H (fun r' H2 => r' = some (0, v) ∧ REL H2)) : Ca G us 1 159 [(2, 590)] H (fun r H' => r = some (0, v) ∧ TI g H' ∧ REL H') := by
  refine Ca_mono (Nat.le_refl _) ?_ (Ca_spec (qm_back  H h ) hs (pokA [] 590 (by decide) (by decide) (by intro x hx; cases hx)) (fun p H' q => ?_) (fun p H' q => t_i ⟨_, q.1⟩ rfl))
  · rintro r H' ⟨⟨_, ti, _⟩, s⟩
    exact ⟨s.1, ti, s.2⟩
  · exact t_i q.1 rfl
theorem rc_write {G : zG} {us : Nat} {g : Nat → Nat → Int} (H : PH) (h : TI g H) (hr : REL H) : Ca G us 3 143 [(2, 0)] H (fun r H' => ∃ v, r = some (0, v) ∧ TI g H' ∧ REL H') := by
  refine Ca_mono (Nat.le_refl _) ?_ (Ca_rf (ct_X11_write G us (gH H) H _ (GOK_gH h.2.2) (WT_self h.1) ⟨sref 0 (by decide) rfl, trivial⟩ (fun f hf => by cases hf)))
  rintro r H' ⟨q, r1, r2⟩
  obtain ⟨⟨v, e⟩, ti, _⟩ := qfin h q.1 q.2.1
  exact ⟨v, e, ti, REL_md (by decide +kernel) hr q.2.2.2.1 r1 r2 ⟨(SM_frz q.1).1.1, (SM_frz q.1).2⟩⟩
theorem rm_write {G : zG} {us : Nat} {g : Nat → Nat → Int} (H : PH) (h : TI g H) (hr : REL H) : Ca G us 3 269 [(2, 590)] H (fun r H' => ∃ v, r = some (0, v) ∧ TI g H' ∧ REL H') := by
  refine Ca_mono (Nat.le_refl _) ?_ (Ca_rf (ct_X12_write G us (gH H) H _ (GOK_gH h.2.2) (WT_self h.1) ⟨sref 590 (by decide) rfl, trivial⟩ (fun f hf => by cases hf)))
  rintro r H' ⟨q, r1, r2⟩
  obtain ⟨⟨v, e⟩, ti, _⟩ := qfin h q.1 q.2.1
  exact ⟨v, e, ti, REL_md (by decide +kernel) hr q.2.2.2.1 r1 r2 ⟨(SM_frz q.1).1.1, (SM_frz q.1).2⟩⟩
theorem rc_octet {G : zG} {us : Nat} {g : Nat → Nat → Int} (a0 : Int) (H : PH) (h : TI g H) (hr : REL H) (za0 : zIn a0) : Ca G us 2 144 [(2, 0), (0, a0)] H (fun r H' => ∃ v, r = some (0, v) ∧ TI g H' ∧ REL H') := by
  refine Ca_mono (Nat.le_refl _) ?_ (Ca_rf (ct_X11_octet G us (gH H) H _ (GOK_gH h.2.2) (WT_self h.1) ⟨sref 0 (by decide) rfl, vin za0.1 (zIn_hi za0), trivial⟩ (fun f hf => by cases hf)))
  rintro r H' ⟨q, r1, r2⟩
  obtain ⟨⟨v, e⟩, ti, _⟩ := qfin h q.1 q.2.1
  exact ⟨v, e, ti, REL_md (by decide +kernel) hr q.2.2.2.1 r1 r2 ⟨(SM_frz q.1).1.1, (SM_frz q.1).2⟩⟩
theorem rm_octet {G : zG} {us : Nat} {g : Nat → Nat → Int} (a0 : Int) (H : PH) (h : TI g H) (hr : REL H) (za0 : zIn a0) : Ca G us 2 270 [(2, 590), (0, a0)] H (fun r H' => ∃ v, r = some (0, v) ∧ TI g H' ∧ REL H') := by
  refine Ca_mono (Nat.le_refl _) ?_ (Ca_rf (ct_X12_octet G us (gH H) H _ (GOK_gH h.2.2) (WT_self h.1) ⟨sref 590 (by decide) rfl, vin za0.1 (zIn_hi za0), trivial⟩ (fun f hf => by cases hf)))
  rintro r H' ⟨q, r1, r2⟩
  obtain ⟨⟨v, e⟩, ti, _⟩ := qfin h q.1 q.2.1
  exact ⟨v, e, ti, REL_md (by decide +kernel) hr q.2.2.2.1 r1 r2 ⟨(SM_frz q.1).1.1, (SM_frz q.1).2⟩⟩
