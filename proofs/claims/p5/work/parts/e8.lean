/-! ===== queries of the class that measure: the states stay side by side ===== -/
theorem rq_read (k : Int) (H : PH) (h : REL H) : SPEC 114 [(2, 0), (0, k)] H (fun r H1 => (∃ v, r = some (0, v)) ∧ REL H1) := by
  obtain ⟨⟨S, n, rl⟩, tp⟩ := h
  intro E N res hh
  obtain ⟨r, H1, g, e, cq⟩ := sp_c_read k S n H rl.2.1 rl.2.2.1 E N res hh
  exact ⟨r, H1, g, ⟨_, e⟩, REL_CQ rl tp cq⟩
theorem rq_apart (k b : Int) (H : PH) (h : REL H) : SPEC 113 [(2, 0), (0, k), (0, b)] H (fun r H1 => (∃ v, r = some (0, v)) ∧ REL H1) := by
  obtain ⟨⟨S, n, rl⟩, tp⟩ := h
  intro E N res hh
  obtain ⟨r, H1, g, e, cq⟩ := sp_c_apart k b S n H rl.2.1 rl.2.2.1 E N res hh
  exact ⟨r, H1, g, ⟨_, e⟩, REL_CQ rl tp cq⟩
theorem rq_least (k : Int) (H : PH) (h : REL H) : SPEC 115 [(2, 0), (0, k)] H (fun r H1 => (∃ v, r = some (0, v)) ∧ REL H1) := by
  obtain ⟨⟨S, n, rl⟩, tp⟩ := h
  intro E N res hh
  obtain ⟨r, H1, g, e, cq⟩ := sp_c_least k S n H rl.2.1 rl.2.2.1 E N res hh
  exact ⟨r, H1, g, ⟨_, e⟩, REL_CQ rl tp cq⟩
theorem rq_heap (u w : Int) (H : PH) (h : REL H) : SPEC 116 [(2, 0), (0, u), (0, w)] H (fun r H1 => (∃ v, r = some (0, v)) ∧ REL H1) := by
  obtain ⟨⟨S, n, rl⟩, tp⟩ := h
  intro E N res hh
  obtain ⟨r, H1, g, e, cq⟩ := sp_c_heap u w S n H rl.2.1 rl.2.2.1 E N res hh
  exact ⟨r, H1, g, ⟨_, e⟩, REL_CQ rl tp cq⟩
theorem rq_tally (b w : Int) (H : PH) (h : REL H) : SPEC 117 [(2, 0), (0, b), (0, w)] H (fun r H1 => (∃ v, r = some (0, v)) ∧ REL H1) := by
  obtain ⟨⟨S, n, rl⟩, tp⟩ := h
  intro E N res hh
  obtain ⟨r, H1, g, e, cq⟩ := sp_c_tally b w S n H rl.2.1 rl.2.2.1 E N res hh
  exact ⟨r, H1, g, ⟨_, e⟩, REL_CQ rl tp cq⟩
theorem rq_brought (s b : Int) (H : PH) (h : REL H) : SPEC 118 [(2, 0), (0, s), (0, b)] H (fun r H1 => (∃ v, r = some (0, v)) ∧ REL H1) := by
  obtain ⟨⟨S, n, rl⟩, tp⟩ := h
  intro E N res hh
  obtain ⟨r, H1, g, e, cq⟩ := sp_c_brought s b S n H rl.2.1 rl.2.2.1 E N res hh
  exact ⟨r, H1, g, ⟨_, e⟩, REL_CQ rl tp cq⟩
theorem rq_matched (w : Int) (H : PH) (h : REL H) : SPEC 119 [(2, 0), (0, w)] H (fun r H1 => (∃ v, r = some (0, v)) ∧ REL H1) := by
  obtain ⟨⟨S, n, rl⟩, tp⟩ := h
  intro E N res hh
  obtain ⟨r, H1, g, e, cq⟩ := sp_c_matched w S n H rl.2.1 rl.2.2.1 E N res hh
  exact ⟨r, H1, g, ⟨_, e⟩, REL_CQ rl tp cq⟩
theorem rq_shed (b : Int) (H : PH) (h : REL H) : SPEC 134 [(2, 0), (0, b)] H (fun r H1 => (∃ v, r = some (0, v)) ∧ REL H1) := by
  obtain ⟨⟨S, n, rl⟩, tp⟩ := h
  intro E N res hh
  obtain ⟨r, H1, g, e, cq⟩ := sp_c_shed b S n H rl.2.1 rl.2.2.1 E N res hh
  exact ⟨r, H1, g, ⟨_, e⟩, REL_CQ rl tp cq⟩
theorem rq_hold (u w : Int) (H : PH) (h : REL H) : SPEC 129 [(2, 0), (0, u), (0, w)] H (fun r H1 => (∃ v, r = some (0, v)) ∧ REL H1) := by
  obtain ⟨⟨S, n, rl⟩, tp⟩ := h
  intro E N res hh
  obtain ⟨r, H1, g, e, cq⟩ := sp_c_hold u w S n H rl.2.1 rl.2.2.1 E N res hh
  exact ⟨r, H1, g, ⟨_, e⟩, REL_CQ rl tp cq⟩
theorem rq_close (u : Int) (H : PH) (h : REL H) : SPEC 130 [(2, 0), (0, u)] H (fun r H1 => (∃ v, r = some (0, v)) ∧ REL H1) := by
  obtain ⟨⟨S, n, rl⟩, tp⟩ := h
  intro E N res hh
  obtain ⟨r, H1, g, e, cq⟩ := sp_c_close u S n H rl.2.1 rl.2.2.1 E N res hh
  exact ⟨r, H1, g, ⟨_, e⟩, REL_CQ rl tp cq⟩
theorem rq_is (w : Int) (H : PH) (h : REL H) : SPEC 110 [(2, 0), (0, w)] H (fun r H1 => (∃ v, r = some (0, v)) ∧ REL H1) := by
  obtain ⟨⟨S, n, rl⟩, tp⟩ := h
  intro E N res hh
  obtain ⟨r, H1, g, e, cq⟩ := sp_c_is w (H 213 1) S n H rl.2.1 rl.2.2.1 rfl E N res hh
  exact ⟨r, H1, g, ⟨_, e⟩, REL_CQ rl tp cq⟩
theorem rq_paid (b : Int) (H : PH) (h : REL H) : SPEC 127 [(2, 0), (0, b)] H (fun r H1 => (∃ v, r = some (0, v)) ∧ REL H1) := by
  obtain ⟨⟨S, n, rl⟩, tp⟩ := h
  intro E N res hh
  obtain ⟨r, H1, g, e, cq⟩ := sp_c_paid b S n H rl.2.1 rl.2.2.1 E N res hh
  exact ⟨r, H1, g, ⟨_, e⟩, REL_CQ rl tp cq⟩
theorem rq_settled (k : Int) (H : PH) (h : REL H) : SPEC 139 [(2, 0), (0, k)] H (fun r H1 => (∃ v, r = some (0, v)) ∧ REL H1) := by
  obtain ⟨⟨S, n, rl⟩, tp⟩ := h
  intro E N res hh
  obtain ⟨r, H1, g, ⟨v, e⟩, cq⟩ := sf_settled k S n H rl.2.1 rl.2.2.1 E N res hh
  exact ⟨r, H1, g, ⟨_, e⟩, REL_CQ rl tp cq⟩
theorem rq_cure (k : Int) (H : PH) (h : REL H) : SPEC 140 [(2, 0), (0, k)] H (fun r H1 => (∃ v, r = some (0, v)) ∧ REL H1) := by
  obtain ⟨⟨S, n, rl⟩, tp⟩ := h
  intro E N res hh
  obtain ⟨r, H1, g, ⟨v, e⟩, cq⟩ := sf_cure k S n H rl.2.1 rl.2.2.1 E N res hh
  exact ⟨r, H1, g, ⟨_, e⟩, REL_CQ rl tp cq⟩
/-- the model's cure -/
theorem rq_mCure (k : Int) (H : PH) (h : REL H) : SPEC 265 [(2, 590), (0, k)] H (fun r H1 => (∃ v, r = some (0, v)) ∧ REL H1) := by
  have h' := h
  obtain ⟨⟨S, n, rl⟩, tp⟩ := h'
  have ok : OKR (H 591) := by rw [← rl.1]; exact RC_sz rl.2.1
  intro E N res hh
  obtain ⟨r, H1, g, e, mq⟩ := sf_mCure k H ok E N res hh
  exact ⟨r, H1, g, e, REL_MQc h mq⟩
/-- the class's matching, asked for by itself -/
theorem rq_match (H : PH) (h : REL H) : SPEC 151 [(2, 0)] H (fun r H1 => r = none ∧ REL H1) := by
  obtain ⟨⟨S, n, rl⟩, tp⟩ := h
  intro E N res hh
  obtain ⟨r, H1, g, e, cq, _⟩ := sp_c_match S n H rl.2.1 rl.2.2.1 E N res hh
  exact ⟨r, H1, g, e, REL_CQ rl tp cq⟩
