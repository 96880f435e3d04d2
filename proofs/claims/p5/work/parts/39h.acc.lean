/-! ===== places of single cells ===== -/
noncomputable def okf (c i : Nat) (lo hi : Int) : Bool := Nat.blt c 622 && Nat.blt i (zSh c).2.1 && (zrt c i).isNone && Nat.beq (fty (tau c) i).1 0 && decide ((fty (tau c) i).2.1 = lo) && decide ((fty (tau c) i).2.2.1 = hi) && Nat.beq (fty (tau c) i).2.2.2 1
noncomputable def oka (c : Nat) (n : Nat) (lo hi : Int) : Bool := Nat.blt c 622 && Nat.beq n (zSh c).2.1 && (Nat.ble 16 (zSh c).1 && Nat.ble (zSh c).1 18) && Nat.ble 33 (tau c) && Nat.beq (fty (tau c) 0).1 0 && decide ((fty (tau c) 0).2.1 = lo) && decide ((fty (tau c) 0).2.2.1 = hi) && Nat.beq (fty (tau c) 0).2.2.2 1
section ACC
variable {lv : Nat} {g : Nat → Nat → Int} {H : PH}
theorem okf_ok {c i : Nat} {lo hi : Int} (h : okf c i lo hi = true) : c < 622 ∧ i < (zSh c).2.1 ∧ zrt c i = none ∧ fty (tau c) i = (0, lo, hi, 1) := by
  unfold okf at h
  simp only [Bool.and_eq_true, decide_eq_true_iff] at h
  obtain ⟨⟨⟨⟨⟨⟨h1, h2⟩, h3⟩, h4⟩, h5⟩, h6⟩, h7⟩ := h
  refine ⟨Nat.blt_eq.mp h1, Nat.blt_eq.mp h2, Option.isNone_iff_eq_none.mp h3, ?_⟩
  have h4 := Nat.eq_of_beq_eq_true h4
  have h7 := Nat.eq_of_beq_eq_true h7
  rw [← h4, ← h5, ← h6, ← h7]
theorem oka_ok {c n : Nat} {lo hi : Int} (h : oka c n lo hi = true) : c < 622 ∧ n = (zSh c).2.1 ∧ (∀ i, zrt c i = none) ∧ 33 ≤ tau c ∧ ∀ i, fty (tau c) i = (0, lo, hi, 1) := by
  unfold oka at h
  simp only [Bool.and_eq_true, decide_eq_true_iff] at h
  obtain ⟨⟨⟨⟨⟨⟨⟨h1, h2⟩, h3⟩, h4⟩, h5⟩, h6⟩, h7⟩, h8⟩ := h
  have h33 := Nat.le_of_ble_eq_true h4
  refine ⟨Nat.blt_eq.mp h1, Nat.eq_of_beq_eq_true h2, fun i => zrt_row (Nat.blt_eq.mp h1) ⟨Nat.le_of_ble_eq_true h3.1, Nat.le_of_ble_eq_true h3.2⟩, h33, fun i => ?_⟩
  have h5 := Nat.eq_of_beq_eq_true h5
  have h8 := Nat.eq_of_beq_eq_true h8
  rw [fty_row h33]
  exact Prod.ext h5 (Prod.ext h6 (Prod.ext h7 h8))
theorem fz_no {t i : Nat} (h : fz 0 t i = false) : fz lv t i = false := by
  cases hb : fz lv t i with
  | false => rfl
  | true => rw [fz_mono (Nat.zero_le _) hb] at h; cases h
theorem WT_rf {c i : Nat} {lo hi : Int} (hW : WT lv g H) (h : okf c i lo hi = true) : lo ≤ H c i ∧ H c i ≤ hi := by
  obtain ⟨h1, h2, h3, h4⟩ := okf_ok h
  have q := (hW c i h1 h2).1
  rw [h4, gv_none (by rw [Int.toNat_natCast, Int.toNat_natCast]; exact h3)] at q
  exact ⟨(q.2.1 rfl).1, (q.2.1 rfl).2.1⟩
theorem WT_wf {c i : Nat} {lo hi v : Int} (hW : WT lv g H) (h : okf c i lo hi = true) (hz : fz lv (tau c) i = false) (h1 : lo ≤ v) (h2 : v ≤ hi) : WT lv g (pup H c i v) := by
  obtain ⟨k1, k2, k3, k4⟩ := okf_ok h
  refine WT_up hW k3 ?_ hz
  rw [k4]
  exact aval_mk ⟨h1, h2, dvd_one _⟩
theorem WT_ra {c n : Nat} {lo hi i : Int} (hW : WT lv g H) (h : oka c n lo hi = true) (h1 : 0 ≤ i) (h2 : i < n) : lo ≤ H c i ∧ H c i ≤ hi := by
  obtain ⟨k1, k2, k3, k4, k5⟩ := oka_ok h
  have ei : ((i.toNat : Nat) : Int) = i := by omega
  have q := (hW c i.toNat k1 (by omega)).1
  rw [k5, ei, gv_none (by rw [Int.toNat_natCast]; exact k3 _)] at q
  exact ⟨(q.2.1 rfl).1, (q.2.1 rfl).2.1⟩
theorem WT_wa {c n : Nat} {lo hi i v : Int} (hW : WT lv g H) (h : oka c n lo hi = true) (hz : fz lv (tau c) 0 = false) (h0 : 0 ≤ i) (h1 : lo ≤ v) (h2 : v ≤ hi) : WT lv g (pup H c i v) := by
  obtain ⟨k1, k2, k3, k4, k5⟩ := oka_ok h
  have ei : ((i.toNat : Nat) : Int) = i := by omega
  rw [← ei]
  refine WT_up hW (k3 _) ?_ (by rw [fz_row k4]; exact hz)
  rw [k5]
  exact aval_mk ⟨h1, h2, dvd_one _⟩
theorem frm_up {md : List Nat} {c : Nat} {i v : Int} {H0 : PH} (h : frm md H0 H) (hz : zrt c i.toNat = none) (hm : inmd md (tau c) i = true) : frm md H0 (pup H c i v) := by
  intro c' y z q
  rw [gv_pup (by rw [Int.toNat_natCast]; exact hz), if_neg]
  · exact h c' y z q
  · rintro ⟨e1, e2⟩
    have e3 : c' = c := by omega
    rw [e3, e2, hm] at q
    cases q
theorem rf_1_2 (h : WT lv g H) : 0 ≤ H 1 2 ∧ H 1 2 ≤ 12 := WT_rf (c := 1) (i := 2) h (by decide +kernel)
theorem ff_1_2 {md : List Nat} {v : Int} {H0 : PH} (h : frm md H0 H) (hm : inmd md 1 2 = true) : frm md H0 (pup H 1 2 v) := frm_up (c := 1) (i := 2) h (by decide +kernel) (by rw [show tau 1 = 1 from rfl]; exact hm)
theorem rf_1_4 (h : WT lv g H) : 0 ≤ H 1 4 ∧ H 1 4 ≤ 60 := WT_rf (c := 1) (i := 4) h (by decide +kernel)
theorem wf_1_4 {v : Int} (h : WT lv g H) (h1 : 0 ≤ v) (h2 : v ≤ 60) : WT lv g (pup H 1 4 v) := WT_wf (c := 1) (i := 4) (lo := 0) (hi := 60) h (by decide +kernel) (fz_no (by decide +kernel)) h1 h2
theorem ff_1_4 {md : List Nat} {v : Int} {H0 : PH} (h : frm md H0 H) (hm : inmd md 1 4 = true) : frm md H0 (pup H 1 4 v) := frm_up (c := 1) (i := 4) h (by decide +kernel) (by rw [show tau 1 = 1 from rfl]; exact hm)
theorem rf_1_7 (h : WT lv g H) : -2147483648 ≤ H 1 7 ∧ H 1 7 ≤ 2147483647 := WT_rf (c := 1) (i := 7) h (by decide +kernel)
theorem wf_1_7 {v : Int} (h : WT lv g H) (h1 : -2147483648 ≤ v) (h2 : v ≤ 2147483647) : WT lv g (pup H 1 7 v) := WT_wf (c := 1) (i := 7) (lo := -2147483648) (hi := 2147483647) h (by decide +kernel) (fz_no (by decide +kernel)) h1 h2
theorem ff_1_7 {md : List Nat} {v : Int} {H0 : PH} (h : frm md H0 H) (hm : inmd md 1 7 = true) : frm md H0 (pup H 1 7 v) := frm_up (c := 1) (i := 7) h (by decide +kernel) (by rw [show tau 1 = 1 from rfl]; exact hm)
theorem rf_1_8 (h : WT lv g H) : 0 ≤ H 1 8 ∧ H 1 8 ≤ 24 := WT_rf (c := 1) (i := 8) h (by decide +kernel)
theorem wf_1_8 {v : Int} (h : WT lv g H) (h1 : 0 ≤ v) (h2 : v ≤ 24) : WT lv g (pup H 1 8 v) := WT_wf (c := 1) (i := 8) (lo := 0) (hi := 24) h (by decide +kernel) (fz_no (by decide +kernel)) h1 h2
theorem ff_1_8 {md : List Nat} {v : Int} {H0 : PH} (h : frm md H0 H) (hm : inmd md 1 8 = true) : frm md H0 (pup H 1 8 v) := frm_up (c := 1) (i := 8) h (by decide +kernel) (by rw [show tau 1 = 1 from rfl]; exact hm)
theorem rf_1_9 (h : WT lv g H) : -2147483648 ≤ H 1 9 ∧ H 1 9 ≤ 2147483647 := WT_rf (c := 1) (i := 9) h (by decide +kernel)
theorem wf_1_9 {v : Int} (h : WT lv g H) (h1 : -2147483648 ≤ v) (h2 : v ≤ 2147483647) : WT lv g (pup H 1 9 v) := WT_wf (c := 1) (i := 9) (lo := -2147483648) (hi := 2147483647) h (by decide +kernel) (fz_no (by decide +kernel)) h1 h2
theorem ff_1_9 {md : List Nat} {v : Int} {H0 : PH} (h : frm md H0 H) (hm : inmd md 1 9 = true) : frm md H0 (pup H 1 9 v) := frm_up (c := 1) (i := 9) h (by decide +kernel) (by rw [show tau 1 = 1 from rfl]; exact hm)
theorem rf_1_10 (h : WT lv g H) : -2147483648 ≤ H 1 10 ∧ H 1 10 ≤ 2147483647 := WT_rf (c := 1) (i := 10) h (by decide +kernel)
theorem wf_1_10 {v : Int} (h : WT lv g H) (h1 : -2147483648 ≤ v) (h2 : v ≤ 2147483647) : WT lv g (pup H 1 10 v) := WT_wf (c := 1) (i := 10) (lo := -2147483648) (hi := 2147483647) h (by decide +kernel) (fz_no (by decide +kernel)) h1 h2
theorem ff_1_10 {md : List Nat} {v : Int} {H0 : PH} (h : frm md H0 H) (hm : inmd md 1 10 = true) : frm md H0 (pup H 1 10 v) := frm_up (c := 1) (i := 10) h (by decide +kernel) (by rw [show tau 1 = 1 from rfl]; exact hm)
theorem rf_1_11 (h : WT lv g H) : -2147483648 ≤ H 1 11 ∧ H 1 11 ≤ 2147483647 := WT_rf (c := 1) (i := 11) h (by decide +kernel)
theorem wf_1_11 {v : Int} (h : WT lv g H) (h1 : -2147483648 ≤ v) (h2 : v ≤ 2147483647) : WT lv g (pup H 1 11 v) := WT_wf (c := 1) (i := 11) (lo := -2147483648) (hi := 2147483647) h (by decide +kernel) (fz_no (by decide +kernel)) h1 h2
theorem ff_1_11 {md : List Nat} {v : Int} {H0 : PH} (h : frm md H0 H) (hm : inmd md 1 11 = true) : frm md H0 (pup H 1 11 v) := frm_up (c := 1) (i := 11) h (by decide +kernel) (by rw [show tau 1 = 1 from rfl]; exact hm)
theorem rf_1_12 (h : WT lv g H) : -2147483648 ≤ H 1 12 ∧ H 1 12 ≤ 2147483647 := WT_rf (c := 1) (i := 12) h (by decide +kernel)
theorem wf_1_12 {v : Int} (h : WT lv g H) (h1 : -2147483648 ≤ v) (h2 : v ≤ 2147483647) : WT lv g (pup H 1 12 v) := WT_wf (c := 1) (i := 12) (lo := -2147483648) (hi := 2147483647) h (by decide +kernel) (fz_no (by decide +kernel)) h1 h2
theorem ff_1_12 {md : List Nat} {v : Int} {H0 : PH} (h : frm md H0 H) (hm : inmd md 1 12 = true) : frm md H0 (pup H 1 12 v) := frm_up (c := 1) (i := 12) h (by decide +kernel) (by rw [show tau 1 = 1 from rfl]; exact hm)
theorem rf_1_13 (h : WT lv g H) : -2147483648 ≤ H 1 13 ∧ H 1 13 ≤ 2147483647 := WT_rf (c := 1) (i := 13) h (by decide +kernel)
theorem wf_1_13 {v : Int} (h : WT lv g H) (h1 : -2147483648 ≤ v) (h2 : v ≤ 2147483647) : WT lv g (pup H 1 13 v) := WT_wf (c := 1) (i := 13) (lo := -2147483648) (hi := 2147483647) h (by decide +kernel) (fz_no (by decide +kernel)) h1 h2
theorem ff_1_13 {md : List Nat} {v : Int} {H0 : PH} (h : frm md H0 H) (hm : inmd md 1 13 = true) : frm md H0 (pup H 1 13 v) := frm_up (c := 1) (i := 13) h (by decide +kernel) (by rw [show tau 1 = 1 from rfl]; exact hm)
theorem rf_372_2 (h : WT lv g H) : 0 ≤ H 372 2 ∧ H 372 2 ≤ 1 := WT_rf (c := 372) (i := 2) h (by decide +kernel)
theorem wf_372_2 {v : Int} (h : WT lv g H) (h1 : 0 ≤ v) (h2 : v ≤ 1) : WT lv g (pup H 372 2 v) := WT_wf (c := 372) (i := 2) (lo := 0) (hi := 1) h (by decide +kernel) (fz_no (by decide +kernel)) h1 h2
theorem ff_372_2 {md : List Nat} {v : Int} {H0 : PH} (h : frm md H0 H) (hm : inmd md 3 2 = true) : frm md H0 (pup H 372 2 v) := frm_up (c := 372) (i := 2) h (by decide +kernel) (by rw [show tau 372 = 3 from rfl]; exact hm)
theorem rf_372_9 (h : WT lv g H) : -2147483648 ≤ H 372 9 ∧ H 372 9 ≤ 2147483647 := WT_rf (c := 372) (i := 9) h (by decide +kernel)
theorem wf_372_9 {v : Int} (h : WT lv g H) (h1 : -2147483648 ≤ v) (h2 : v ≤ 2147483647) : WT lv g (pup H 372 9 v) := WT_wf (c := 372) (i := 9) (lo := -2147483648) (hi := 2147483647) h (by decide +kernel) (fz_no (by decide +kernel)) h1 h2
theorem ff_372_9 {md : List Nat} {v : Int} {H0 : PH} (h : frm md H0 H) (hm : inmd md 3 9 = true) : frm md H0 (pup H 372 9 v) := frm_up (c := 372) (i := 9) h (by decide +kernel) (by rw [show tau 372 = 3 from rfl]; exact hm)
theorem rf_372_10 (h : WT lv g H) : -2147483648 ≤ H 372 10 ∧ H 372 10 ≤ 2147483647 := WT_rf (c := 372) (i := 10) h (by decide +kernel)
theorem wf_372_10 {v : Int} (h : WT lv g H) (h1 : -2147483648 ≤ v) (h2 : v ≤ 2147483647) : WT lv g (pup H 372 10 v) := WT_wf (c := 372) (i := 10) (lo := -2147483648) (hi := 2147483647) h (by decide +kernel) (fz_no (by decide +kernel)) h1 h2
theorem ff_372_10 {md : List Nat} {v : Int} {H0 : PH} (h : frm md H0 H) (hm : inmd md 3 10 = true) : frm md H0 (pup H 372 10 v) := frm_up (c := 372) (i := 10) h (by decide +kernel) (by rw [show tau 372 = 3 from rfl]; exact hm)
theorem rf_221_2 (h : WT lv g H) : 0 ≤ H 221 2 ∧ H 221 2 ≤ 1 := WT_rf (c := 221) (i := 2) h (by decide +kernel)
theorem wf_221_2 {v : Int} (h : WT lv g H) (h1 : 0 ≤ v) (h2 : v ≤ 1) : WT lv g (pup H 221 2 v) := WT_wf (c := 221) (i := 2) (lo := 0) (hi := 1) h (by decide +kernel) (fz_no (by decide +kernel)) h1 h2
theorem ff_221_2 {md : List Nat} {v : Int} {H0 : PH} (h : frm md H0 H) (hm : inmd md 6 2 = true) : frm md H0 (pup H 221 2 v) := frm_up (c := 221) (i := 2) h (by decide +kernel) (by rw [show tau 221 = 6 from rfl]; exact hm)
theorem rf_221_6 (h : WT lv g H) : 0 ≤ H 221 6 ∧ H 221 6 ≤ 72 := WT_rf (c := 221) (i := 6) h (by decide +kernel)
theorem wf_221_6 {v : Int} (h : WT lv g H) (h1 : 0 ≤ v) (h2 : v ≤ 72) : WT lv g (pup H 221 6 v) := WT_wf (c := 221) (i := 6) (lo := 0) (hi := 72) h (by decide +kernel) (fz_no (by decide +kernel)) h1 h2
theorem ff_221_6 {md : List Nat} {v : Int} {H0 : PH} (h : frm md H0 H) (hm : inmd md 6 6 = true) : frm md H0 (pup H 221 6 v) := frm_up (c := 221) (i := 6) h (by decide +kernel) (by rw [show tau 221 = 6 from rfl]; exact hm)
theorem rf_221_10 (h : WT lv g H) : -2147483648 ≤ H 221 10 ∧ H 221 10 ≤ 2147483647 := WT_rf (c := 221) (i := 10) h (by decide +kernel)
theorem wf_221_10 {v : Int} (h : WT lv g H) (h1 : -2147483648 ≤ v) (h2 : v ≤ 2147483647) : WT lv g (pup H 221 10 v) := WT_wf (c := 221) (i := 10) (lo := -2147483648) (hi := 2147483647) h (by decide +kernel) (fz_no (by decide +kernel)) h1 h2
theorem ff_221_10 {md : List Nat} {v : Int} {H0 : PH} (h : frm md H0 H) (hm : inmd md 6 10 = true) : frm md H0 (pup H 221 10 v) := frm_up (c := 221) (i := 10) h (by decide +kernel) (by rw [show tau 221 = 6 from rfl]; exact hm)
theorem rf_221_11 (h : WT lv g H) : -2147483648 ≤ H 221 11 ∧ H 221 11 ≤ 2147483647 := WT_rf (c := 221) (i := 11) h (by decide +kernel)
theorem wf_221_11 {v : Int} (h : WT lv g H) (h1 : -2147483648 ≤ v) (h2 : v ≤ 2147483647) : WT lv g (pup H 221 11 v) := WT_wf (c := 221) (i := 11) (lo := -2147483648) (hi := 2147483647) h (by decide +kernel) (fz_no (by decide +kernel)) h1 h2
theorem ff_221_11 {md : List Nat} {v : Int} {H0 : PH} (h : frm md H0 H) (hm : inmd md 6 11 = true) : frm md H0 (pup H 221 11 v) := frm_up (c := 221) (i := 11) h (by decide +kernel) (by rw [show tau 221 = 6 from rfl]; exact hm)
theorem rf_451_3 (h : WT lv g H) : 0 ≤ H 451 3 ∧ H 451 3 ≤ 5 := WT_rf (c := 451) (i := 3) h (by decide +kernel)
theorem wf_451_3 {v : Int} (h : WT lv g H) (h1 : 0 ≤ v) (h2 : v ≤ 5) : WT lv g (pup H 451 3 v) := WT_wf (c := 451) (i := 3) (lo := 0) (hi := 5) h (by decide +kernel) (fz_no (by decide +kernel)) h1 h2
theorem ff_451_3 {md : List Nat} {v : Int} {H0 : PH} (h : frm md H0 H) (hm : inmd md 7 3 = true) : frm md H0 (pup H 451 3 v) := frm_up (c := 451) (i := 3) h (by decide +kernel) (by rw [show tau 451 = 7 from rfl]; exact hm)
theorem rf_2_3 (h : WT lv g H) : 0 ≤ H 2 3 ∧ H 2 3 ≤ 8 := WT_rf (c := 2) (i := 3) h (by decide +kernel)
theorem wf_2_3 {v : Int} (h : WT lv g H) (h1 : 0 ≤ v) (h2 : v ≤ 8) : WT lv g (pup H 2 3 v) := WT_wf (c := 2) (i := 3) (lo := 0) (hi := 8) h (by decide +kernel) (fz_no (by decide +kernel)) h1 h2
theorem ff_2_3 {md : List Nat} {v : Int} {H0 : PH} (h : frm md H0 H) (hm : inmd md 8 3 = true) : frm md H0 (pup H 2 3 v) := frm_up (c := 2) (i := 3) h (by decide +kernel) (by rw [show tau 2 = 8 from rfl]; exact hm)
theorem rf_215_1 (h : WT lv g H) : 0 ≤ H 215 1 ∧ H 215 1 ≤ 1 := WT_rf (c := 215) (i := 1) h (by decide +kernel)
theorem wf_215_1 {v : Int} (h : WT lv g H) (h1 : 0 ≤ v) (h2 : v ≤ 1) : WT lv g (pup H 215 1 v) := WT_wf (c := 215) (i := 1) (lo := 0) (hi := 1) h (by decide +kernel) (fz_no (by decide +kernel)) h1 h2
theorem ff_215_1 {md : List Nat} {v : Int} {H0 : PH} (h : frm md H0 H) (hm : inmd md 9 1 = true) : frm md H0 (pup H 215 1 v) := frm_up (c := 215) (i := 1) h (by decide +kernel) (by rw [show tau 215 = 9 from rfl]; exact hm)
theorem rf_215_4 (h : WT lv g H) : 0 ≤ H 215 4 ∧ H 215 4 ≤ 60 := WT_rf (c := 215) (i := 4) h (by decide +kernel)
theorem wf_215_4 {v : Int} (h : WT lv g H) (h1 : 0 ≤ v) (h2 : v ≤ 60) : WT lv g (pup H 215 4 v) := WT_wf (c := 215) (i := 4) (lo := 0) (hi := 60) h (by decide +kernel) (fz_no (by decide +kernel)) h1 h2
theorem ff_215_4 {md : List Nat} {v : Int} {H0 : PH} (h : frm md H0 H) (hm : inmd md 9 4 = true) : frm md H0 (pup H 215 4 v) := frm_up (c := 215) (i := 4) h (by decide +kernel) (by rw [show tau 215 = 9 from rfl]; exact hm)
theorem rf_213_1 (h : WT lv g H) : 0 ≤ H 213 1 ∧ H 213 1 ≤ 600 := WT_rf (c := 213) (i := 1) h (by decide +kernel)
theorem ff_213_1 {md : List Nat} {v : Int} {H0 : PH} (h : frm md H0 H) (hm : inmd md 10 1 = true) : frm md H0 (pup H 213 1 v) := frm_up (c := 213) (i := 1) h (by decide +kernel) (by rw [show tau 213 = 10 from rfl]; exact hm)
theorem rf_213_2 (h : WT lv g H) : 0 ≤ H 213 2 ∧ H 213 2 ≤ 600 := WT_rf (c := 213) (i := 2) h (by decide +kernel)
theorem wf_213_2 {v : Int} (h : WT lv g H) (h1 : 0 ≤ v) (h2 : v ≤ 600) : WT lv g (pup H 213 2 v) := WT_wf (c := 213) (i := 2) (lo := 0) (hi := 600) h (by decide +kernel) (fz_no (by decide +kernel)) h1 h2
theorem ff_213_2 {md : List Nat} {v : Int} {H0 : PH} (h : frm md H0 H) (hm : inmd md 10 2 = true) : frm md H0 (pup H 213 2 v) := frm_up (c := 213) (i := 2) h (by decide +kernel) (by rw [show tau 213 = 10 from rfl]; exact hm)
theorem rf_213_3 (h : WT lv g H) : -2147483648 ≤ H 213 3 ∧ H 213 3 ≤ 2147483647 := WT_rf (c := 213) (i := 3) h (by decide +kernel)
theorem wf_213_3 {v : Int} (h : WT lv g H) (h1 : -2147483648 ≤ v) (h2 : v ≤ 2147483647) : WT lv g (pup H 213 3 v) := WT_wf (c := 213) (i := 3) (lo := -2147483648) (hi := 2147483647) h (by decide +kernel) (fz_no (by decide +kernel)) h1 h2
theorem ff_213_3 {md : List Nat} {v : Int} {H0 : PH} (h : frm md H0 H) (hm : inmd md 10 3 = true) : frm md H0 (pup H 213 3 v) := frm_up (c := 213) (i := 3) h (by decide +kernel) (by rw [show tau 213 = 10 from rfl]; exact hm)
theorem rf_0_7 (h : WT lv g H) : 0 ≤ H 0 7 ∧ H 0 7 ≤ 20 := WT_rf (c := 0) (i := 7) h (by decide +kernel)
theorem ff_0_7 {md : List Nat} {v : Int} {H0 : PH} (h : frm md H0 H) (hm : inmd md 11 7 = true) : frm md H0 (pup H 0 7 v) := frm_up (c := 0) (i := 7) h (by decide +kernel) (by rw [show tau 0 = 11 from rfl]; exact hm)
theorem rf_0_8 (h : WT lv g H) : 0 ≤ H 0 8 ∧ H 0 8 ≤ 19 := WT_rf (c := 0) (i := 8) h (by decide +kernel)
theorem ff_0_8 {md : List Nat} {v : Int} {H0 : PH} (h : frm md H0 H) (hm : inmd md 11 8 = true) : frm md H0 (pup H 0 8 v) := frm_up (c := 0) (i := 8) h (by decide +kernel) (by rw [show tau 0 = 11 from rfl]; exact hm)
theorem rf_0_10 (h : WT lv g H) : 0 ≤ H 0 10 ∧ H 0 10 ≤ 240 := WT_rf (c := 0) (i := 10) h (by decide +kernel)
theorem wf_0_10 {v : Int} (h : WT lv g H) (h1 : 0 ≤ v) (h2 : v ≤ 240) : WT lv g (pup H 0 10 v) := WT_wf (c := 0) (i := 10) (lo := 0) (hi := 240) h (by decide +kernel) (fz_no (by decide +kernel)) h1 h2
theorem ff_0_10 {md : List Nat} {v : Int} {H0 : PH} (h : frm md H0 H) (hm : inmd md 11 10 = true) : frm md H0 (pup H 0 10 v) := frm_up (c := 0) (i := 10) h (by decide +kernel) (by rw [show tau 0 = 11 from rfl]; exact hm)
theorem rf_590_2 (h : WT lv g H) : 0 ≤ H 590 2 ∧ H 590 2 ≤ 20 := WT_rf (c := 590) (i := 2) h (by decide +kernel)
theorem ff_590_2 {md : List Nat} {v : Int} {H0 : PH} (h : frm md H0 H) (hm : inmd md 12 2 = true) : frm md H0 (pup H 590 2 v) := frm_up (c := 590) (i := 2) h (by decide +kernel) (by rw [show tau 590 = 12 from rfl]; exact hm)
theorem rf_590_4 (h : WT lv g H) : 0 ≤ H 590 4 ∧ H 590 4 ≤ 600 := WT_rf (c := 590) (i := 4) h (by decide +kernel)
theorem ff_590_4 {md : List Nat} {v : Int} {H0 : PH} (h : frm md H0 H) (hm : inmd md 12 4 = true) : frm md H0 (pup H 590 4 v) := frm_up (c := 590) (i := 4) h (by decide +kernel) (by rw [show tau 590 = 12 from rfl]; exact hm)
theorem rf_590_5 (h : WT lv g H) : 0 ≤ H 590 5 ∧ H 590 5 ≤ 600 := WT_rf (c := 590) (i := 5) h (by decide +kernel)
theorem wf_590_5 {v : Int} (h : WT lv g H) (h1 : 0 ≤ v) (h2 : v ≤ 600) : WT lv g (pup H 590 5 v) := WT_wf (c := 590) (i := 5) (lo := 0) (hi := 600) h (by decide +kernel) (fz_no (by decide +kernel)) h1 h2
theorem ff_590_5 {md : List Nat} {v : Int} {H0 : PH} (h : frm md H0 H) (hm : inmd md 12 5 = true) : frm md H0 (pup H 590 5 v) := frm_up (c := 590) (i := 5) h (by decide +kernel) (by rw [show tau 590 = 12 from rfl]; exact hm)
theorem rf_590_6 (h : WT lv g H) : -2147483648 ≤ H 590 6 ∧ H 590 6 ≤ 2147483647 := WT_rf (c := 590) (i := 6) h (by decide +kernel)
theorem wf_590_6 {v : Int} (h : WT lv g H) (h1 : -2147483648 ≤ v) (h2 : v ≤ 2147483647) : WT lv g (pup H 590 6 v) := WT_wf (c := 590) (i := 6) (lo := -2147483648) (hi := 2147483647) h (by decide +kernel) (fz_no (by decide +kernel)) h1 h2
theorem ff_590_6 {md : List Nat} {v : Int} {H0 : PH} (h : frm md H0 H) (hm : inmd md 12 6 = true) : frm md H0 (pup H 590 6 v) := frm_up (c := 590) (i := 6) h (by decide +kernel) (by rw [show tau 590 = 12 from rfl]; exact hm)
theorem rf_590_7 (h : WT lv g H) : -2147483648 ≤ H 590 7 ∧ H 590 7 ≤ 2147483647 := WT_rf (c := 590) (i := 7) h (by decide +kernel)
theorem wf_590_7 {v : Int} (h : WT lv g H) (h1 : -2147483648 ≤ v) (h2 : v ≤ 2147483647) : WT lv g (pup H 590 7 v) := WT_wf (c := 590) (i := 7) (lo := -2147483648) (hi := 2147483647) h (by decide +kernel) (fz_no (by decide +kernel)) h1 h2
theorem ff_590_7 {md : List Nat} {v : Int} {H0 : PH} (h : frm md H0 H) (hm : inmd md 12 7 = true) : frm md H0 (pup H 590 7 v) := frm_up (c := 590) (i := 7) h (by decide +kernel) (by rw [show tau 590 = 12 from rfl]; exact hm)
theorem rf_590_10 (h : WT lv g H) : 0 ≤ H 590 10 ∧ H 590 10 ≤ 64 := WT_rf (c := 590) (i := 10) h (by decide +kernel)
theorem wf_590_10 {v : Int} (h : WT lv g H) (h1 : 0 ≤ v) (h2 : v ≤ 64) : WT lv g (pup H 590 10 v) := WT_wf (c := 590) (i := 10) (lo := 0) (hi := 64) h (by decide +kernel) (fz_no (by decide +kernel)) h1 h2
theorem ff_590_10 {md : List Nat} {v : Int} {H0 : PH} (h : frm md H0 H) (hm : inmd md 12 10 = true) : frm md H0 (pup H 590 10 v) := frm_up (c := 590) (i := 10) h (by decide +kernel) (by rw [show tau 590 = 12 from rfl]; exact hm)
theorem rf_590_11 (h : WT lv g H) : -2147483648 ≤ H 590 11 ∧ H 590 11 ≤ 2147483647 := WT_rf (c := 590) (i := 11) h (by decide +kernel)
theorem wf_590_11 {v : Int} (h : WT lv g H) (h1 : -2147483648 ≤ v) (h2 : v ≤ 2147483647) : WT lv g (pup H 590 11 v) := WT_wf (c := 590) (i := 11) (lo := -2147483648) (hi := 2147483647) h (by decide +kernel) (fz_no (by decide +kernel)) h1 h2
theorem ff_590_11 {md : List Nat} {v : Int} {H0 : PH} (h : frm md H0 H) (hm : inmd md 12 11 = true) : frm md H0 (pup H 590 11 v) := frm_up (c := 590) (i := 11) h (by decide +kernel) (by rw [show tau 590 = 12 from rfl]; exact hm)
theorem rf_590_14 (h : WT lv g H) : 0 ≤ H 590 14 ∧ H 590 14 ≤ 8 := WT_rf (c := 590) (i := 14) h (by decide +kernel)
theorem wf_590_14 {v : Int} (h : WT lv g H) (h1 : 0 ≤ v) (h2 : v ≤ 8) : WT lv g (pup H 590 14 v) := WT_wf (c := 590) (i := 14) (lo := 0) (hi := 8) h (by decide +kernel) (fz_no (by decide +kernel)) h1 h2
theorem ff_590_14 {md : List Nat} {v : Int} {H0 : PH} (h : frm md H0 H) (hm : inmd md 12 14 = true) : frm md H0 (pup H 590 14 v) := frm_up (c := 590) (i := 14) h (by decide +kernel) (by rw [show tau 590 = 12 from rfl]; exact hm)
theorem rf_590_17 (h : WT lv g H) : -2147483648 ≤ H 590 17 ∧ H 590 17 ≤ 2147483647 := WT_rf (c := 590) (i := 17) h (by decide +kernel)
theorem wf_590_17 {v : Int} (h : WT lv g H) (h1 : -2147483648 ≤ v) (h2 : v ≤ 2147483647) : WT lv g (pup H 590 17 v) := WT_wf (c := 590) (i := 17) (lo := -2147483648) (hi := 2147483647) h (by decide +kernel) (fz_no (by decide +kernel)) h1 h2
theorem ff_590_17 {md : List Nat} {v : Int} {H0 : PH} (h : frm md H0 H) (hm : inmd md 12 17 = true) : frm md H0 (pup H 590 17 v) := frm_up (c := 590) (i := 17) h (by decide +kernel) (by rw [show tau 590 = 12 from rfl]; exact hm)
theorem rf_590_18 (h : WT lv g H) : 0 ≤ H 590 18 ∧ H 590 18 ≤ 11 := WT_rf (c := 590) (i := 18) h (by decide +kernel)
theorem wf_590_18 {v : Int} (h : WT lv g H) (h1 : 0 ≤ v) (h2 : v ≤ 11) : WT lv g (pup H 590 18 v) := WT_wf (c := 590) (i := 18) (lo := 0) (hi := 11) h (by decide +kernel) (fz_no (by decide +kernel)) h1 h2
theorem ff_590_18 {md : List Nat} {v : Int} {H0 : PH} (h : frm md H0 H) (hm : inmd md 12 18 = true) : frm md H0 (pup H 590 18 v) := frm_up (c := 590) (i := 18) h (by decide +kernel) (by rw [show tau 590 = 12 from rfl]; exact hm)
theorem rf_590_19 (h : WT lv g H) : -2147483648 ≤ H 590 19 ∧ H 590 19 ≤ 2147483647 := WT_rf (c := 590) (i := 19) h (by decide +kernel)
theorem wf_590_19 {v : Int} (h : WT lv g H) (h1 : -2147483648 ≤ v) (h2 : v ≤ 2147483647) : WT lv g (pup H 590 19 v) := WT_wf (c := 590) (i := 19) (lo := -2147483648) (hi := 2147483647) h (by decide +kernel) (fz_no (by decide +kernel)) h1 h2
theorem ff_590_19 {md : List Nat} {v : Int} {H0 : PH} (h : frm md H0 H) (hm : inmd md 12 19 = true) : frm md H0 (pup H 590 19 v) := frm_up (c := 590) (i := 19) h (by decide +kernel) (by rw [show tau 590 = 12 from rfl]; exact hm)
theorem rf_590_26 (h : WT lv g H) : 0 ≤ H 590 26 ∧ H 590 26 ≤ 60 := WT_rf (c := 590) (i := 26) h (by decide +kernel)
theorem wf_590_26 {v : Int} (h : WT lv g H) (h1 : 0 ≤ v) (h2 : v ≤ 60) : WT lv g (pup H 590 26 v) := WT_wf (c := 590) (i := 26) (lo := 0) (hi := 60) h (by decide +kernel) (fz_no (by decide +kernel)) h1 h2
theorem ff_590_26 {md : List Nat} {v : Int} {H0 : PH} (h : frm md H0 H) (hm : inmd md 12 26 = true) : frm md H0 (pup H 590 26 v) := frm_up (c := 590) (i := 26) h (by decide +kernel) (by rw [show tau 590 = 12 from rfl]; exact hm)
theorem rf_590_31 (h : WT lv g H) : -2147483648 ≤ H 590 31 ∧ H 590 31 ≤ 2147483647 := WT_rf (c := 590) (i := 31) h (by decide +kernel)
theorem wf_590_31 {v : Int} (h : WT lv g H) (h1 : -2147483648 ≤ v) (h2 : v ≤ 2147483647) : WT lv g (pup H 590 31 v) := WT_wf (c := 590) (i := 31) (lo := -2147483648) (hi := 2147483647) h (by decide +kernel) (fz_no (by decide +kernel)) h1 h2
theorem ff_590_31 {md : List Nat} {v : Int} {H0 : PH} (h : frm md H0 H) (hm : inmd md 12 31 = true) : frm md H0 (pup H 590 31 v) := frm_up (c := 590) (i := 31) h (by decide +kernel) (by rw [show tau 590 = 12 from rfl]; exact hm)
theorem rf_590_32 (h : WT lv g H) : -2147483648 ≤ H 590 32 ∧ H 590 32 ≤ 2147483647 := WT_rf (c := 590) (i := 32) h (by decide +kernel)
theorem wf_590_32 {v : Int} (h : WT lv g H) (h1 : -2147483648 ≤ v) (h2 : v ≤ 2147483647) : WT lv g (pup H 590 32 v) := WT_wf (c := 590) (i := 32) (lo := -2147483648) (hi := 2147483647) h (by decide +kernel) (fz_no (by decide +kernel)) h1 h2
theorem ff_590_32 {md : List Nat} {v : Int} {H0 : PH} (h : frm md H0 H) (hm : inmd md 12 32 = true) : frm md H0 (pup H 590 32 v) := frm_up (c := 590) (i := 32) h (by decide +kernel) (by rw [show tau 590 = 12 from rfl]; exact hm)
theorem rf_590_39 (h : WT lv g H) : 0 ≤ H 590 39 ∧ H 590 39 ≤ 60 := WT_rf (c := 590) (i := 39) h (by decide +kernel)
theorem wf_590_39 {v : Int} (h : WT lv g H) (h1 : 0 ≤ v) (h2 : v ≤ 60) : WT lv g (pup H 590 39 v) := WT_wf (c := 590) (i := 39) (lo := 0) (hi := 60) h (by decide +kernel) (fz_no (by decide +kernel)) h1 h2
theorem ff_590_39 {md : List Nat} {v : Int} {H0 : PH} (h : frm md H0 H) (hm : inmd md 12 39 = true) : frm md H0 (pup H 590 39 v) := frm_up (c := 590) (i := 39) h (by decide +kernel) (by rw [show tau 590 = 12 from rfl]; exact hm)
theorem rf_590_40 (h : WT lv g H) : 0 ≤ H 590 40 ∧ H 590 40 ≤ 60 := WT_rf (c := 590) (i := 40) h (by decide +kernel)
theorem wf_590_40 {v : Int} (h : WT lv g H) (h1 : 0 ≤ v) (h2 : v ≤ 60) : WT lv g (pup H 590 40 v) := WT_wf (c := 590) (i := 40) (lo := 0) (hi := 60) h (by decide +kernel) (fz_no (by decide +kernel)) h1 h2
theorem ff_590_40 {md : List Nat} {v : Int} {H0 : PH} (h : frm md H0 H) (hm : inmd md 12 40 = true) : frm md H0 (pup H 590 40 v) := frm_up (c := 590) (i := 40) h (by decide +kernel) (by rw [show tau 590 = 12 from rfl]; exact hm)
theorem rf_590_41 (h : WT lv g H) : -2147483648 ≤ H 590 41 ∧ H 590 41 ≤ 2147483647 := WT_rf (c := 590) (i := 41) h (by decide +kernel)
theorem wf_590_41 {v : Int} (h : WT lv g H) (h1 : -2147483648 ≤ v) (h2 : v ≤ 2147483647) : WT lv g (pup H 590 41 v) := WT_wf (c := 590) (i := 41) (lo := -2147483648) (hi := 2147483647) h (by decide +kernel) (fz_no (by decide +kernel)) h1 h2
theorem ff_590_41 {md : List Nat} {v : Int} {H0 : PH} (h : frm md H0 H) (hm : inmd md 12 41 = true) : frm md H0 (pup H 590 41 v) := frm_up (c := 590) (i := 41) h (by decide +kernel) (by rw [show tau 590 = 12 from rfl]; exact hm)
theorem rf_590_42 (h : WT lv g H) : -2147483648 ≤ H 590 42 ∧ H 590 42 ≤ 2147483647 := WT_rf (c := 590) (i := 42) h (by decide +kernel)
theorem wf_590_42 {v : Int} (h : WT lv g H) (h1 : -2147483648 ≤ v) (h2 : v ≤ 2147483647) : WT lv g (pup H 590 42 v) := WT_wf (c := 590) (i := 42) (lo := -2147483648) (hi := 2147483647) h (by decide +kernel) (fz_no (by decide +kernel)) h1 h2
theorem ff_590_42 {md : List Nat} {v : Int} {H0 : PH} (h : frm md H0 H) (hm : inmd md 12 42 = true) : frm md H0 (pup H 590 42 v) := frm_up (c := 590) (i := 42) h (by decide +kernel) (by rw [show tau 590 = 12 from rfl]; exact hm)
theorem rf_590_47 (h : WT lv g H) : 0 ≤ H 590 47 ∧ H 590 47 ≤ 60 := WT_rf (c := 590) (i := 47) h (by decide +kernel)
theorem wf_590_47 {v : Int} (h : WT lv g H) (h1 : 0 ≤ v) (h2 : v ≤ 60) : WT lv g (pup H 590 47 v) := WT_wf (c := 590) (i := 47) (lo := 0) (hi := 60) h (by decide +kernel) (fz_no (by decide +kernel)) h1 h2
theorem ff_590_47 {md : List Nat} {v : Int} {H0 : PH} (h : frm md H0 H) (hm : inmd md 12 47 = true) : frm md H0 (pup H 590 47 v) := frm_up (c := 590) (i := 47) h (by decide +kernel) (by rw [show tau 590 = 12 from rfl]; exact hm)
theorem rf_590_48 (h : WT lv g H) : -2147483648 ≤ H 590 48 ∧ H 590 48 ≤ 2147483647 := WT_rf (c := 590) (i := 48) h (by decide +kernel)
theorem wf_590_48 {v : Int} (h : WT lv g H) (h1 : -2147483648 ≤ v) (h2 : v ≤ 2147483647) : WT lv g (pup H 590 48 v) := WT_wf (c := 590) (i := 48) (lo := -2147483648) (hi := 2147483647) h (by decide +kernel) (fz_no (by decide +kernel)) h1 h2
theorem ff_590_48 {md : List Nat} {v : Int} {H0 : PH} (h : frm md H0 H) (hm : inmd md 12 48 = true) : frm md H0 (pup H 590 48 v) := frm_up (c := 590) (i := 48) h (by decide +kernel) (by rw [show tau 590 = 12 from rfl]; exact hm)
theorem rf_590_51 (h : WT lv g H) : 0 ≤ H 590 51 ∧ H 590 51 ≤ 240 := WT_rf (c := 590) (i := 51) h (by decide +kernel)
theorem wf_590_51 {v : Int} (h : WT lv g H) (h1 : 0 ≤ v) (h2 : v ≤ 240) : WT lv g (pup H 590 51 v) := WT_wf (c := 590) (i := 51) (lo := 0) (hi := 240) h (by decide +kernel) (fz_no (by decide +kernel)) h1 h2
theorem ff_590_51 {md : List Nat} {v : Int} {H0 : PH} (h : frm md H0 H) (hm : inmd md 12 51 = true) : frm md H0 (pup H 590 51 v) := frm_up (c := 590) (i := 51) h (by decide +kernel) (by rw [show tau 590 = 12 from rfl]; exact hm)
theorem ra_592 {i : Int} (h : WT lv g H) (h1 : 0 ≤ i) (h2 : i < 22480) : -2147483648 ≤ H 592 i ∧ H 592 i ≤ 2147483647 := WT_ra (c := 592) (n := 22480) h (by decide +kernel) h1 h2
theorem fa_592 {md : List Nat} {i v : Int} {H0 : PH} (h : frm md H0 H) (hm : inmdT md 33 = true) : frm md H0 (pup H 592 i v) := frm_up (c := 592) h (zrt_row (by decide) (by decide +kernel)) (by rw [show tau 592 = 33 from rfl]; exact inmd_T hm _)
theorem ra_589 {i : Int} (h : WT lv g H) (h1 : 0 ≤ i) (h2 : i < 240) : -2147483648 ≤ H 589 i ∧ H 589 i ≤ 2147483647 := WT_ra (c := 589) (n := 240) h (by decide +kernel) h1 h2
theorem wa_589 {i v : Int} (h : WT lv g H) (h0 : 0 ≤ i) (h1 : -2147483648 ≤ v) (h2 : v ≤ 2147483647) : WT lv g (pup H 589 i v) := WT_wa (c := 589) (n := 240) (lo := -2147483648) (hi := 2147483647) h (by decide +kernel) (fz_no (by decide +kernel)) h0 h1 h2
theorem fa_589 {md : List Nat} {i v : Int} {H0 : PH} (h : frm md H0 H) (hm : inmdT md 35 = true) : frm md H0 (pup H 589 i v) := frm_up (c := 589) h (zrt_row (by decide) (by decide +kernel)) (by rw [show tau 589 = 35 from rfl]; exact inmd_T hm _)
theorem ra_54 {i : Int} (h : WT lv g H) (h1 : 0 ≤ i) (h2 : i < 12) : -2147483648 ≤ H 54 i ∧ H 54 i ≤ 2147483647 := WT_ra (c := 54) (n := 12) h (by decide +kernel) h1 h2
theorem wa_54 {i v : Int} (h : WT lv g H) (h0 : 0 ≤ i) (h1 : -2147483648 ≤ v) (h2 : v ≤ 2147483647) : WT lv g (pup H 54 i v) := WT_wa (c := 54) (n := 12) (lo := -2147483648) (hi := 2147483647) h (by decide +kernel) (fz_no (by decide +kernel)) h0 h1 h2
theorem fa_54 {md : List Nat} {i v : Int} {H0 : PH} (h : frm md H0 H) (hm : inmdT md 38 = true) : frm md H0 (pup H 54 i v) := frm_up (c := 54) h (zrt_row (by decide) (by decide +kernel)) (by rw [show tau 54 = 38 from rfl]; exact inmd_T hm _)
theorem ra_55 {i : Int} (h : WT lv g H) (h1 : 0 ≤ i) (h2 : i < 60) : 0 ≤ H 55 i ∧ H 55 i ≤ 59 := WT_ra (c := 55) (n := 60) h (by decide +kernel) h1 h2
theorem wa_55 {i v : Int} (h : WT lv g H) (h0 : 0 ≤ i) (h1 : 0 ≤ v) (h2 : v ≤ 59) : WT lv g (pup H 55 i v) := WT_wa (c := 55) (n := 60) (lo := 0) (hi := 59) h (by decide +kernel) (fz_no (by decide +kernel)) h0 h1 h2
theorem fa_55 {md : List Nat} {i v : Int} {H0 : PH} (h : frm md H0 H) (hm : inmdT md 39 = true) : frm md H0 (pup H 55 i v) := frm_up (c := 55) h (zrt_row (by decide) (by decide +kernel)) (by rw [show tau 55 = 39 from rfl]; exact inmd_T hm _)
theorem ra_56 {i : Int} (h : WT lv g H) (h1 : 0 ≤ i) (h2 : i < 61) : -2147483648 ≤ H 56 i ∧ H 56 i ≤ 2147483647 := WT_ra (c := 56) (n := 61) h (by decide +kernel) h1 h2
theorem wa_56 {i v : Int} (h : WT lv g H) (h0 : 0 ≤ i) (h1 : -2147483648 ≤ v) (h2 : v ≤ 2147483647) : WT lv g (pup H 56 i v) := WT_wa (c := 56) (n := 61) (lo := -2147483648) (hi := 2147483647) h (by decide +kernel) (fz_no (by decide +kernel)) h0 h1 h2
theorem fa_56 {md : List Nat} {i v : Int} {H0 : PH} (h : frm md H0 H) (hm : inmdT md 40 = true) : frm md H0 (pup H 56 i v) := frm_up (c := 56) h (zrt_row (by decide) (by decide +kernel)) (by rw [show tau 56 = 40 from rfl]; exact inmd_T hm _)
theorem ra_42 {i : Int} (h : WT lv g H) (h1 : 0 ≤ i) (h2 : i < 8) : 0 ≤ H 42 i ∧ H 42 i ≤ 37 := WT_ra (c := 42) (n := 8) h (by decide +kernel) h1 h2
theorem wa_42 {i v : Int} (h : WT lv g H) (h0 : 0 ≤ i) (h1 : 0 ≤ v) (h2 : v ≤ 37) : WT lv g (pup H 42 i v) := WT_wa (c := 42) (n := 8) (lo := 0) (hi := 37) h (by decide +kernel) (fz_no (by decide +kernel)) h0 h1 h2
theorem fa_42 {md : List Nat} {i v : Int} {H0 : PH} (h : frm md H0 H) (hm : inmdT md 43 = true) : frm md H0 (pup H 42 i v) := frm_up (c := 42) h (zrt_row (by decide) (by decide +kernel)) (by rw [show tau 42 = 43 from rfl]; exact inmd_T hm _)
theorem ra_43 {i : Int} (h : WT lv g H) (h1 : 0 ≤ i) (h2 : i < 8) : 0 ≤ H 43 i ∧ H 43 i ≤ 37 := WT_ra (c := 43) (n := 8) h (by decide +kernel) h1 h2
theorem wa_43 {i v : Int} (h : WT lv g H) (h0 : 0 ≤ i) (h1 : 0 ≤ v) (h2 : v ≤ 37) : WT lv g (pup H 43 i v) := WT_wa (c := 43) (n := 8) (lo := 0) (hi := 37) h (by decide +kernel) (fz_no (by decide +kernel)) h0 h1 h2
theorem fa_43 {md : List Nat} {i v : Int} {H0 : PH} (h : frm md H0 H) (hm : inmdT md 44 = true) : frm md H0 (pup H 43 i v) := frm_up (c := 43) h (zrt_row (by decide) (by decide +kernel)) (by rw [show tau 43 = 44 from rfl]; exact inmd_T hm _)
theorem ra_44 {i : Int} (h : WT lv g H) (h1 : 0 ≤ i) (h2 : i < 9) : -2147483648 ≤ H 44 i ∧ H 44 i ≤ 2147483647 := WT_ra (c := 44) (n := 9) h (by decide +kernel) h1 h2
theorem wa_44 {i v : Int} (h : WT lv g H) (h0 : 0 ≤ i) (h1 : -2147483648 ≤ v) (h2 : v ≤ 2147483647) : WT lv g (pup H 44 i v) := WT_wa (c := 44) (n := 9) (lo := -2147483648) (hi := 2147483647) h (by decide +kernel) (fz_no (by decide +kernel)) h0 h1 h2
theorem fa_44 {md : List Nat} {i v : Int} {H0 : PH} (h : frm md H0 H) (hm : inmdT md 45 = true) : frm md H0 (pup H 44 i v) := frm_up (c := 44) h (zrt_row (by decide) (by decide +kernel)) (by rw [show tau 44 = 45 from rfl]; exact inmd_T hm _)
theorem ra_45 {i : Int} (h : WT lv g H) (h1 : 0 ≤ i) (h2 : i < 8) : 0 ≤ H 45 i ∧ H 45 i ≤ 37 := WT_ra (c := 45) (n := 8) h (by decide +kernel) h1 h2
theorem wa_45 {i v : Int} (h : WT lv g H) (h0 : 0 ≤ i) (h1 : 0 ≤ v) (h2 : v ≤ 37) : WT lv g (pup H 45 i v) := WT_wa (c := 45) (n := 8) (lo := 0) (hi := 37) h (by decide +kernel) (fz_no (by decide +kernel)) h0 h1 h2
theorem fa_45 {md : List Nat} {i v : Int} {H0 : PH} (h : frm md H0 H) (hm : inmdT md 46 = true) : frm md H0 (pup H 45 i v) := frm_up (c := 45) h (zrt_row (by decide) (by decide +kernel)) (by rw [show tau 45 = 46 from rfl]; exact inmd_T hm _)
theorem ra_214 {i : Int} (h : WT lv g H) (h1 : 0 ≤ i) (h2 : i < 600) : -2147483648 ≤ H 214 i ∧ H 214 i ≤ 2147483647 := WT_ra (c := 214) (n := 600) h (by decide +kernel) h1 h2
theorem wa_214 {i v : Int} (h : WT lv g H) (h0 : 0 ≤ i) (h1 : -2147483648 ≤ v) (h2 : v ≤ 2147483647) : WT lv g (pup H 214 i v) := WT_wa (c := 214) (n := 600) (lo := -2147483648) (hi := 2147483647) h (by decide +kernel) (fz_no (by decide +kernel)) h0 h1 h2
theorem fa_214 {md : List Nat} {i v : Int} {H0 : PH} (h : frm md H0 H) (hm : inmdT md 52 = true) : frm md H0 (pup H 214 i v) := frm_up (c := 214) h (zrt_row (by decide) (by decide +kernel)) (by rw [show tau 214 = 52 from rfl]; exact inmd_T hm _)
theorem ra_216 {i : Int} (h : WT lv g H) (h1 : 0 ≤ i) (h2 : i < 60) : -3 ≤ H 216 i ∧ H 216 i ≤ 11 := WT_ra (c := 216) (n := 60) h (by decide +kernel) h1 h2
theorem wa_216 {i v : Int} (h : WT lv g H) (h0 : 0 ≤ i) (h1 : -3 ≤ v) (h2 : v ≤ 11) : WT lv g (pup H 216 i v) := WT_wa (c := 216) (n := 60) (lo := -3) (hi := 11) h (by decide +kernel) (fz_no (by decide +kernel)) h0 h1 h2
theorem fa_216 {md : List Nat} {i v : Int} {H0 : PH} (h : frm md H0 H) (hm : inmdT md 53 = true) : frm md H0 (pup H 216 i v) := frm_up (c := 216) h (zrt_row (by decide) (by decide +kernel)) (by rw [show tau 216 = 53 from rfl]; exact inmd_T hm _)
theorem ra_217 {i : Int} (h : WT lv g H) (h1 : 0 ≤ i) (h2 : i < 60) : 0 ≤ H 217 i ∧ H 217 i ≤ 59 := WT_ra (c := 217) (n := 60) h (by decide +kernel) h1 h2
theorem wa_217 {i v : Int} (h : WT lv g H) (h0 : 0 ≤ i) (h1 : 0 ≤ v) (h2 : v ≤ 59) : WT lv g (pup H 217 i v) := WT_wa (c := 217) (n := 60) (lo := 0) (hi := 59) h (by decide +kernel) (fz_no (by decide +kernel)) h0 h1 h2
theorem fa_217 {md : List Nat} {i v : Int} {H0 : PH} (h : frm md H0 H) (hm : inmdT md 54 = true) : frm md H0 (pup H 217 i v) := frm_up (c := 217) h (zrt_row (by decide) (by decide +kernel)) (by rw [show tau 217 = 54 from rfl]; exact inmd_T hm _)
theorem ra_218 {i : Int} (h : WT lv g H) (h1 : 0 ≤ i) (h2 : i < 72) : -2147483648 ≤ H 218 i ∧ H 218 i ≤ 2147483647 := WT_ra (c := 218) (n := 72) h (by decide +kernel) h1 h2
theorem wa_218 {i v : Int} (h : WT lv g H) (h0 : 0 ≤ i) (h1 : -2147483648 ≤ v) (h2 : v ≤ 2147483647) : WT lv g (pup H 218 i v) := WT_wa (c := 218) (n := 72) (lo := -2147483648) (hi := 2147483647) h (by decide +kernel) (fz_no (by decide +kernel)) h0 h1 h2
theorem fa_218 {md : List Nat} {i v : Int} {H0 : PH} (h : frm md H0 H) (hm : inmdT md 55 = true) : frm md H0 (pup H 218 i v) := frm_up (c := 218) h (zrt_row (by decide) (by decide +kernel)) (by rw [show tau 218 = 55 from rfl]; exact inmd_T hm _)
theorem ra_219 {i : Int} (h : WT lv g H) (h1 : 0 ≤ i) (h2 : i < 72) : -2147483648 ≤ H 219 i ∧ H 219 i ≤ 2147483647 := WT_ra (c := 219) (n := 72) h (by decide +kernel) h1 h2
theorem wa_219 {i v : Int} (h : WT lv g H) (h0 : 0 ≤ i) (h1 : -2147483648 ≤ v) (h2 : v ≤ 2147483647) : WT lv g (pup H 219 i v) := WT_wa (c := 219) (n := 72) (lo := -2147483648) (hi := 2147483647) h (by decide +kernel) (fz_no (by decide +kernel)) h0 h1 h2
theorem fa_219 {md : List Nat} {i v : Int} {H0 : PH} (h : frm md H0 H) (hm : inmdT md 56 = true) : frm md H0 (pup H 219 i v) := frm_up (c := 219) h (zrt_row (by decide) (by decide +kernel)) (by rw [show tau 219 = 56 from rfl]; exact inmd_T hm _)
theorem ra_220 {i : Int} (h : WT lv g H) (h1 : 0 ≤ i) (h2 : i < 72) : -2147483648 ≤ H 220 i ∧ H 220 i ≤ 2147483647 := WT_ra (c := 220) (n := 72) h (by decide +kernel) h1 h2
theorem wa_220 {i v : Int} (h : WT lv g H) (h0 : 0 ≤ i) (h1 : -2147483648 ≤ v) (h2 : v ≤ 2147483647) : WT lv g (pup H 220 i v) := WT_wa (c := 220) (n := 72) (lo := -2147483648) (hi := 2147483647) h (by decide +kernel) (fz_no (by decide +kernel)) h0 h1 h2
theorem fa_220 {md : List Nat} {i v : Int} {H0 : PH} (h : frm md H0 H) (hm : inmdT md 57 = true) : frm md H0 (pup H 220 i v) := frm_up (c := 220) h (zrt_row (by decide) (by decide +kernel)) (by rw [show tau 220 = 57 from rfl]; exact inmd_T hm _)
theorem ra_222 {i : Int} (h : WT lv g H) (h1 : 0 ≤ i) (h2 : i < 72) : -2147483648 ≤ H 222 i ∧ H 222 i ≤ 2147483647 := WT_ra (c := 222) (n := 72) h (by decide +kernel) h1 h2
theorem wa_222 {i v : Int} (h : WT lv g H) (h0 : 0 ≤ i) (h1 : -2147483648 ≤ v) (h2 : v ≤ 2147483647) : WT lv g (pup H 222 i v) := WT_wa (c := 222) (n := 72) (lo := -2147483648) (hi := 2147483647) h (by decide +kernel) (fz_no (by decide +kernel)) h0 h1 h2
theorem fa_222 {md : List Nat} {i v : Int} {H0 : PH} (h : frm md H0 H) (hm : inmdT md 58 = true) : frm md H0 (pup H 222 i v) := frm_up (c := 222) h (zrt_row (by decide) (by decide +kernel)) (by rw [show tau 222 = 58 from rfl]; exact inmd_T hm _)
theorem ra_223 {i : Int} (h : WT lv g H) (h1 : 0 ≤ i) (h2 : i < 12) : -2147483648 ≤ H 223 i ∧ H 223 i ≤ 2147483647 := WT_ra (c := 223) (n := 12) h (by decide +kernel) h1 h2
theorem wa_223 {i v : Int} (h : WT lv g H) (h0 : 0 ≤ i) (h1 : -2147483648 ≤ v) (h2 : v ≤ 2147483647) : WT lv g (pup H 223 i v) := WT_wa (c := 223) (n := 12) (lo := -2147483648) (hi := 2147483647) h (by decide +kernel) (fz_no (by decide +kernel)) h0 h1 h2
theorem fa_223 {md : List Nat} {i v : Int} {H0 : PH} (h : frm md H0 H) (hm : inmdT md 59 = true) : frm md H0 (pup H 223 i v) := frm_up (c := 223) h (zrt_row (by decide) (by decide +kernel)) (by rw [show tau 223 = 59 from rfl]; exact inmd_T hm _)
theorem ra_297 {i : Int} (h : WT lv g H) (h1 : 0 ≤ i) (h2 : i < 72) : -2147483648 ≤ H 297 i ∧ H 297 i ≤ 2147483647 := WT_ra (c := 297) (n := 72) h (by decide +kernel) h1 h2
theorem wa_297 {i v : Int} (h : WT lv g H) (h0 : 0 ≤ i) (h1 : -2147483648 ≤ v) (h2 : v ≤ 2147483647) : WT lv g (pup H 297 i v) := WT_wa (c := 297) (n := 72) (lo := -2147483648) (hi := 2147483647) h (by decide +kernel) (fz_no (by decide +kernel)) h0 h1 h2
theorem fa_297 {md : List Nat} {i v : Int} {H0 : PH} (h : frm md H0 H) (hm : inmdT md 62 = true) : frm md H0 (pup H 297 i v) := frm_up (c := 297) h (zrt_row (by decide) (by decide +kernel)) (by rw [show tau 297 = 62 from rfl]; exact inmd_T hm _)
theorem ra_298 {i : Int} (h : WT lv g H) (h1 : 0 ≤ i) (h2 : i < 12) : -2147483648 ≤ H 298 i ∧ H 298 i ≤ 2147483647 := WT_ra (c := 298) (n := 12) h (by decide +kernel) h1 h2
theorem wa_298 {i v : Int} (h : WT lv g H) (h0 : 0 ≤ i) (h1 : -2147483648 ≤ v) (h2 : v ≤ 2147483647) : WT lv g (pup H 298 i v) := WT_wa (c := 298) (n := 12) (lo := -2147483648) (hi := 2147483647) h (by decide +kernel) (fz_no (by decide +kernel)) h0 h1 h2
theorem fa_298 {md : List Nat} {i v : Int} {H0 : PH} (h : frm md H0 H) (hm : inmdT md 63 = true) : frm md H0 (pup H 298 i v) := frm_up (c := 298) h (zrt_row (by decide) (by decide +kernel)) (by rw [show tau 298 = 63 from rfl]; exact inmd_T hm _)
theorem ra_373 {i : Int} (h : WT lv g H) (h1 : 0 ≤ i) (h2 : i < 72) : -2147483648 ≤ H 373 i ∧ H 373 i ≤ 2147483647 := WT_ra (c := 373) (n := 72) h (by decide +kernel) h1 h2
theorem wa_373 {i v : Int} (h : WT lv g H) (h0 : 0 ≤ i) (h1 : -2147483648 ≤ v) (h2 : v ≤ 2147483647) : WT lv g (pup H 373 i v) := WT_wa (c := 373) (n := 72) (lo := -2147483648) (hi := 2147483647) h (by decide +kernel) (fz_no (by decide +kernel)) h0 h1 h2
theorem fa_373 {md : List Nat} {i v : Int} {H0 : PH} (h : frm md H0 H) (hm : inmdT md 66 = true) : frm md H0 (pup H 373 i v) := frm_up (c := 373) h (zrt_row (by decide) (by decide +kernel)) (by rw [show tau 373 = 66 from rfl]; exact inmd_T hm _)
theorem ra_374 {i : Int} (h : WT lv g H) (h1 : 0 ≤ i) (h2 : i < 12) : -2147483648 ≤ H 374 i ∧ H 374 i ≤ 2147483647 := WT_ra (c := 374) (n := 12) h (by decide +kernel) h1 h2
theorem wa_374 {i v : Int} (h : WT lv g H) (h0 : 0 ≤ i) (h1 : -2147483648 ≤ v) (h2 : v ≤ 2147483647) : WT lv g (pup H 374 i v) := WT_wa (c := 374) (n := 12) (lo := -2147483648) (hi := 2147483647) h (by decide +kernel) (fz_no (by decide +kernel)) h0 h1 h2
theorem fa_374 {md : List Nat} {i v : Int} {H0 : PH} (h : frm md H0 H) (hm : inmdT md 67 = true) : frm md H0 (pup H 374 i v) := frm_up (c := 374) h (zrt_row (by decide) (by decide +kernel)) (by rw [show tau 374 = 67 from rfl]; exact inmd_T hm _)
theorem ra_448 {i : Int} (h : WT lv g H) (h1 : 0 ≤ i) (h2 : i < 12) : -2147483648 ≤ H 448 i ∧ H 448 i ≤ 2147483647 := WT_ra (c := 448) (n := 12) h (by decide +kernel) h1 h2
theorem wa_448 {i v : Int} (h : WT lv g H) (h0 : 0 ≤ i) (h1 : -2147483648 ≤ v) (h2 : v ≤ 2147483647) : WT lv g (pup H 448 i v) := WT_wa (c := 448) (n := 12) (lo := -2147483648) (hi := 2147483647) h (by decide +kernel) (fz_no (by decide +kernel)) h0 h1 h2
theorem fa_448 {md : List Nat} {i v : Int} {H0 : PH} (h : frm md H0 H) (hm : inmdT md 70 = true) : frm md H0 (pup H 448 i v) := frm_up (c := 448) h (zrt_row (by decide) (by decide +kernel)) (by rw [show tau 448 = 70 from rfl]; exact inmd_T hm _)
theorem ra_449 {i : Int} (h : WT lv g H) (h1 : 0 ≤ i) (h2 : i < 12) : 0 ≤ H 449 i ∧ H 449 i ≤ 71 := WT_ra (c := 449) (n := 12) h (by decide +kernel) h1 h2
theorem wa_449 {i v : Int} (h : WT lv g H) (h0 : 0 ≤ i) (h1 : 0 ≤ v) (h2 : v ≤ 71) : WT lv g (pup H 449 i v) := WT_wa (c := 449) (n := 12) (lo := 0) (hi := 71) h (by decide +kernel) (fz_no (by decide +kernel)) h0 h1 h2
theorem fa_449 {md : List Nat} {i v : Int} {H0 : PH} (h : frm md H0 H) (hm : inmdT md 71 = true) : frm md H0 (pup H 449 i v) := frm_up (c := 449) h (zrt_row (by decide) (by decide +kernel)) (by rw [show tau 449 = 71 from rfl]; exact inmd_T hm _)
theorem ra_450 {i : Int} (h : WT lv g H) (h1 : 0 ≤ i) (h2 : i < 12) : -1 ≤ H 450 i ∧ H 450 i ≤ 11 := WT_ra (c := 450) (n := 12) h (by decide +kernel) h1 h2
theorem wa_450 {i v : Int} (h : WT lv g H) (h0 : 0 ≤ i) (h1 : -1 ≤ v) (h2 : v ≤ 11) : WT lv g (pup H 450 i v) := WT_wa (c := 450) (n := 12) (lo := -1) (hi := 11) h (by decide +kernel) (fz_no (by decide +kernel)) h0 h1 h2
theorem fa_450 {md : List Nat} {i v : Int} {H0 : PH} (h : frm md H0 H) (hm : inmdT md 72 = true) : frm md H0 (pup H 450 i v) := frm_up (c := 450) h (zrt_row (by decide) (by decide +kernel)) (by rw [show tau 450 = 72 from rfl]; exact inmd_T hm _)
theorem ra_452 {i : Int} (h : WT lv g H) (h1 : 0 ≤ i) (h2 : i < 5) : 0 ≤ H 452 i ∧ H 452 i ≤ 59 := WT_ra (c := 452) (n := 5) h (by decide +kernel) h1 h2
theorem wa_452 {i v : Int} (h : WT lv g H) (h0 : 0 ≤ i) (h1 : 0 ≤ v) (h2 : v ≤ 59) : WT lv g (pup H 452 i v) := WT_wa (c := 452) (n := 5) (lo := 0) (hi := 59) h (by decide +kernel) (fz_no (by decide +kernel)) h0 h1 h2
theorem fa_452 {md : List Nat} {i v : Int} {H0 : PH} (h : frm md H0 H) (hm : inmdT md 73 = true) : frm md H0 (pup H 452 i v) := frm_up (c := 452) h (zrt_row (by decide) (by decide +kernel)) (by rw [show tau 452 = 73 from rfl]; exact inmd_T hm _)
theorem ra_453 {i : Int} (h : WT lv g H) (h1 : 0 ≤ i) (h2 : i < 12) : -2147483648 ≤ H 453 i ∧ H 453 i ≤ 2147483647 := WT_ra (c := 453) (n := 12) h (by decide +kernel) h1 h2
theorem wa_453 {i v : Int} (h : WT lv g H) (h0 : 0 ≤ i) (h1 : -2147483648 ≤ v) (h2 : v ≤ 2147483647) : WT lv g (pup H 453 i v) := WT_wa (c := 453) (n := 12) (lo := -2147483648) (hi := 2147483647) h (by decide +kernel) (fz_no (by decide +kernel)) h0 h1 h2
theorem fa_453 {md : List Nat} {i v : Int} {H0 : PH} (h : frm md H0 H) (hm : inmdT md 74 = true) : frm md H0 (pup H 453 i v) := frm_up (c := 453) h (zrt_row (by decide) (by decide +kernel)) (by rw [show tau 453 = 74 from rfl]; exact inmd_T hm _)
theorem ra_467 {i : Int} (h : WT lv g H) (h1 : 0 ≤ i) (h2 : i < 32) : -2147483648 ≤ H 467 i ∧ H 467 i ≤ 2147483647 := WT_ra (c := 467) (n := 32) h (by decide +kernel) h1 h2
theorem wa_467 {i v : Int} (h : WT lv g H) (h0 : 0 ≤ i) (h1 : -2147483648 ≤ v) (h2 : v ≤ 2147483647) : WT lv g (pup H 467 i v) := WT_wa (c := 467) (n := 32) (lo := -2147483648) (hi := 2147483647) h (by decide +kernel) (fz_no (by decide +kernel)) h0 h1 h2
theorem fa_467 {md : List Nat} {i v : Int} {H0 : PH} (h : frm md H0 H) (hm : inmdT md 77 = true) : frm md H0 (pup H 467 i v) := frm_up (c := 467) h (zrt_row (by decide) (by decide +kernel)) (by rw [show tau 467 = 77 from rfl]; exact inmd_T hm _)
theorem ra_593 {i : Int} (h : WT lv g H) (h1 : 0 ≤ i) (h2 : i < 600) : -2147483648 ≤ H 593 i ∧ H 593 i ≤ 2147483647 := WT_ra (c := 593) (n := 600) h (by decide +kernel) h1 h2
theorem wa_593 {i v : Int} (h : WT lv g H) (h0 : 0 ≤ i) (h1 : -2147483648 ≤ v) (h2 : v ≤ 2147483647) : WT lv g (pup H 593 i v) := WT_wa (c := 593) (n := 600) (lo := -2147483648) (hi := 2147483647) h (by decide +kernel) (fz_no (by decide +kernel)) h0 h1 h2
theorem fa_593 {md : List Nat} {i v : Int} {H0 : PH} (h : frm md H0 H) (hm : inmdT md 78 = true) : frm md H0 (pup H 593 i v) := frm_up (c := 593) h (zrt_row (by decide) (by decide +kernel)) (by rw [show tau 593 = 78 from rfl]; exact inmd_T hm _)
theorem ra_594 {i : Int} (h : WT lv g H) (h1 : 0 ≤ i) (h2 : i < 1124) : -2147483648 ≤ H 594 i ∧ H 594 i ≤ 2147483647 := WT_ra (c := 594) (n := 1124) h (by decide +kernel) h1 h2
theorem wa_594 {i v : Int} (h : WT lv g H) (h0 : 0 ≤ i) (h1 : -2147483648 ≤ v) (h2 : v ≤ 2147483647) : WT lv g (pup H 594 i v) := WT_wa (c := 594) (n := 1124) (lo := -2147483648) (hi := 2147483647) h (by decide +kernel) (fz_no (by decide +kernel)) h0 h1 h2
theorem fa_594 {md : List Nat} {i v : Int} {H0 : PH} (h : frm md H0 H) (hm : inmdT md 79 = true) : frm md H0 (pup H 594 i v) := frm_up (c := 594) h (zrt_row (by decide) (by decide +kernel)) (by rw [show tau 594 = 79 from rfl]; exact inmd_T hm _)
theorem ra_595 {i : Int} (h : WT lv g H) (h1 : 0 ≤ i) (h2 : i < 64) : -2147483648 ≤ H 595 i ∧ H 595 i ≤ 2147483647 := WT_ra (c := 595) (n := 64) h (by decide +kernel) h1 h2
theorem wa_595 {i v : Int} (h : WT lv g H) (h0 : 0 ≤ i) (h1 : -2147483648 ≤ v) (h2 : v ≤ 2147483647) : WT lv g (pup H 595 i v) := WT_wa (c := 595) (n := 64) (lo := -2147483648) (hi := 2147483647) h (by decide +kernel) (fz_no (by decide +kernel)) h0 h1 h2
theorem fa_595 {md : List Nat} {i v : Int} {H0 : PH} (h : frm md H0 H) (hm : inmdT md 80 = true) : frm md H0 (pup H 595 i v) := frm_up (c := 595) h (zrt_row (by decide) (by decide +kernel)) (by rw [show tau 595 = 80 from rfl]; exact inmd_T hm _)
theorem ra_596 {i : Int} (h : WT lv g H) (h1 : 0 ≤ i) (h2 : i < 9) : -2147483648 ≤ H 596 i ∧ H 596 i ≤ 2147483647 := WT_ra (c := 596) (n := 9) h (by decide +kernel) h1 h2
theorem wa_596 {i v : Int} (h : WT lv g H) (h0 : 0 ≤ i) (h1 : -2147483648 ≤ v) (h2 : v ≤ 2147483647) : WT lv g (pup H 596 i v) := WT_wa (c := 596) (n := 9) (lo := -2147483648) (hi := 2147483647) h (by decide +kernel) (fz_no (by decide +kernel)) h0 h1 h2
theorem fa_596 {md : List Nat} {i v : Int} {H0 : PH} (h : frm md H0 H) (hm : inmdT md 81 = true) : frm md H0 (pup H 596 i v) := frm_up (c := 596) h (zrt_row (by decide) (by decide +kernel)) (by rw [show tau 596 = 81 from rfl]; exact inmd_T hm _)
theorem ra_597 {i : Int} (h : WT lv g H) (h1 : 0 ≤ i) (h2 : i < 9) : -2147483648 ≤ H 597 i ∧ H 597 i ≤ 2147483647 := WT_ra (c := 597) (n := 9) h (by decide +kernel) h1 h2
theorem wa_597 {i v : Int} (h : WT lv g H) (h0 : 0 ≤ i) (h1 : -2147483648 ≤ v) (h2 : v ≤ 2147483647) : WT lv g (pup H 597 i v) := WT_wa (c := 597) (n := 9) (lo := -2147483648) (hi := 2147483647) h (by decide +kernel) (fz_no (by decide +kernel)) h0 h1 h2
theorem fa_597 {md : List Nat} {i v : Int} {H0 : PH} (h : frm md H0 H) (hm : inmdT md 82 = true) : frm md H0 (pup H 597 i v) := frm_up (c := 597) h (zrt_row (by decide) (by decide +kernel)) (by rw [show tau 597 = 82 from rfl]; exact inmd_T hm _)
theorem ra_598 {i : Int} (h : WT lv g H) (h1 : 0 ≤ i) (h2 : i < 34) : -2147483648 ≤ H 598 i ∧ H 598 i ≤ 2147483647 := WT_ra (c := 598) (n := 34) h (by decide +kernel) h1 h2
theorem wa_598 {i v : Int} (h : WT lv g H) (h0 : 0 ≤ i) (h1 : -2147483648 ≤ v) (h2 : v ≤ 2147483647) : WT lv g (pup H 598 i v) := WT_wa (c := 598) (n := 34) (lo := -2147483648) (hi := 2147483647) h (by decide +kernel) (fz_no (by decide +kernel)) h0 h1 h2
theorem fa_598 {md : List Nat} {i v : Int} {H0 : PH} (h : frm md H0 H) (hm : inmdT md 83 = true) : frm md H0 (pup H 598 i v) := frm_up (c := 598) h (zrt_row (by decide) (by decide +kernel)) (by rw [show tau 598 = 83 from rfl]; exact inmd_T hm _)
theorem ra_599 {i : Int} (h : WT lv g H) (h1 : 0 ≤ i) (h2 : i < 9) : 0 ≤ H 599 i ∧ H 599 i ≤ 32 := WT_ra (c := 599) (n := 9) h (by decide +kernel) h1 h2
theorem wa_599 {i v : Int} (h : WT lv g H) (h0 : 0 ≤ i) (h1 : 0 ≤ v) (h2 : v ≤ 32) : WT lv g (pup H 599 i v) := WT_wa (c := 599) (n := 9) (lo := 0) (hi := 32) h (by decide +kernel) (fz_no (by decide +kernel)) h0 h1 h2
theorem fa_599 {md : List Nat} {i v : Int} {H0 : PH} (h : frm md H0 H) (hm : inmdT md 84 = true) : frm md H0 (pup H 599 i v) := frm_up (c := 599) h (zrt_row (by decide) (by decide +kernel)) (by rw [show tau 599 = 84 from rfl]; exact inmd_T hm _)
theorem ra_600 {i : Int} (h : WT lv g H) (h1 : 0 ≤ i) (h2 : i < 60) : -3 ≤ H 600 i ∧ H 600 i ≤ 11 := WT_ra (c := 600) (n := 60) h (by decide +kernel) h1 h2
theorem wa_600 {i v : Int} (h : WT lv g H) (h0 : 0 ≤ i) (h1 : -3 ≤ v) (h2 : v ≤ 11) : WT lv g (pup H 600 i v) := WT_wa (c := 600) (n := 60) (lo := -3) (hi := 11) h (by decide +kernel) (fz_no (by decide +kernel)) h0 h1 h2
theorem fa_600 {md : List Nat} {i v : Int} {H0 : PH} (h : frm md H0 H) (hm : inmdT md 85 = true) : frm md H0 (pup H 600 i v) := frm_up (c := 600) h (zrt_row (by decide) (by decide +kernel)) (by rw [show tau 600 = 85 from rfl]; exact inmd_T hm _)
theorem ra_601 {i : Int} (h : WT lv g H) (h1 : 0 ≤ i) (h2 : i < 60) : 0 ≤ H 601 i ∧ H 601 i ≤ 59 := WT_ra (c := 601) (n := 60) h (by decide +kernel) h1 h2
theorem wa_601 {i v : Int} (h : WT lv g H) (h0 : 0 ≤ i) (h1 : 0 ≤ v) (h2 : v ≤ 59) : WT lv g (pup H 601 i v) := WT_wa (c := 601) (n := 60) (lo := 0) (hi := 59) h (by decide +kernel) (fz_no (by decide +kernel)) h0 h1 h2
theorem fa_601 {md : List Nat} {i v : Int} {H0 : PH} (h : frm md H0 H) (hm : inmdT md 86 = true) : frm md H0 (pup H 601 i v) := frm_up (c := 601) h (zrt_row (by decide) (by decide +kernel)) (by rw [show tau 601 = 86 from rfl]; exact inmd_T hm _)
theorem ra_602 {i : Int} (h : WT lv g H) (h1 : 0 ≤ i) (h2 : i < 60) : -1 ≤ H 602 i ∧ H 602 i ≤ 59 := WT_ra (c := 602) (n := 60) h (by decide +kernel) h1 h2
theorem wa_602 {i v : Int} (h : WT lv g H) (h0 : 0 ≤ i) (h1 : -1 ≤ v) (h2 : v ≤ 59) : WT lv g (pup H 602 i v) := WT_wa (c := 602) (n := 60) (lo := -1) (hi := 59) h (by decide +kernel) (fz_no (by decide +kernel)) h0 h1 h2
theorem fa_602 {md : List Nat} {i v : Int} {H0 : PH} (h : frm md H0 H) (hm : inmdT md 87 = true) : frm md H0 (pup H 602 i v) := frm_up (c := 602) h (zrt_row (by decide) (by decide +kernel)) (by rw [show tau 602 = 87 from rfl]; exact inmd_T hm _)
theorem ra_603 {i : Int} (h : WT lv g H) (h1 : 0 ≤ i) (h2 : i < 72) : -2147483648 ≤ H 603 i ∧ H 603 i ≤ 2147483647 := WT_ra (c := 603) (n := 72) h (by decide +kernel) h1 h2
theorem wa_603 {i v : Int} (h : WT lv g H) (h0 : 0 ≤ i) (h1 : -2147483648 ≤ v) (h2 : v ≤ 2147483647) : WT lv g (pup H 603 i v) := WT_wa (c := 603) (n := 72) (lo := -2147483648) (hi := 2147483647) h (by decide +kernel) (fz_no (by decide +kernel)) h0 h1 h2
theorem fa_603 {md : List Nat} {i v : Int} {H0 : PH} (h : frm md H0 H) (hm : inmdT md 88 = true) : frm md H0 (pup H 603 i v) := frm_up (c := 603) h (zrt_row (by decide) (by decide +kernel)) (by rw [show tau 603 = 88 from rfl]; exact inmd_T hm _)
theorem ra_604 {i : Int} (h : WT lv g H) (h1 : 0 ≤ i) (h2 : i < 72) : -2147483648 ≤ H 604 i ∧ H 604 i ≤ 2147483647 := WT_ra (c := 604) (n := 72) h (by decide +kernel) h1 h2
theorem wa_604 {i v : Int} (h : WT lv g H) (h0 : 0 ≤ i) (h1 : -2147483648 ≤ v) (h2 : v ≤ 2147483647) : WT lv g (pup H 604 i v) := WT_wa (c := 604) (n := 72) (lo := -2147483648) (hi := 2147483647) h (by decide +kernel) (fz_no (by decide +kernel)) h0 h1 h2
theorem fa_604 {md : List Nat} {i v : Int} {H0 : PH} (h : frm md H0 H) (hm : inmdT md 89 = true) : frm md H0 (pup H 604 i v) := frm_up (c := 604) h (zrt_row (by decide) (by decide +kernel)) (by rw [show tau 604 = 89 from rfl]; exact inmd_T hm _)
theorem ra_605 {i : Int} (h : WT lv g H) (h1 : 0 ≤ i) (h2 : i < 72) : -2147483648 ≤ H 605 i ∧ H 605 i ≤ 2147483647 := WT_ra (c := 605) (n := 72) h (by decide +kernel) h1 h2
theorem wa_605 {i v : Int} (h : WT lv g H) (h0 : 0 ≤ i) (h1 : -2147483648 ≤ v) (h2 : v ≤ 2147483647) : WT lv g (pup H 605 i v) := WT_wa (c := 605) (n := 72) (lo := -2147483648) (hi := 2147483647) h (by decide +kernel) (fz_no (by decide +kernel)) h0 h1 h2
theorem fa_605 {md : List Nat} {i v : Int} {H0 : PH} (h : frm md H0 H) (hm : inmdT md 90 = true) : frm md H0 (pup H 605 i v) := frm_up (c := 605) h (zrt_row (by decide) (by decide +kernel)) (by rw [show tau 605 = 90 from rfl]; exact inmd_T hm _)
theorem ra_606 {i : Int} (h : WT lv g H) (h1 : 0 ≤ i) (h2 : i < 72) : -2147483648 ≤ H 606 i ∧ H 606 i ≤ 2147483647 := WT_ra (c := 606) (n := 72) h (by decide +kernel) h1 h2
theorem wa_606 {i v : Int} (h : WT lv g H) (h0 : 0 ≤ i) (h1 : -2147483648 ≤ v) (h2 : v ≤ 2147483647) : WT lv g (pup H 606 i v) := WT_wa (c := 606) (n := 72) (lo := -2147483648) (hi := 2147483647) h (by decide +kernel) (fz_no (by decide +kernel)) h0 h1 h2
theorem fa_606 {md : List Nat} {i v : Int} {H0 : PH} (h : frm md H0 H) (hm : inmdT md 91 = true) : frm md H0 (pup H 606 i v) := frm_up (c := 606) h (zrt_row (by decide) (by decide +kernel)) (by rw [show tau 606 = 91 from rfl]; exact inmd_T hm _)
theorem ra_607 {i : Int} (h : WT lv g H) (h1 : 0 ≤ i) (h2 : i < 12) : -2147483648 ≤ H 607 i ∧ H 607 i ≤ 2147483647 := WT_ra (c := 607) (n := 12) h (by decide +kernel) h1 h2
theorem wa_607 {i v : Int} (h : WT lv g H) (h0 : 0 ≤ i) (h1 : -2147483648 ≤ v) (h2 : v ≤ 2147483647) : WT lv g (pup H 607 i v) := WT_wa (c := 607) (n := 12) (lo := -2147483648) (hi := 2147483647) h (by decide +kernel) (fz_no (by decide +kernel)) h0 h1 h2
theorem fa_607 {md : List Nat} {i v : Int} {H0 : PH} (h : frm md H0 H) (hm : inmdT md 92 = true) : frm md H0 (pup H 607 i v) := frm_up (c := 607) h (zrt_row (by decide) (by decide +kernel)) (by rw [show tau 607 = 92 from rfl]; exact inmd_T hm _)
theorem ra_608 {i : Int} (h : WT lv g H) (h1 : 0 ≤ i) (h2 : i < 864) : -2147483648 ≤ H 608 i ∧ H 608 i ≤ 2147483647 := WT_ra (c := 608) (n := 864) h (by decide +kernel) h1 h2
theorem wa_608 {i v : Int} (h : WT lv g H) (h0 : 0 ≤ i) (h1 : -2147483648 ≤ v) (h2 : v ≤ 2147483647) : WT lv g (pup H 608 i v) := WT_wa (c := 608) (n := 864) (lo := -2147483648) (hi := 2147483647) h (by decide +kernel) (fz_no (by decide +kernel)) h0 h1 h2
theorem fa_608 {md : List Nat} {i v : Int} {H0 : PH} (h : frm md H0 H) (hm : inmdT md 93 = true) : frm md H0 (pup H 608 i v) := frm_up (c := 608) h (zrt_row (by decide) (by decide +kernel)) (by rw [show tau 608 = 93 from rfl]; exact inmd_T hm _)
theorem ra_609 {i : Int} (h : WT lv g H) (h1 : 0 ≤ i) (h2 : i < 864) : 0 ≤ H 609 i ∧ H 609 i ≤ 99 := WT_ra (c := 609) (n := 864) h (by decide +kernel) h1 h2
theorem wa_609 {i v : Int} (h : WT lv g H) (h0 : 0 ≤ i) (h1 : 0 ≤ v) (h2 : v ≤ 99) : WT lv g (pup H 609 i v) := WT_wa (c := 609) (n := 864) (lo := 0) (hi := 99) h (by decide +kernel) (fz_no (by decide +kernel)) h0 h1 h2
theorem fa_609 {md : List Nat} {i v : Int} {H0 : PH} (h : frm md H0 H) (hm : inmdT md 94 = true) : frm md H0 (pup H 609 i v) := frm_up (c := 609) h (zrt_row (by decide) (by decide +kernel)) (by rw [show tau 609 = 94 from rfl]; exact inmd_T hm _)
theorem ra_610 {i : Int} (h : WT lv g H) (h1 : 0 ≤ i) (h2 : i < 84) : -2147483648 ≤ H 610 i ∧ H 610 i ≤ 2147483647 := WT_ra (c := 610) (n := 84) h (by decide +kernel) h1 h2
theorem wa_610 {i v : Int} (h : WT lv g H) (h0 : 0 ≤ i) (h1 : -2147483648 ≤ v) (h2 : v ≤ 2147483647) : WT lv g (pup H 610 i v) := WT_wa (c := 610) (n := 84) (lo := -2147483648) (hi := 2147483647) h (by decide +kernel) (fz_no (by decide +kernel)) h0 h1 h2
theorem fa_610 {md : List Nat} {i v : Int} {H0 : PH} (h : frm md H0 H) (hm : inmdT md 95 = true) : frm md H0 (pup H 610 i v) := frm_up (c := 610) h (zrt_row (by decide) (by decide +kernel)) (by rw [show tau 610 = 95 from rfl]; exact inmd_T hm _)
theorem ra_611 {i : Int} (h : WT lv g H) (h1 : 0 ≤ i) (h2 : i < 84) : -2147483648 ≤ H 611 i ∧ H 611 i ≤ 2147483647 := WT_ra (c := 611) (n := 84) h (by decide +kernel) h1 h2
theorem wa_611 {i v : Int} (h : WT lv g H) (h0 : 0 ≤ i) (h1 : -2147483648 ≤ v) (h2 : v ≤ 2147483647) : WT lv g (pup H 611 i v) := WT_wa (c := 611) (n := 84) (lo := -2147483648) (hi := 2147483647) h (by decide +kernel) (fz_no (by decide +kernel)) h0 h1 h2
theorem fa_611 {md : List Nat} {i v : Int} {H0 : PH} (h : frm md H0 H) (hm : inmdT md 96 = true) : frm md H0 (pup H 611 i v) := frm_up (c := 611) h (zrt_row (by decide) (by decide +kernel)) (by rw [show tau 611 = 96 from rfl]; exact inmd_T hm _)
theorem ra_612 {i : Int} (h : WT lv g H) (h1 : 0 ≤ i) (h2 : i < 60) : 0 ≤ H 612 i ∧ H 612 i ≤ 59 := WT_ra (c := 612) (n := 60) h (by decide +kernel) h1 h2
theorem wa_612 {i v : Int} (h : WT lv g H) (h0 : 0 ≤ i) (h1 : 0 ≤ v) (h2 : v ≤ 59) : WT lv g (pup H 612 i v) := WT_wa (c := 612) (n := 60) (lo := 0) (hi := 59) h (by decide +kernel) (fz_no (by decide +kernel)) h0 h1 h2
theorem fa_612 {md : List Nat} {i v : Int} {H0 : PH} (h : frm md H0 H) (hm : inmdT md 97 = true) : frm md H0 (pup H 612 i v) := frm_up (c := 612) h (zrt_row (by decide) (by decide +kernel)) (by rw [show tau 612 = 97 from rfl]; exact inmd_T hm _)
theorem ra_613 {i : Int} (h : WT lv g H) (h1 : 0 ≤ i) (h2 : i < 60) : 0 ≤ H 613 i ∧ H 613 i ≤ 59 := WT_ra (c := 613) (n := 60) h (by decide +kernel) h1 h2
theorem wa_613 {i v : Int} (h : WT lv g H) (h0 : 0 ≤ i) (h1 : 0 ≤ v) (h2 : v ≤ 59) : WT lv g (pup H 613 i v) := WT_wa (c := 613) (n := 60) (lo := 0) (hi := 59) h (by decide +kernel) (fz_no (by decide +kernel)) h0 h1 h2
theorem fa_613 {md : List Nat} {i v : Int} {H0 : PH} (h : frm md H0 H) (hm : inmdT md 98 = true) : frm md H0 (pup H 613 i v) := frm_up (c := 613) h (zrt_row (by decide) (by decide +kernel)) (by rw [show tau 613 = 98 from rfl]; exact inmd_T hm _)
theorem ra_614 {i : Int} (h : WT lv g H) (h1 : 0 ≤ i) (h2 : i < 61) : -2147483648 ≤ H 614 i ∧ H 614 i ≤ 2147483647 := WT_ra (c := 614) (n := 61) h (by decide +kernel) h1 h2
theorem wa_614 {i v : Int} (h : WT lv g H) (h0 : 0 ≤ i) (h1 : -2147483648 ≤ v) (h2 : v ≤ 2147483647) : WT lv g (pup H 614 i v) := WT_wa (c := 614) (n := 61) (lo := -2147483648) (hi := 2147483647) h (by decide +kernel) (fz_no (by decide +kernel)) h0 h1 h2
theorem fa_614 {md : List Nat} {i v : Int} {H0 : PH} (h : frm md H0 H) (hm : inmdT md 99 = true) : frm md H0 (pup H 614 i v) := frm_up (c := 614) h (zrt_row (by decide) (by decide +kernel)) (by rw [show tau 614 = 99 from rfl]; exact inmd_T hm _)
theorem ra_615 {i : Int} (h : WT lv g H) (h1 : 0 ≤ i) (h2 : i < 61) : -2147483648 ≤ H 615 i ∧ H 615 i ≤ 2147483647 := WT_ra (c := 615) (n := 61) h (by decide +kernel) h1 h2
theorem wa_615 {i v : Int} (h : WT lv g H) (h0 : 0 ≤ i) (h1 : -2147483648 ≤ v) (h2 : v ≤ 2147483647) : WT lv g (pup H 615 i v) := WT_wa (c := 615) (n := 61) (lo := -2147483648) (hi := 2147483647) h (by decide +kernel) (fz_no (by decide +kernel)) h0 h1 h2
theorem fa_615 {md : List Nat} {i v : Int} {H0 : PH} (h : frm md H0 H) (hm : inmdT md 100 = true) : frm md H0 (pup H 615 i v) := frm_up (c := 615) h (zrt_row (by decide) (by decide +kernel)) (by rw [show tau 615 = 100 from rfl]; exact inmd_T hm _)
theorem ra_616 {i : Int} (h : WT lv g H) (h1 : 0 ≤ i) (h2 : i < 8) : -2147483648 ≤ H 616 i ∧ H 616 i ≤ 2147483647 := WT_ra (c := 616) (n := 8) h (by decide +kernel) h1 h2
theorem wa_616 {i v : Int} (h : WT lv g H) (h0 : 0 ≤ i) (h1 : -2147483648 ≤ v) (h2 : v ≤ 2147483647) : WT lv g (pup H 616 i v) := WT_wa (c := 616) (n := 8) (lo := -2147483648) (hi := 2147483647) h (by decide +kernel) (fz_no (by decide +kernel)) h0 h1 h2
theorem fa_616 {md : List Nat} {i v : Int} {H0 : PH} (h : frm md H0 H) (hm : inmdT md 101 = true) : frm md H0 (pup H 616 i v) := frm_up (c := 616) h (zrt_row (by decide) (by decide +kernel)) (by rw [show tau 616 = 101 from rfl]; exact inmd_T hm _)
theorem ra_617 {i : Int} (h : WT lv g H) (h1 : 0 ≤ i) (h2 : i < 60) : 0 ≤ H 617 i ∧ H 617 i ≤ 59 := WT_ra (c := 617) (n := 60) h (by decide +kernel) h1 h2
theorem wa_617 {i v : Int} (h : WT lv g H) (h0 : 0 ≤ i) (h1 : 0 ≤ v) (h2 : v ≤ 59) : WT lv g (pup H 617 i v) := WT_wa (c := 617) (n := 60) (lo := 0) (hi := 59) h (by decide +kernel) (fz_no (by decide +kernel)) h0 h1 h2
theorem fa_617 {md : List Nat} {i v : Int} {H0 : PH} (h : frm md H0 H) (hm : inmdT md 102 = true) : frm md H0 (pup H 617 i v) := frm_up (c := 617) h (zrt_row (by decide) (by decide +kernel)) (by rw [show tau 617 = 102 from rfl]; exact inmd_T hm _)
theorem ra_618 {i : Int} (h : WT lv g H) (h1 : 0 ≤ i) (h2 : i < 5) : -2147483648 ≤ H 618 i ∧ H 618 i ≤ 2147483647 := WT_ra (c := 618) (n := 5) h (by decide +kernel) h1 h2
theorem wa_618 {i v : Int} (h : WT lv g H) (h0 : 0 ≤ i) (h1 : -2147483648 ≤ v) (h2 : v ≤ 2147483647) : WT lv g (pup H 618 i v) := WT_wa (c := 618) (n := 5) (lo := -2147483648) (hi := 2147483647) h (by decide +kernel) (fz_no (by decide +kernel)) h0 h1 h2
theorem fa_618 {md : List Nat} {i v : Int} {H0 : PH} (h : frm md H0 H) (hm : inmdT md 103 = true) : frm md H0 (pup H 618 i v) := frm_up (c := 618) h (zrt_row (by decide) (by decide +kernel)) (by rw [show tau 618 = 103 from rfl]; exact inmd_T hm _)
theorem ra_619 {i : Int} (h : WT lv g H) (h1 : 0 ≤ i) (h2 : i < 5) : -2147483648 ≤ H 619 i ∧ H 619 i ≤ 2147483647 := WT_ra (c := 619) (n := 5) h (by decide +kernel) h1 h2
theorem wa_619 {i v : Int} (h : WT lv g H) (h0 : 0 ≤ i) (h1 : -2147483648 ≤ v) (h2 : v ≤ 2147483647) : WT lv g (pup H 619 i v) := WT_wa (c := 619) (n := 5) (lo := -2147483648) (hi := 2147483647) h (by decide +kernel) (fz_no (by decide +kernel)) h0 h1 h2
theorem fa_619 {md : List Nat} {i v : Int} {H0 : PH} (h : frm md H0 H) (hm : inmdT md 104 = true) : frm md H0 (pup H 619 i v) := frm_up (c := 619) h (zrt_row (by decide) (by decide +kernel)) (by rw [show tau 619 = 104 from rfl]; exact inmd_T hm _)
theorem ra_620 {i : Int} (h : WT lv g H) (h1 : 0 ≤ i) (h2 : i < 60) : -2147483648 ≤ H 620 i ∧ H 620 i ≤ 2147483647 := WT_ra (c := 620) (n := 60) h (by decide +kernel) h1 h2
theorem wa_620 {i v : Int} (h : WT lv g H) (h0 : 0 ≤ i) (h1 : -2147483648 ≤ v) (h2 : v ≤ 2147483647) : WT lv g (pup H 620 i v) := WT_wa (c := 620) (n := 60) (lo := -2147483648) (hi := 2147483647) h (by decide +kernel) (fz_no (by decide +kernel)) h0 h1 h2
theorem fa_620 {md : List Nat} {i v : Int} {H0 : PH} (h : frm md H0 H) (hm : inmdT md 105 = true) : frm md H0 (pup H 620 i v) := frm_up (c := 620) h (zrt_row (by decide) (by decide +kernel)) (by rw [show tau 620 = 105 from rfl]; exact inmd_T hm _)
theorem ra_621 {i : Int} (h : WT lv g H) (h1 : 0 ≤ i) (h2 : i < 240) : -2147483648 ≤ H 621 i ∧ H 621 i ≤ 2147483647 := WT_ra (c := 621) (n := 240) h (by decide +kernel) h1 h2
theorem wa_621 {i v : Int} (h : WT lv g H) (h0 : 0 ≤ i) (h1 : -2147483648 ≤ v) (h2 : v ≤ 2147483647) : WT lv g (pup H 621 i v) := WT_wa (c := 621) (n := 240) (lo := -2147483648) (hi := 2147483647) h (by decide +kernel) (fz_no (by decide +kernel)) h0 h1 h2
theorem fa_621 {md : List Nat} {i v : Int} {H0 : PH} (h : frm md H0 H) (hm : inmdT md 106 = true) : frm md H0 (pup H 621 i v) := frm_up (c := 621) h (zrt_row (by decide) (by decide +kernel)) (by rw [show tau 621 = 106 from rfl]; exact inmd_T hm _)
theorem arg_int {lo hi : Int} {s : Nat} {p : pv} (h : aval (0, lo, hi, s) p) : ∃ x, p = (0, x) ∧ lo ≤ x ∧ x ≤ hi ∧ (s : Int) ∣ x - lo := by
  obtain ⟨t, x⟩ := p
  have e : t = 0 := h.1
  subst e
  exact ⟨x, rfl, h.2.1 rfl⟩
theorem arg_ref {a b : Int} {t : Nat} {p : pv} (h : aval (2, a, b, t) p) : ∃ c : Nat, p = (2, (c : Int)) ∧ c < 622 ∧ tau c = t := by
  obtain ⟨k, x⟩ := p
  have e : k = 2 := h.1
  subst e
  obtain ⟨h1, h2, h3⟩ := h.2.2.2 rfl
  have h1 : (0 : Int) ≤ x := h1
  obtain ⟨n, rfl⟩ := Int.eq_ofNat_of_zero_le h1
  have h2 : (n : Int) < 622 := h2
  exact ⟨n, rfl, by omega, h3⟩
theorem arg_sing {a b : Int} {t n : Nat} {p : pv} (h : aval (2, a, b, t) p) (hs : (tsh t).2.2 = n + 1) : p = (2, (n : Int)) := by
  obtain ⟨c, rfl, hc, ht⟩ := arg_ref h
  have := (tau_ok hc).2.2.1
  rw [ht, hs] at this
  have e : c = n := by omega
  rw [e]
theorem arg_long {a : Int} {b : Int} {s : Nat} {p : pv} (h : aval (1, a, b, s) p) : ∃ x, p = (1, x) ∧ (a = 0 ∨ MK x) := by
  obtain ⟨t, x⟩ := p
  have e : t = 1 := h.1
  subst e
  exact ⟨x, rfl, (h.2.2.1 rfl).imp id (fun q => q.1)⟩
theorem aargs1 {a : aV} {as : List pv} (h : aargs [a] as) : ∃ p, as = [p] ∧ aval a p := by
  match as, h with
  | [p], h => exact ⟨p, rfl, h.1⟩
theorem aargs2 {a b : aV} {as : List pv} (h : aargs [a, b] as) : ∃ p q, as = [p, q] ∧ aval a p ∧ aval b q := by
  match as, h with
  | [p, q], h => exact ⟨p, q, rfl, h.1, h.2.1⟩
theorem aargs3 {a b c : aV} {as : List pv} (h : aargs [a, b, c] as) : ∃ p q r, as = [p, q, r] ∧ aval a p ∧ aval b q ∧ aval c r := by
  match as, h with
  | [p, q, r], h => exact ⟨p, q, r, rfl, h.1, h.2.1, h.2.2.1⟩
theorem aargs4 {a b c d : aV} {as : List pv} (h : aargs [a, b, c, d] as) : ∃ p q r s, as = [p, q, r, s] ∧ aval a p ∧ aval b q ∧ aval c r ∧ aval d s := by
  match as, h with
  | [p, q, r, s], h => exact ⟨p, q, r, s, rfl, h.1, h.2.1, h.2.2.1, h.2.2.2.1⟩
theorem aargs5 {a b c d e : aV} {as : List pv} (h : aargs [a, b, c, d, e] as) : ∃ p q r s u, as = [p, q, r, s, u] ∧ aval a p ∧ aval b q ∧ aval c r ∧ aval d s ∧ aval e u := by
  match as, h with
  | [p, q, r, s, u], h => exact ⟨p, q, r, s, u, rfl, h.1, h.2.1, h.2.2.1, h.2.2.2.1, h.2.2.2.2.1⟩
theorem frm_0 {H' : PH} (h : H = H') : frm [] H H' := by
  subst h
  exact frm_refl _ _
theorem b01 {x : Int} (h : x = 0 ∨ x = 1) : aval (0, 0, 1, 1) (0, x) := aval_mk ⟨by show 0 ≤ x; omega, by show x ≤ 1; omega, dvd_one _⟩
theorem vin {lo hi x : Int} (h1 : lo ≤ x) (h2 : x ≤ hi) : aval (0, lo, hi, 1) (0, x) := aval_mk ⟨h1, h2, dvd_one _⟩
/-- every number of the heap is an int -/
def HIN (H : PH) : Prop := ∀ c i : Nat, c < 622 → i < (zSh c).2.1 → (zrow (zSh c).1 ∨ ztg (zSh c).1 i = 0) → zIn (H c i)
theorem HIN_zW {h : zH} (hW : zW h H) : HIN H := by
  intro c i h1 h2 h3
  have q := hW.2.1 c (by rw [zNC_eq]; exact h1)
  by_cases e : zrow (zSh c).1
  · exact (q.2.2.1 e i h2).2
  · have q2 := ((q.2.2.2 e).2.2 i h2).2
    rw [h3.resolve_left e] at q2
    exact q2
theorem Ca_in {G : zG} {us D mj : Nat} {as : List pv} {K : Option pv → PH → Prop} (h : Ca G us D mj as H K) : Ca G us D mj as H (fun r H' => K r H' ∧ HIN H') := by
  obtain ⟨oc, ini, cc, maxL, rt, cdj, h1, h2, h3⟩ := h
  refine ⟨oc, ini, cc, maxL, rt, cdj, h1, h2, ?_⟩
  intro hl hs h0 hW
  obtain ⟨r, h', H', n0, a, b, c, d⟩ := h3 hl hs h0 hW
  exact ⟨r, h', H', n0, a, ⟨b, HIN_zW a⟩, c, d⟩
theorem Ca_in0 {G : zG} {us D mj : Nat} {as : List pv} {K : Option pv → PH → Prop} (h : HIN H → Ca G us D mj as H K) (hm : ∃ x, zget zM mj = some x ∧ x.1.1 = mj ∧ pcat as ≤ x.1.2.2.2.2.1) : Ca G us D mj as H K := by
  obtain ⟨⟨⟨m, oc, ini, cc, maxL, rt⟩, cdj⟩, h1, h2, h3⟩ := hm
  have h2 : m = mj := h2
  subst h2
  refine ⟨oc, ini, cc, maxL, rt, cdj, h1, h3, ?_⟩
  intro hl hs h0 hW
  obtain ⟨oc', ini', cc', maxL', rt', cdj', h1', h2', h3'⟩ := h (HIN_zW hW)
  rw [h1] at h1'
  cases h1'
  exact h3' hl hs h0 hW
theorem zw_lo (x : Int) : -2147483648 ≤ zw x := (zw_in x).1
theorem zw_hi (x : Int) : zw x ≤ 2147483647 := by have := (zw_in x).2; omega
end ACC
