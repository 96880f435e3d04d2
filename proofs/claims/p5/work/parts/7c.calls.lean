/-! ===== the law's calls: deeds ===== -/
def fd (t v t' : Int) : Prop := (580 < t ∧ v = -1 ∧ t' = t) ∨ (t ≤ 580 ∧ v = t + 20 ∧ t' = t + 20)
def ed (n t v t' : Int) : Prop := (¬ (0 ≤ n ∧ n ≤ t) ∧ v = -1 ∧ t' = t) ∨ ((0 ≤ n ∧ n ≤ t) ∧ v = n ∧ t' = n)
theorem qc_feed {G : zG} {us : Nat} {g : Nat → Nat → Int} (a0 : Int) (a1 : Int) (a2 : Int) (a3 : Int) (a4 : Int) (H : PH) (h : TI g H) (za0 : zIn a0) (za1 : zIn a1) (za2 : zIn a2) (za3 : zIn a3) (za4 : zIn a4) : Ca G us 2 105 [(2, 0), (0, a0), (0, a1), (0, a2), (0, a3), (0, a4)] H (fun r H' => ∃ v, r = some (0, v) ∧ TI g H' ∧ fd (H 213 1) v (H' 213 1) ∧ H' 590 4 = H 590 4) := by
  refine Ca_mono (Nat.le_refl _) ?_ (ca_X11_feed (g := g) a0 a1 a2 a3 a4 H h.1 (rf_213_1 h.1).1 (rf_213_1 h.1).2)
  rintro r H' ⟨w, f, q⟩
  have ti : TI g H' := ⟨w, LOGH_mod h.1 f h.2.1 rfl rfl rfl rfl rfl rfl rfl rfl, IM_same h.1 (SM_frm f rfl rfl rfl rfl) h.2.2⟩
  have ot : H' 590 4 = H 590 4 := f 590 4 (by decide) rfl
  rcases q with ⟨q1, q2, q3⟩ | ⟨q1, q2, q3⟩
  · exact ⟨_, q2, ti, Or.inl ⟨q1, rfl, q3⟩, ot⟩
  · exact ⟨_, q2, ti, Or.inr ⟨q1, rfl, q3⟩, ot⟩
theorem qc_end {G : zG} {us : Nat} {g : Nat → Nat → Int} (a0 : Int) (H : PH) (h : TI g H) (za0 : zIn a0) : Ca G us 2 106 [(2, 0), (0, a0)] H (fun r H' => ∃ v, r = some (0, v) ∧ TI g H' ∧ ed a0 (H 213 1) v (H' 213 1) ∧ H' 590 4 = H 590 4) := by
  refine Ca_mono (Nat.le_refl _) ?_ (ca_X11_end (g := g) a0 H h.1 (rf_213_1 h.1).1 (rf_213_1 h.1).2)
  rintro r H' ⟨w, f, q⟩
  have ti : TI g H' := ⟨w, LOGH_mod h.1 f h.2.1 rfl rfl rfl rfl rfl rfl rfl rfl, IM_same h.1 (SM_frm f rfl rfl rfl rfl) h.2.2⟩
  have ot : H' 590 4 = H 590 4 := f 590 4 (by decide) rfl
  rcases q with ⟨q1, q2, q3⟩ | ⟨q1, q2, q3⟩
  · exact ⟨_, q2, ti, Or.inl ⟨q1, rfl, q3⟩, ot⟩
  · exact ⟨_, q2, ti, Or.inr ⟨q1, rfl, q3⟩, ot⟩
theorem qc_text {G : zG} {us : Nat} {g : Nat → Nat → Int} (H : PH) (h : TI g H) : Ca G us 13 107 [(2, 0)] H (fun r H' => (∃ v, r = some (0, v)) ∧ TI g H' ∧ H' 213 1 = 0 ∧ H' 590 4 = H 590 4) :=
  Ca_mono (Nat.le_refl _) (fun r H' q => ⟨q.1, ⟨q.2.1, q.2.2.2.1, q.2.2.2.2.1⟩, q.2.2.2.2.2, q.2.2.1 590 4 (by decide) rfl⟩) (ca_X11_text (g := g)  H h.1 h.2.1 h.2.2)
theorem qc_law {G : zG} {us : Nat} {g : Nat → Nat → Int} (H : PH) (h : TI g H) : Ca G us 31 108 [(2, 0)] H (fun r H' => (∃ v, r = some (0, v)) ∧ TI g H' ∧ H' 213 1 = 0 ∧ H' 590 4 = H 590 4) :=
  Ca_mono (Nat.le_refl _) (fun r H' q => ⟨q.1, ⟨q.2.1, q.2.2.2.1, q.2.2.2.2.1⟩, q.2.2.2.2.2, q.2.2.1 590 4 (by decide) rfl⟩) (ca_X11_law (g := g)  H h.1 h.2.1 h.2.2)
theorem qc_remark {G : zG} {us : Nat} {g : Nat → Nat → Int} (a0 : Int) (a1 : Int) (a2 : Int) (H : PH) (h : TI g H) (za0 : zIn a0) (za1 : zIn a1) (za2 : zIn a2) : Ca G us 3 121 [(2, 0), (0, a0), (0, a1), (0, a2)] H (fun r H' => (∃ v, r = some (0, v)) ∧ TI g H' ∧ H' 213 1 = H 213 1 ∧ H' 590 4 = H 590 4) :=
  Ca_mono (Nat.le_refl _) (fun r H' q => ⟨q.1, ⟨q.2.1, q.2.2.2.1, q.2.2.2.2⟩, q.2.2.1 213 1 (by decide) rfl, q.2.2.1 590 4 (by decide) rfl⟩) (ca_X11_remark (g := g) a0 a1 a2 H h.1 h.2.1 h.2.2)
theorem qc_claim {G : zG} {us : Nat} {g : Nat → Nat → Int} (a0 : Int) (a1 : Int) (H : PH) (h : TI g H) (za0 : zIn a0) (za1 : zIn a1) : Ca G us 3 123 [(2, 0), (0, a0), (0, a1)] H (fun r H' => (∃ v, r = some (0, v)) ∧ TI g H' ∧ H' 213 1 = H 213 1 ∧ H' 590 4 = H 590 4) :=
  Ca_mono (Nat.le_refl _) (fun r H' q => ⟨q.1, ⟨q.2.1, q.2.2.2.1, q.2.2.2.2⟩, q.2.2.1 213 1 (by decide) rfl, q.2.2.1 590 4 (by decide) rfl⟩) (ca_X11_claim (g := g) a0 a1 H h.1 h.2.1 h.2.2)
theorem qc_limit {G : zG} {us : Nat} {g : Nat → Nat → Int} (a0 : Int) (H : PH) (h : TI g H) (za0 : zIn a0) : Ca G us 3 124 [(2, 0), (0, a0)] H (fun r H' => (∃ v, r = some (0, v)) ∧ TI g H' ∧ H' 213 1 = H 213 1 ∧ H' 590 4 = H 590 4) :=
  Ca_mono (Nat.le_refl _) (fun r H' q => ⟨q.1, ⟨q.2.1, q.2.2.2.1, q.2.2.2.2⟩, q.2.2.1 213 1 (by decide) rfl, q.2.2.1 590 4 (by decide) rfl⟩) (ca_X11_limit (g := g) a0 H h.1 h.2.1 h.2.2)
theorem qc_far {G : zG} {us : Nat} {g : Nat → Nat → Int} (a0 : Int) (H : PH) (h : TI g H) (za0 : zIn a0) : Ca G us 3 125 [(2, 0), (0, a0)] H (fun r H' => (∃ v, r = some (0, v)) ∧ TI g H' ∧ H' 213 1 = H 213 1 ∧ H' 590 4 = H 590 4) :=
  Ca_mono (Nat.le_refl _) (fun r H' q => ⟨q.1, ⟨q.2.1, q.2.2.2.1, q.2.2.2.2⟩, q.2.2.1 213 1 (by decide) rfl, q.2.2.1 590 4 (by decide) rfl⟩) (ca_X11_far (g := g) a0 H h.1 h.2.1 h.2.2)
theorem qc_pack {G : zG} {us : Nat} {g : Nat → Nat → Int} (a0 : Int) (H : PH) (h : TI g H) (za0 : zIn a0) : Ca G us 3 126 [(2, 0), (0, a0)] H (fun r H' => (∃ v, r = some (0, v)) ∧ TI g H' ∧ H' 213 1 = H 213 1 ∧ H' 590 4 = H 590 4) :=
  Ca_mono (Nat.le_refl _) (fun r H' q => ⟨q.1, ⟨q.2.1, q.2.2.2.1, q.2.2.2.2⟩, q.2.2.1 213 1 (by decide) rfl, q.2.2.1 590 4 (by decide) rfl⟩) (ca_X11_pack (g := g) a0 H h.1 h.2.1 h.2.2)
theorem qc_days {G : zG} {us : Nat} {g : Nat → Nat → Int} (a0 : Int) (H : PH) (h : TI g H) (za0 : zIn a0) : Ca G us 3 135 [(2, 0), (0, a0)] H (fun r H' => (∃ v, r = some (0, v)) ∧ TI g H' ∧ H' 213 1 = H 213 1 ∧ H' 590 4 = H 590 4) :=
  Ca_mono (Nat.le_refl _) (fun r H' q => ⟨q.1, ⟨q.2.1, q.2.2.2.1, q.2.2.2.2⟩, q.2.2.1 213 1 (by decide) rfl, q.2.2.1 590 4 (by decide) rfl⟩) (ca_X11_days (g := g) a0 H h.1 h.2.1 h.2.2)
theorem qc_rate {G : zG} {us : Nat} {g : Nat → Nat → Int} (a0 : Int) (a1 : Int) (H : PH) (h : TI g H) (za0 : zIn a0) (za1 : zIn a1) : Ca G us 3 136 [(2, 0), (0, a0), (0, a1)] H (fun r H' => (∃ v, r = some (0, v)) ∧ TI g H' ∧ H' 213 1 = H 213 1 ∧ H' 590 4 = H 590 4) :=
  Ca_mono (Nat.le_refl _) (fun r H' q => ⟨q.1, ⟨q.2.1, q.2.2.2.1, q.2.2.2.2⟩, q.2.2.1 213 1 (by decide) rfl, q.2.2.1 590 4 (by decide) rfl⟩) (ca_X11_rate (g := g) a0 a1 H h.1 h.2.1 h.2.2)
theorem qc_deliver {G : zG} {us : Nat} {g : Nat → Nat → Int} (a0 : Int) (a1 : Int) (H : PH) (h : TI g H) (za0 : zIn a0) (za1 : zIn a1) : Ca G us 12 137 [(2, 0), (0, a0), (0, a1)] H (fun r H' => (∃ v, r = some (0, v)) ∧ TI g H' ∧ H' 213 1 = H 213 1 ∧ H' 590 4 = H 590 4) :=
  Ca_mono (Nat.le_refl _) (fun r H' q => ⟨q.1, ⟨q.2.1, q.2.2.2.1, q.2.2.2.2⟩, q.2.2.1 213 1 (by decide) rfl, q.2.2.1 590 4 (by decide) rfl⟩) (ca_X11_deliver (g := g) a0 a1 H ⟨za0.1, zIn_hi za0⟩ ⟨za1.1, zIn_hi za1⟩ h.1 h.2.1 h.2.2)
theorem qc_strike {G : zG} {us : Nat} {g : Nat → Nat → Int} (a0 : Int) (H : PH) (h : TI g H) (za0 : zIn a0) : Ca G us 4 141 [(2, 0), (0, a0)] H (fun r H' => (∃ v, r = some (0, v)) ∧ TI g H' ∧ H' 213 1 = H 213 1 ∧ H' 590 4 = H 590 4) :=
  Ca_mono (Nat.le_refl _) (fun r H' q => ⟨q.1, ⟨q.2.1, q.2.2.2.1, q.2.2.2.2⟩, q.2.2.1 213 1 (by decide) rfl, q.2.2.1 590 4 (by decide) rfl⟩) (ca_X11_strike (g := g) a0 H h.1 h.2.1 h.2.2)
theorem qc_back {G : zG} {us : Nat} {g : Nat → Nat → Int} (H : PH) (h : TI g H) : Ca G us 9 142 [(2, 0)] H (fun r H' => (∃ v, r = some (0, v)) ∧ TI g H' ∧ H' 213 1 = H 213 1 ∧ H' 590 4 = H 590 4) :=
  Ca_mono (Nat.le_refl _) (fun r H' q => ⟨q.1, ⟨q.2.1, q.2.2.2.1, q.2.2.2.2.1⟩, q.2.2.2.2.2, q.2.2.1 590 4 (by decide) rfl⟩) (ca_X11_back (g := g)  H h.1 h.2.1 h.2.2)
theorem qm_feed {G : zG} {us : Nat} {g : Nat → Nat → Int} (a0 : Int) (a1 : Int) (a2 : Int) (a3 : Int) (a4 : Int) (H : PH) (h : TI g H) (za0 : zIn a0) (za1 : zIn a1) (za2 : zIn a2) (za3 : zIn a3) (za4 : zIn a4) : Ca G us 2 161 [(2, 590), (0, a0), (0, a1), (0, a2), (0, a3), (0, a4)] H (fun r H' => ∃ v, r = some (0, v) ∧ TI g H' ∧ fd (H 590 4) v (H' 590 4) ∧ H' 213 1 = H 213 1) := by
  refine Ca_mono (Nat.le_refl _) ?_ (ca_X12_feed (g := g) a0 a1 a2 a3 a4 H h.1 (rf_590_4 h.1).1 (rf_590_4 h.1).2)
  rintro r H' ⟨w, f, q⟩
  have ti : TI g H' := ⟨w, LOGH_mod h.1 f h.2.1 rfl rfl rfl rfl rfl rfl rfl rfl, IM_same h.1 (SM_frm f rfl rfl rfl rfl) h.2.2⟩
  have ot : H' 213 1 = H 213 1 := f 213 1 (by decide) rfl
  rcases q with ⟨q1, q2, q3⟩ | ⟨q1, q2, q3⟩
  · exact ⟨_, q2, ti, Or.inl ⟨q1, rfl, q3⟩, ot⟩
  · exact ⟨_, q2, ti, Or.inr ⟨q1, rfl, q3⟩, ot⟩
theorem qm_end {G : zG} {us : Nat} {g : Nat → Nat → Int} (a0 : Int) (H : PH) (h : TI g H) (za0 : zIn a0) : Ca G us 2 162 [(2, 590), (0, a0)] H (fun r H' => ∃ v, r = some (0, v) ∧ TI g H' ∧ ed a0 (H 590 4) v (H' 590 4) ∧ H' 213 1 = H 213 1) := by
  refine Ca_mono (Nat.le_refl _) ?_ (ca_X12_end (g := g) a0 H h.1 (rf_590_4 h.1).1 (rf_590_4 h.1).2)
  rintro r H' ⟨w, f, q⟩
  have ti : TI g H' := ⟨w, LOGH_mod h.1 f h.2.1 rfl rfl rfl rfl rfl rfl rfl rfl, IM_same h.1 (SM_frm f rfl rfl rfl rfl) h.2.2⟩
  have ot : H' 213 1 = H 213 1 := f 213 1 (by decide) rfl
  rcases q with ⟨q1, q2, q3⟩ | ⟨q1, q2, q3⟩
  · exact ⟨_, q2, ti, Or.inl ⟨q1, rfl, q3⟩, ot⟩
  · exact ⟨_, q2, ti, Or.inr ⟨q1, rfl, q3⟩, ot⟩
theorem qm_text {G : zG} {us : Nat} {g : Nat → Nat → Int} (H : PH) (h : TI g H) : Ca G us 6 182 [(2, 590)] H (fun r H' => (∃ v, r = some (0, v)) ∧ TI g H' ∧ H' 213 1 = H 213 1 ∧ H' 590 4 = 0) :=
  Ca_mono (Nat.le_refl _) (fun r H' q => ⟨q.1, ⟨q.2.1, LOGH_mod h.1 q.2.2.1 h.2.1 rfl rfl rfl rfl rfl rfl rfl rfl, q.2.2.2.1⟩, q.2.2.1 213 1 (by decide) rfl, q.2.2.2.2⟩) (ca_X12_text (g := g)  H h.1 h.2.2)
theorem qm_law {G : zG} {us : Nat} {g : Nat → Nat → Int} (H : PH) (h : TI g H) : Ca G us 5 189 [(2, 590)] H (fun r H' => (∃ v, r = some (0, v)) ∧ TI g H' ∧ H' 213 1 = H 213 1 ∧ H' 590 4 = 0) :=
  Ca_mono (Nat.le_refl _) (fun r H' q => ⟨q.1, ⟨q.2.1, LOGH_mod h.1 q.2.2.1 h.2.1 rfl rfl rfl rfl rfl rfl rfl rfl, q.2.2.2.1⟩, q.2.2.1 213 1 (by decide) rfl, q.2.2.2.2⟩) (ca_X12_law (g := g)  H h.1 h.2.2)
theorem qm_remark {G : zG} {us : Nat} {g : Nat → Nat → Int} (a0 : Int) (a1 : Int) (a2 : Int) (H : PH) (h : TI g H) (za0 : zIn a0) (za1 : zIn a1) (za2 : zIn a2) : Ca G us 3 226 [(2, 590), (0, a0), (0, a1), (0, a2)] H (fun r H' => (∃ v, r = some (0, v)) ∧ TI g H' ∧ H' 213 1 = H 213 1 ∧ H' 590 4 = H 590 4) :=
  Ca_mono (Nat.le_refl _) (fun r H' q => ⟨q.1, ⟨q.2.1, LOGH_mod h.1 q.2.2.1 h.2.1 rfl rfl rfl rfl rfl rfl rfl rfl, q.2.2.2⟩, q.2.2.1 213 1 (by decide) rfl, q.2.2.1 590 4 (by decide) rfl⟩) (ca_X12_remark (g := g) a0 a1 a2 H h.1 h.2.2)
theorem qm_claim {G : zG} {us : Nat} {g : Nat → Nat → Int} (a0 : Int) (a1 : Int) (H : PH) (h : TI g H) (za0 : zIn a0) (za1 : zIn a1) : Ca G us 3 229 [(2, 590), (0, a0), (0, a1)] H (fun r H' => (∃ v, r = some (0, v)) ∧ TI g H' ∧ H' 213 1 = H 213 1 ∧ H' 590 4 = H 590 4) :=
  Ca_mono (Nat.le_refl _) (fun r H' q => ⟨q.1, ⟨q.2.1, LOGH_mod h.1 q.2.2.1 h.2.1 rfl rfl rfl rfl rfl rfl rfl rfl, q.2.2.2⟩, q.2.2.1 213 1 (by decide) rfl, q.2.2.1 590 4 (by decide) rfl⟩) (ca_X12_claim (g := g) a0 a1 H h.1 h.2.2)
theorem qm_limit {G : zG} {us : Nat} {g : Nat → Nat → Int} (a0 : Int) (H : PH) (h : TI g H) (za0 : zIn a0) : Ca G us 3 230 [(2, 590), (0, a0)] H (fun r H' => (∃ v, r = some (0, v)) ∧ TI g H' ∧ H' 213 1 = H 213 1 ∧ H' 590 4 = H 590 4) :=
  Ca_mono (Nat.le_refl _) (fun r H' q => ⟨q.1, ⟨q.2.1, LOGH_mod h.1 q.2.2.1 h.2.1 rfl rfl rfl rfl rfl rfl rfl rfl, q.2.2.2⟩, q.2.2.1 213 1 (by decide) rfl, q.2.2.1 590 4 (by decide) rfl⟩) (ca_X12_limit (g := g) a0 H h.1 h.2.2)
theorem qm_far {G : zG} {us : Nat} {g : Nat → Nat → Int} (a0 : Int) (H : PH) (h : TI g H) (za0 : zIn a0) : Ca G us 3 231 [(2, 590), (0, a0)] H (fun r H' => (∃ v, r = some (0, v)) ∧ TI g H' ∧ H' 213 1 = H 213 1 ∧ H' 590 4 = H 590 4) :=
  Ca_mono (Nat.le_refl _) (fun r H' q => ⟨q.1, ⟨q.2.1, LOGH_mod h.1 q.2.2.1 h.2.1 rfl rfl rfl rfl rfl rfl rfl rfl, q.2.2.2⟩, q.2.2.1 213 1 (by decide) rfl, q.2.2.1 590 4 (by decide) rfl⟩) (ca_X12_far (g := g) a0 H h.1 h.2.2)
theorem qm_pack {G : zG} {us : Nat} {g : Nat → Nat → Int} (a0 : Int) (H : PH) (h : TI g H) (za0 : zIn a0) : Ca G us 3 232 [(2, 590), (0, a0)] H (fun r H' => (∃ v, r = some (0, v)) ∧ TI g H' ∧ H' 213 1 = H 213 1 ∧ H' 590 4 = H 590 4) :=
  Ca_mono (Nat.le_refl _) (fun r H' q => ⟨q.1, ⟨q.2.1, LOGH_mod h.1 q.2.2.1 h.2.1 rfl rfl rfl rfl rfl rfl rfl rfl, q.2.2.2⟩, q.2.2.1 213 1 (by decide) rfl, q.2.2.1 590 4 (by decide) rfl⟩) (ca_X12_pack (g := g) a0 H h.1 h.2.2)
theorem qm_days {G : zG} {us : Nat} {g : Nat → Nat → Int} (a0 : Int) (H : PH) (h : TI g H) (za0 : zIn a0) : Ca G us 3 253 [(2, 590), (0, a0)] H (fun r H' => (∃ v, r = some (0, v)) ∧ TI g H' ∧ H' 213 1 = H 213 1 ∧ H' 590 4 = H 590 4) :=
  Ca_mono (Nat.le_refl _) (fun r H' q => ⟨q.1, ⟨q.2.1, LOGH_mod h.1 q.2.2.1 h.2.1 rfl rfl rfl rfl rfl rfl rfl rfl, q.2.2.2⟩, q.2.2.1 213 1 (by decide) rfl, q.2.2.1 590 4 (by decide) rfl⟩) (ca_X12_days (g := g) a0 H h.1 h.2.2)
theorem qm_rate {G : zG} {us : Nat} {g : Nat → Nat → Int} (a0 : Int) (a1 : Int) (H : PH) (h : TI g H) (za0 : zIn a0) (za1 : zIn a1) : Ca G us 3 255 [(2, 590), (0, a0), (0, a1)] H (fun r H' => (∃ v, r = some (0, v)) ∧ TI g H' ∧ H' 213 1 = H 213 1 ∧ H' 590 4 = H 590 4) :=
  Ca_mono (Nat.le_refl _) (fun r H' q => ⟨q.1, ⟨q.2.1, LOGH_mod h.1 q.2.2.1 h.2.1 rfl rfl rfl rfl rfl rfl rfl rfl, q.2.2.2⟩, q.2.2.1 213 1 (by decide) rfl, q.2.2.1 590 4 (by decide) rfl⟩) (ca_X12_rate (g := g) a0 a1 H h.1 h.2.2)
theorem qm_deliver {G : zG} {us : Nat} {g : Nat → Nat → Int} (a0 : Int) (a1 : Int) (H : PH) (h : TI g H) (za0 : zIn a0) (za1 : zIn a1) : Ca G us 11 256 [(2, 590), (0, a0), (0, a1)] H (fun r H' => (∃ v, r = some (0, v)) ∧ TI g H' ∧ H' 213 1 = H 213 1 ∧ H' 590 4 = H 590 4) :=
  Ca_mono (Nat.le_refl _) (fun r H' q => ⟨q.1, ⟨q.2.1, LOGH_mod h.1 q.2.2.1 h.2.1 rfl rfl rfl rfl rfl rfl rfl rfl, q.2.2.2.1⟩, q.2.2.1 213 1 (by decide) rfl, q.2.2.2.2⟩) (ca_X12_deliver (g := g) a0 a1 H ⟨za0.1, zIn_hi za0⟩ ⟨za1.1, zIn_hi za1⟩ h.1 h.2.2)
theorem qm_strike {G : zG} {us : Nat} {g : Nat → Nat → Int} (a0 : Int) (H : PH) (h : TI g H) (za0 : zIn a0) : Ca G us 3 266 [(2, 590), (0, a0)] H (fun r H' => (∃ v, r = some (0, v)) ∧ TI g H' ∧ H' 213 1 = H 213 1 ∧ H' 590 4 = H 590 4) :=
  Ca_mono (Nat.le_refl _) (fun r H' q => ⟨q.1, ⟨q.2.1, LOGH_mod h.1 q.2.2.1 h.2.1 rfl rfl rfl rfl rfl rfl rfl rfl, q.2.2.2⟩, q.2.2.1 213 1 (by decide) rfl, q.2.2.1 590 4 (by decide) rfl⟩) (ca_X12_strike (g := g) a0 H h.1 h.2.2)
theorem qm_back {G : zG} {us : Nat} {g : Nat → Nat → Int} (H : PH) (h : TI g H) : Ca G us 1 159 [(2, 590)] H (fun r H' => (∃ v, r = some (0, v)) ∧ TI g H' ∧ H' 213 1 = H 213 1 ∧ H' 590 4 = H 590 4) :=
  Ca_mono (Nat.le_refl _) (fun r H' q => ⟨q.1, ⟨q.2.1, LOGH_mod h.1 q.2.2.1 h.2.1 rfl rfl rfl rfl rfl rfl rfl rfl, q.2.2.2⟩, q.2.2.1 213 1 (by decide) rfl, q.2.2.1 590 4 (by decide) rfl⟩) (ca_X12_back (g := g)  H h.1 h.2.2)
