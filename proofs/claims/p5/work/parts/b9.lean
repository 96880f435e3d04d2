def xm_X12_claim : List xbT := [(0, vb_X12_claim_0, some 34), (34, vb_X12_claim_34, some 35), (35, vb_X12_claim_35, none)]
theorem xc_X12_claim : xOK kd_X12_claim xm_X12_claim := ⟨ve_X12_claim_0, ve_X12_claim_34, ve_X12_claim_35, trivial⟩
theorem xa_X12_claim : xm_X12_claim.all (fun q => aOKb q.2.1 && !q.2.1.isEmpty) = true := by decide +kernel
theorem xw_X12_claim_0 {E : xE} {res : xR} {N : Nat} {hd : List Nat} {C : xCT} {k : Nat} {L : List Int} {st : List pv} {H : PH} : xW E res N kd_X12_claim xm_X12_claim hd C (k + 1) 0 L st H = xB (fun t L st H => if t ∈ hd then xJ E res N kd_X12_claim t L st H else xW E res N kd_X12_claim xm_X12_claim hd C k t L st H) (REPR E res) C (some 34) vb_X12_claim_0 0 L st H := Eq.trans rfl rfl
theorem xw_X12_claim_34 {E : xE} {res : xR} {N : Nat} {hd : List Nat} {C : xCT} {k : Nat} {L : List Int} {st : List pv} {H : PH} : xW E res N kd_X12_claim xm_X12_claim hd C (k + 1) 34 L st H = xB (fun t L st H => if t ∈ hd then xJ E res N kd_X12_claim t L st H else xW E res N kd_X12_claim xm_X12_claim hd C k t L st H) (REPR E res) C (some 35) vb_X12_claim_34 34 L st H := Eq.trans rfl rfl
theorem xw_X12_claim_35 {E : xE} {res : xR} {N : Nat} {hd : List Nat} {C : xCT} {k : Nat} {L : List Int} {st : List pv} {H : PH} : xW E res N kd_X12_claim xm_X12_claim hd C (k + 1) 35 L st H = xB (fun t L st H => if t ∈ hd then xJ E res N kd_X12_claim t L st H else xW E res N kd_X12_claim xm_X12_claim hd C k t L st H) (REPR E res) C (none) vb_X12_claim_35 35 L st H := Eq.trans rfl rfl
def xm_X12_limit : List xbT := [(0, vb_X12_limit_0, some 19), (19, vb_X12_limit_19, some 20), (20, vb_X12_limit_20, none)]
theorem xc_X12_limit : xOK kd_X12_limit xm_X12_limit := ⟨ve_X12_limit_0, ve_X12_limit_19, ve_X12_limit_20, trivial⟩
theorem xa_X12_limit : xm_X12_limit.all (fun q => aOKb q.2.1 && !q.2.1.isEmpty) = true := by decide +kernel
theorem xw_X12_limit_0 {E : xE} {res : xR} {N : Nat} {hd : List Nat} {C : xCT} {k : Nat} {L : List Int} {st : List pv} {H : PH} : xW E res N kd_X12_limit xm_X12_limit hd C (k + 1) 0 L st H = xB (fun t L st H => if t ∈ hd then xJ E res N kd_X12_limit t L st H else xW E res N kd_X12_limit xm_X12_limit hd C k t L st H) (REPR E res) C (some 19) vb_X12_limit_0 0 L st H := Eq.trans rfl rfl
theorem xw_X12_limit_19 {E : xE} {res : xR} {N : Nat} {hd : List Nat} {C : xCT} {k : Nat} {L : List Int} {st : List pv} {H : PH} : xW E res N kd_X12_limit xm_X12_limit hd C (k + 1) 19 L st H = xB (fun t L st H => if t ∈ hd then xJ E res N kd_X12_limit t L st H else xW E res N kd_X12_limit xm_X12_limit hd C k t L st H) (REPR E res) C (some 20) vb_X12_limit_19 19 L st H := Eq.trans rfl rfl
theorem xw_X12_limit_20 {E : xE} {res : xR} {N : Nat} {hd : List Nat} {C : xCT} {k : Nat} {L : List Int} {st : List pv} {H : PH} : xW E res N kd_X12_limit xm_X12_limit hd C (k + 1) 20 L st H = xB (fun t L st H => if t ∈ hd then xJ E res N kd_X12_limit t L st H else xW E res N kd_X12_limit xm_X12_limit hd C k t L st H) (REPR E res) C (none) vb_X12_limit_20 20 L st H := Eq.trans rfl rfl
def xm_X12_far : List xbT := [(0, vb_X12_far_0, some 19), (19, vb_X12_far_19, some 20), (20, vb_X12_far_20, none)]
theorem xc_X12_far : xOK kd_X12_far xm_X12_far := ⟨ve_X12_far_0, ve_X12_far_19, ve_X12_far_20, trivial⟩
theorem xa_X12_far : xm_X12_far.all (fun q => aOKb q.2.1 && !q.2.1.isEmpty) = true := by decide +kernel
theorem xw_X12_far_0 {E : xE} {res : xR} {N : Nat} {hd : List Nat} {C : xCT} {k : Nat} {L : List Int} {st : List pv} {H : PH} : xW E res N kd_X12_far xm_X12_far hd C (k + 1) 0 L st H = xB (fun t L st H => if t ∈ hd then xJ E res N kd_X12_far t L st H else xW E res N kd_X12_far xm_X12_far hd C k t L st H) (REPR E res) C (some 19) vb_X12_far_0 0 L st H := Eq.trans rfl rfl
theorem xw_X12_far_19 {E : xE} {res : xR} {N : Nat} {hd : List Nat} {C : xCT} {k : Nat} {L : List Int} {st : List pv} {H : PH} : xW E res N kd_X12_far xm_X12_far hd C (k + 1) 19 L st H = xB (fun t L st H => if t ∈ hd then xJ E res N kd_X12_far t L st H else xW E res N kd_X12_far xm_X12_far hd C k t L st H) (REPR E res) C (some 20) vb_X12_far_19 19 L st H := Eq.trans rfl rfl
theorem xw_X12_far_20 {E : xE} {res : xR} {N : Nat} {hd : List Nat} {C : xCT} {k : Nat} {L : List Int} {st : List pv} {H : PH} : xW E res N kd_X12_far xm_X12_far hd C (k + 1) 20 L st H = xB (fun t L st H => if t ∈ hd then xJ E res N kd_X12_far t L st H else xW E res N kd_X12_far xm_X12_far hd C k t L st H) (REPR E res) C (none) vb_X12_far_20 20 L st H := Eq.trans rfl rfl
def xm_X12_pack : List xbT := [(0, vb_X12_pack_0, some 20), (20, vb_X12_pack_20, some 21), (21, vb_X12_pack_21, none)]
theorem xc_X12_pack : xOK kd_X12_pack xm_X12_pack := ⟨ve_X12_pack_0, ve_X12_pack_20, ve_X12_pack_21, trivial⟩
theorem xa_X12_pack : xm_X12_pack.all (fun q => aOKb q.2.1 && !q.2.1.isEmpty) = true := by decide +kernel
theorem xw_X12_pack_0 {E : xE} {res : xR} {N : Nat} {hd : List Nat} {C : xCT} {k : Nat} {L : List Int} {st : List pv} {H : PH} : xW E res N kd_X12_pack xm_X12_pack hd C (k + 1) 0 L st H = xB (fun t L st H => if t ∈ hd then xJ E res N kd_X12_pack t L st H else xW E res N kd_X12_pack xm_X12_pack hd C k t L st H) (REPR E res) C (some 20) vb_X12_pack_0 0 L st H := Eq.trans rfl rfl
theorem xw_X12_pack_20 {E : xE} {res : xR} {N : Nat} {hd : List Nat} {C : xCT} {k : Nat} {L : List Int} {st : List pv} {H : PH} : xW E res N kd_X12_pack xm_X12_pack hd C (k + 1) 20 L st H = xB (fun t L st H => if t ∈ hd then xJ E res N kd_X12_pack t L st H else xW E res N kd_X12_pack xm_X12_pack hd C k t L st H) (REPR E res) C (some 21) vb_X12_pack_20 20 L st H := Eq.trans rfl rfl
theorem xw_X12_pack_21 {E : xE} {res : xR} {N : Nat} {hd : List Nat} {C : xCT} {k : Nat} {L : List Int} {st : List pv} {H : PH} : xW E res N kd_X12_pack xm_X12_pack hd C (k + 1) 21 L st H = xB (fun t L st H => if t ∈ hd then xJ E res N kd_X12_pack t L st H else xW E res N kd_X12_pack xm_X12_pack hd C k t L st H) (REPR E res) C (none) vb_X12_pack_21 21 L st H := Eq.trans rfl rfl
def xm_X12_days : List xbT := [(0, vb_X12_days_0, some 12), (12, vb_X12_days_12, none)]
theorem xc_X12_days : xOK kd_X12_days xm_X12_days := ⟨ve_X12_days_0, ve_X12_days_12, trivial⟩
theorem xa_X12_days : xm_X12_days.all (fun q => aOKb q.2.1 && !q.2.1.isEmpty) = true := by decide +kernel
theorem xw_X12_days_0 {E : xE} {res : xR} {N : Nat} {hd : List Nat} {C : xCT} {k : Nat} {L : List Int} {st : List pv} {H : PH} : xW E res N kd_X12_days xm_X12_days hd C (k + 1) 0 L st H = xB (fun t L st H => if t ∈ hd then xJ E res N kd_X12_days t L st H else xW E res N kd_X12_days xm_X12_days hd C k t L st H) (REPR E res) C (some 12) vb_X12_days_0 0 L st H := Eq.trans rfl rfl
theorem xw_X12_days_12 {E : xE} {res : xR} {N : Nat} {hd : List Nat} {C : xCT} {k : Nat} {L : List Int} {st : List pv} {H : PH} : xW E res N kd_X12_days xm_X12_days hd C (k + 1) 12 L st H = xB (fun t L st H => if t ∈ hd then xJ E res N kd_X12_days t L st H else xW E res N kd_X12_days xm_X12_days hd C k t L st H) (REPR E res) C (none) vb_X12_days_12 12 L st H := Eq.trans rfl rfl
def xm_X12_rate : List xbT := [(0, vb_X12_rate_0, some 21), (21, vb_X12_rate_21, some 23), (23, vb_X12_rate_23, none)]
theorem xc_X12_rate : xOK kd_X12_rate xm_X12_rate := ⟨ve_X12_rate_0, ve_X12_rate_21, ve_X12_rate_23, trivial⟩
theorem xa_X12_rate : xm_X12_rate.all (fun q => aOKb q.2.1 && !q.2.1.isEmpty) = true := by decide +kernel
theorem xw_X12_rate_0 {E : xE} {res : xR} {N : Nat} {hd : List Nat} {C : xCT} {k : Nat} {L : List Int} {st : List pv} {H : PH} : xW E res N kd_X12_rate xm_X12_rate hd C (k + 1) 0 L st H = xB (fun t L st H => if t ∈ hd then xJ E res N kd_X12_rate t L st H else xW E res N kd_X12_rate xm_X12_rate hd C k t L st H) (REPR E res) C (some 21) vb_X12_rate_0 0 L st H := Eq.trans rfl rfl
theorem xw_X12_rate_21 {E : xE} {res : xR} {N : Nat} {hd : List Nat} {C : xCT} {k : Nat} {L : List Int} {st : List pv} {H : PH} : xW E res N kd_X12_rate xm_X12_rate hd C (k + 1) 21 L st H = xB (fun t L st H => if t ∈ hd then xJ E res N kd_X12_rate t L st H else xW E res N kd_X12_rate xm_X12_rate hd C k t L st H) (REPR E res) C (some 23) vb_X12_rate_21 21 L st H := Eq.trans rfl rfl
theorem xw_X12_rate_23 {E : xE} {res : xR} {N : Nat} {hd : List Nat} {C : xCT} {k : Nat} {L : List Int} {st : List pv} {H : PH} : xW E res N kd_X12_rate xm_X12_rate hd C (k + 1) 23 L st H = xB (fun t L st H => if t ∈ hd then xJ E res N kd_X12_rate t L st H else xW E res N kd_X12_rate xm_X12_rate hd C k t L st H) (REPR E res) C (none) vb_X12_rate_23 23 L st H := Eq.trans rfl rfl
def xm_X12_remark : List xbT := [(0, vb_X12_remark_0, some 45), (45, vb_X12_remark_45, some 47), (47, vb_X12_remark_47, none)]
theorem xc_X12_remark : xOK kd_X12_remark xm_X12_remark := ⟨ve_X12_remark_0, ve_X12_remark_45, ve_X12_remark_47, trivial⟩
theorem xa_X12_remark : xm_X12_remark.all (fun q => aOKb q.2.1 && !q.2.1.isEmpty) = true := by decide +kernel
theorem xw_X12_remark_0 {E : xE} {res : xR} {N : Nat} {hd : List Nat} {C : xCT} {k : Nat} {L : List Int} {st : List pv} {H : PH} : xW E res N kd_X12_remark xm_X12_remark hd C (k + 1) 0 L st H = xB (fun t L st H => if t ∈ hd then xJ E res N kd_X12_remark t L st H else xW E res N kd_X12_remark xm_X12_remark hd C k t L st H) (REPR E res) C (some 45) vb_X12_remark_0 0 L st H := Eq.trans rfl rfl
theorem xw_X12_remark_45 {E : xE} {res : xR} {N : Nat} {hd : List Nat} {C : xCT} {k : Nat} {L : List Int} {st : List pv} {H : PH} : xW E res N kd_X12_remark xm_X12_remark hd C (k + 1) 45 L st H = xB (fun t L st H => if t ∈ hd then xJ E res N kd_X12_remark t L st H else xW E res N kd_X12_remark xm_X12_remark hd C k t L st H) (REPR E res) C (some 47) vb_X12_remark_45 45 L st H := Eq.trans rfl rfl
theorem xw_X12_remark_47 {E : xE} {res : xR} {N : Nat} {hd : List Nat} {C : xCT} {k : Nat} {L : List Int} {st : List pv} {H : PH} : xW E res N kd_X12_remark xm_X12_remark hd C (k + 1) 47 L st H = xB (fun t L st H => if t ∈ hd then xJ E res N kd_X12_remark t L st H else xW E res N kd_X12_remark xm_X12_remark hd C k t L st H) (REPR E res) C (none) vb_X12_remark_47 47 L st H := Eq.trans rfl rfl
def xm_X12_deliver : List xbT := [(0, vb_X12_deliver_0, some 22), (22, vb_X12_deliver_22, some 24), (24, vb_X12_deliver_24, none)]
theorem xc_X12_deliver : xOK kd_X12_deliver xm_X12_deliver := ⟨ve_X12_deliver_0, ve_X12_deliver_22, ve_X12_deliver_24, trivial⟩
theorem xa_X12_deliver : xm_X12_deliver.all (fun q => aOKb q.2.1 && !q.2.1.isEmpty) = true := by decide +kernel
theorem xw_X12_deliver_0 {E : xE} {res : xR} {N : Nat} {hd : List Nat} {C : xCT} {k : Nat} {L : List Int} {st : List pv} {H : PH} : xW E res N kd_X12_deliver xm_X12_deliver hd C (k + 1) 0 L st H = xB (fun t L st H => if t ∈ hd then xJ E res N kd_X12_deliver t L st H else xW E res N kd_X12_deliver xm_X12_deliver hd C k t L st H) (REPR E res) C (some 22) vb_X12_deliver_0 0 L st H := Eq.trans rfl rfl
theorem xw_X12_deliver_22 {E : xE} {res : xR} {N : Nat} {hd : List Nat} {C : xCT} {k : Nat} {L : List Int} {st : List pv} {H : PH} : xW E res N kd_X12_deliver xm_X12_deliver hd C (k + 1) 22 L st H = xB (fun t L st H => if t ∈ hd then xJ E res N kd_X12_deliver t L st H else xW E res N kd_X12_deliver xm_X12_deliver hd C k t L st H) (REPR E res) C (some 24) vb_X12_deliver_22 22 L st H := Eq.trans rfl rfl
theorem xw_X12_deliver_24 {E : xE} {res : xR} {N : Nat} {hd : List Nat} {C : xCT} {k : Nat} {L : List Int} {st : List pv} {H : PH} : xW E res N kd_X12_deliver xm_X12_deliver hd C (k + 1) 24 L st H = xB (fun t L st H => if t ∈ hd then xJ E res N kd_X12_deliver t L st H else xW E res N kd_X12_deliver xm_X12_deliver hd C k t L st H) (REPR E res) C (none) vb_X12_deliver_24 24 L st H := Eq.trans rfl rfl
def xm_X12_strike : List xbT := [(0, vb_X12_strike_0, some 10), (10, vb_X12_strike_10, some 19), (19, vb_X12_strike_19, some 50), (50, vb_X12_strike_50, none)]
theorem xc_X12_strike : xOK kd_X12_strike xm_X12_strike := ⟨ve_X12_strike_0, ve_X12_strike_10, ve_X12_strike_19, ve_X12_strike_50, trivial⟩
theorem xa_X12_strike : xm_X12_strike.all (fun q => aOKb q.2.1 && !q.2.1.isEmpty) = true := by decide +kernel
theorem xw_X12_strike_0 {E : xE} {res : xR} {N : Nat} {hd : List Nat} {C : xCT} {k : Nat} {L : List Int} {st : List pv} {H : PH} : xW E res N kd_X12_strike xm_X12_strike hd C (k + 1) 0 L st H = xB (fun t L st H => if t ∈ hd then xJ E res N kd_X12_strike t L st H else xW E res N kd_X12_strike xm_X12_strike hd C k t L st H) (REPR E res) C (some 10) vb_X12_strike_0 0 L st H := Eq.trans rfl rfl
theorem xw_X12_strike_10 {E : xE} {res : xR} {N : Nat} {hd : List Nat} {C : xCT} {k : Nat} {L : List Int} {st : List pv} {H : PH} : xW E res N kd_X12_strike xm_X12_strike hd C (k + 1) 10 L st H = xB (fun t L st H => if t ∈ hd then xJ E res N kd_X12_strike t L st H else xW E res N kd_X12_strike xm_X12_strike hd C k t L st H) (REPR E res) C (some 19) vb_X12_strike_10 10 L st H := Eq.trans rfl rfl
theorem xw_X12_strike_19 {E : xE} {res : xR} {N : Nat} {hd : List Nat} {C : xCT} {k : Nat} {L : List Int} {st : List pv} {H : PH} : xW E res N kd_X12_strike xm_X12_strike hd C (k + 1) 19 L st H = xB (fun t L st H => if t ∈ hd then xJ E res N kd_X12_strike t L st H else xW E res N kd_X12_strike xm_X12_strike hd C k t L st H) (REPR E res) C (some 50) vb_X12_strike_19 19 L st H := Eq.trans rfl rfl
theorem xw_X12_strike_50 {E : xE} {res : xR} {N : Nat} {hd : List Nat} {C : xCT} {k : Nat} {L : List Int} {st : List pv} {H : PH} : xW E res N kd_X12_strike xm_X12_strike hd C (k + 1) 50 L st H = xB (fun t L st H => if t ∈ hd then xJ E res N kd_X12_strike t L st H else xW E res N kd_X12_strike xm_X12_strike hd C k t L st H) (REPR E res) C (none) vb_X12_strike_50 50 L st H := Eq.trans rfl rfl
/-! ===== the model's deeds ===== -/
/-- behind a deed of the model -/
def MDs (H H' : PH) (R : Int → Int → Int) (n : Int) (B : Int → Int) : Prop := MO H H' ∧ H' 590 4 = H 590 4 ∧ H' 591 = B ∧ H' 590 2 = min 20 (n + 1) ∧ KPr (kpU R n (H 591)) (min 20 (n + 1)) H'
/-- behind a query of the model -/
def MQs (H H' : PH) : Prop := MO H H' ∧ H' 590 4 = H 590 4 ∧ H' 591 = H 591 ∧ H' 590 2 = H 590 2 ∧ H' 592 = H 592
theorem MQs_refl {H : PH} : MQs H H := ⟨MO_refl, rfl, rfl, rfl, rfl⟩
theorem MDs_become {H H' : PH} {R : Int → Int → Int} {n : Int} {B : Int → Int} (h1 : ∀ c, ¬ c = 590 → ¬ c = 591 → ¬ c = 592 → H' c = H c) (h2 : ∀ i, ¬ i = 2 → H' 590 i = H 590 i) (h3 : H' 591 = B) (h4 : H' 590 2 = min 20 (n + 1)) (h5 : KPr (fun j => if j = min 20 (n + 1) - 1 then H 591 else if n = 20 then R (j + 1) else R j) (min 20 (n + 1)) H') : MDs H H' R n B := ⟨⟨fun c hc => h1 c (by omega) (by omega) (by omega), ⟨h2 51 (by decide), h1 621 (by decide) (by decide) (by decide)⟩, h1 593 (by decide) (by decide) (by decide)⟩, h2 4 (by decide), h3, h4, h5⟩
/-- a deed first, then numbers of the row -/
theorem MDs_deed {H H1 H' : PH} {R : Int → Int → Int} {n : Int} {B : Int → Int} (d1 : DF H H1) (d2 : H1 590 2 = min 20 (n + 1)) (d3 : KPr (fun j => if j = min 20 (n + 1) - 1 then H 591 else if n = 20 then R (j + 1) else R j) (min 20 (n + 1)) H1) (h1 : ∀ c, ¬ c = 591 → H' c = H1 c) (h3 : H' 591 = B) : MDs H H' R n B := ⟨⟨fun c hc => (h1 c (by omega)).trans (d1.1 c (by omega) (by omega)), ⟨by rw [h1 590 (by decide)]; exact d1.2 51 (by decide), (h1 621 (by decide)).trans (d1.1 621 (by decide) (by decide))⟩, (h1 593 (by decide)).trans (d1.1 593 (by decide) (by decide))⟩, by rw [h1 590 (by decide)]; exact d1.2 4 (by decide), h3, by rw [h1 590 (by decide)]; exact d2, KPr_cell d3 (h1 592 (by decide))⟩
set_option maxRecDepth 100000 in
theorem sp_m_limit (v : Int) (R : Int → Int → Int) (n : Int) (H : PH) (hn : 0 ≤ n ∧ n ≤ 20) (h2 : H 590 2 = n) (hK : KPr R n H) : SPEC 230 [(2, 590), (0, v)] H (fun r H' => ((0 ≤ v ∧ v ≤ 20) ∧ r = some (0, H 591 3) ∧ MDs H H' R n (xup (H 591) 3 v)) ∨ (¬ (0 ≤ v ∧ v ≤ 20) ∧ r = some (0, -1) ∧ H' = H)) := by
  intro E n' res h
  by_cases q : 0 ≤ v ∧ v ≤ 20
  · have q0 := q.1
    have q1 := q.2
    have q2 : ¬ v < 0 := by omega
    have q3 : ¬ 20 < v := by omega
    have h := call_runP 2 vm_X12_limit h
    have h := xw_top (hd := []) 5 xD6_ok xc_X12_limit xa_X12_limit (t := 0) rfl h
    simp (maxDischargeDepth := 12) -implicitDefEqProofs [vb_X12_limit_0, vb_X12_limit_19, vb_X12_limit_20, xI_0, xI_1, xI_7, xI_8, xI_36, xI_37, xI_60, xI_61, xI_62, xw_X12_limit_0, xw_X12_limit_19, xw_X12_limit_20, zw_lit, xB_c, xB_s, xB_n, i1_c, j2_c, k1_c, jJ_e, xlg, xls, xla, xpd, ppush, zw_m1, zw_m2, zw_m3, xD1, xD2, xD3, xD4, xD5, xD6, xb1_0, q0, q1, q2, q3] at h
    obtain ⟨r, H1, ⟨rfl, k1, k2, k3, k4, k5⟩, g⟩ := xc_use h (sp_X12_become 3 v R n H (by decide) hn h2 hK)
    exact ⟨_, _, g, Or.inl ⟨q, rfl, MDs_become k1 k2 k3 k4 k5⟩⟩
  · by_cases q0 : 0 ≤ v
    · have q1 : ¬ v ≤ 20 := by omega
      have q2 : ¬ v < 0 := by omega
      have q3 : 20 < v := by omega
      have h := call_runP 2 vm_X12_limit h
      have h := xw_top (hd := []) 5 xD6_ok xc_X12_limit xa_X12_limit (t := 0) rfl h
      simp (maxDischargeDepth := 12) -implicitDefEqProofs [vb_X12_limit_0, vb_X12_limit_19, vb_X12_limit_20, xI_0, xI_1, xI_7, xI_8, xI_36, xI_37, xI_60, xI_61, xI_62, xw_X12_limit_0, xw_X12_limit_19, xw_X12_limit_20, zw_lit, xB_c, xB_s, xB_n, i1_c, j2_c, k1_c, jJ_e, xlg, xls, xla, xpd, ppush, zw_m1, zw_m2, zw_m3, xD1, xD2, xD3, xD4, xD5, xD6, xb1_0, q0, q1, q2, q3] at h
      exact ⟨_, _, h, Or.inr ⟨q, rfl, rfl⟩⟩
    · have q2 : v < 0 := by omega
      have h := call_runP 2 vm_X12_limit h
      have h := xw_top (hd := []) 5 xD6_ok xc_X12_limit xa_X12_limit (t := 0) rfl h
      simp (maxDischargeDepth := 12) -implicitDefEqProofs [vb_X12_limit_0, vb_X12_limit_19, vb_X12_limit_20, xI_0, xI_1, xI_7, xI_8, xI_36, xI_37, xI_60, xI_61, xI_62, xw_X12_limit_0, xw_X12_limit_19, xw_X12_limit_20, zw_lit, xB_c, xB_s, xB_n, i1_c, j2_c, k1_c, jJ_e, xlg, xls, xla, xpd, ppush, zw_m1, zw_m2, zw_m3, xD1, xD2, xD3, xD4, xD5, xD6, xb1_0, q0, q2] at h
      exact ⟨_, _, h, Or.inr ⟨q, rfl, rfl⟩⟩
set_option maxRecDepth 100000 in
theorem sp_m_far (v : Int) (R : Int → Int → Int) (n : Int) (H : PH) (hn : 0 ≤ n ∧ n ≤ 20) (h2 : H 590 2 = n) (hK : KPr R n H) : SPEC 231 [(2, 590), (0, v)] H (fun r H' => ((0 ≤ v ∧ v ≤ 24) ∧ r = some (0, H 591 4) ∧ MDs H H' R n (xup (H 591) 4 v)) ∨ (¬ (0 ≤ v ∧ v ≤ 24) ∧ r = some (0, -1) ∧ H' = H)) := by
  intro E n' res h
  by_cases q : 0 ≤ v ∧ v ≤ 24
  · have q0 := q.1
    have q1 := q.2
    have q2 : ¬ v < 0 := by omega
    have q3 : ¬ 24 < v := by omega
    have h := call_runP 2 vm_X12_far h
    have h := xw_top (hd := []) 5 xD6_ok xc_X12_far xa_X12_far (t := 0) rfl h
    simp (maxDischargeDepth := 12) -implicitDefEqProofs [vb_X12_far_0, vb_X12_far_19, vb_X12_far_20, xI_0, xI_1, xI_7, xI_8, xI_36, xI_37, xI_60, xI_61, xI_62, xw_X12_far_0, xw_X12_far_19, xw_X12_far_20, zw_lit, xB_c, xB_s, xB_n, i1_c, j2_c, k1_c, jJ_e, xlg, xls, xla, xpd, ppush, zw_m1, zw_m2, zw_m3, xD1, xD2, xD3, xD4, xD5, xD6, xb1_0, q0, q1, q2, q3] at h
    obtain ⟨r, H1, ⟨rfl, k1, k2, k3, k4, k5⟩, g⟩ := xc_use h (sp_X12_become 4 v R n H (by decide) hn h2 hK)
    exact ⟨_, _, g, Or.inl ⟨q, rfl, MDs_become k1 k2 k3 k4 k5⟩⟩
  · by_cases q0 : 0 ≤ v
    · have q1 : ¬ v ≤ 24 := by omega
      have q2 : ¬ v < 0 := by omega
      have q3 : 24 < v := by omega
      have h := call_runP 2 vm_X12_far h
      have h := xw_top (hd := []) 5 xD6_ok xc_X12_far xa_X12_far (t := 0) rfl h
      simp (maxDischargeDepth := 12) -implicitDefEqProofs [vb_X12_far_0, vb_X12_far_19, vb_X12_far_20, xI_0, xI_1, xI_7, xI_8, xI_36, xI_37, xI_60, xI_61, xI_62, xw_X12_far_0, xw_X12_far_19, xw_X12_far_20, zw_lit, xB_c, xB_s, xB_n, i1_c, j2_c, k1_c, jJ_e, xlg, xls, xla, xpd, ppush, zw_m1, zw_m2, zw_m3, xD1, xD2, xD3, xD4, xD5, xD6, xb1_0, q0, q1, q2, q3] at h
      exact ⟨_, _, h, Or.inr ⟨q, rfl, rfl⟩⟩
    · have q2 : v < 0 := by omega
      have h := call_runP 2 vm_X12_far h
      have h := xw_top (hd := []) 5 xD6_ok xc_X12_far xa_X12_far (t := 0) rfl h
      simp (maxDischargeDepth := 12) -implicitDefEqProofs [vb_X12_far_0, vb_X12_far_19, vb_X12_far_20, xI_0, xI_1, xI_7, xI_8, xI_36, xI_37, xI_60, xI_61, xI_62, xw_X12_far_0, xw_X12_far_19, xw_X12_far_20, zw_lit, xB_c, xB_s, xB_n, i1_c, j2_c, k1_c, jJ_e, xlg, xls, xla, xpd, ppush, zw_m1, zw_m2, zw_m3, xD1, xD2, xD3, xD4, xD5, xD6, xb1_0, q0, q2] at h
      exact ⟨_, _, h, Or.inr ⟨q, rfl, rfl⟩⟩
set_option maxRecDepth 100000 in
theorem sp_m_pack (v : Int) (R : Int → Int → Int) (n : Int) (H : PH) (hn : 0 ≤ n ∧ n ≤ 20) (h2 : H 590 2 = n) (hK : KPr R n H) : SPEC 232 [(2, 590), (0, v)] H (fun r H' => ((1 ≤ v ∧ v ≤ 9999) ∧ r = some (0, H 591 5) ∧ MDs H H' R n (xup (H 591) 5 v)) ∨ (¬ (1 ≤ v ∧ v ≤ 9999) ∧ r = some (0, -1) ∧ H' = H)) := by
  intro E n' res h
  by_cases q : 1 ≤ v ∧ v ≤ 9999
  · have q0 := q.1
    have q1 := q.2
    have q2 : ¬ v < 1 := by omega
    have q3 : ¬ 9999 < v := by omega
    have h := call_runP 2 vm_X12_pack h
    have h := xw_top (hd := []) 5 xD6_ok xc_X12_pack xa_X12_pack (t := 0) rfl h
    simp (maxDischargeDepth := 12) -implicitDefEqProofs [vb_X12_pack_0, vb_X12_pack_20, vb_X12_pack_21, xI_0, xI_1, xI_7, xI_9, xI_36, xI_37, xI_60, xI_61, xI_62, xw_X12_pack_0, xw_X12_pack_20, xw_X12_pack_21, zw_lit, xB_c, xB_s, xB_n, i1_c, j2_c, k1_c, jJ_e, xlg, xls, xla, xpd, ppush, zw_m1, zw_m2, zw_m3, xD1, xD2, xD3, xD4, xD5, xD6, xb1_0, q0, q1, q2, q3] at h
    obtain ⟨r, H1, ⟨rfl, k1, k2, k3, k4, k5⟩, g⟩ := xc_use h (sp_X12_become 5 v R n H (by decide) hn h2 hK)
    exact ⟨_, _, g, Or.inl ⟨q, rfl, MDs_become k1 k2 k3 k4 k5⟩⟩
  · by_cases q0 : 1 ≤ v
    · have q1 : ¬ v ≤ 9999 := by omega
      have q2 : ¬ v < 1 := by omega
      have q3 : 9999 < v := by omega
      have h := call_runP 2 vm_X12_pack h
      have h := xw_top (hd := []) 5 xD6_ok xc_X12_pack xa_X12_pack (t := 0) rfl h
      simp (maxDischargeDepth := 12) -implicitDefEqProofs [vb_X12_pack_0, vb_X12_pack_20, vb_X12_pack_21, xI_0, xI_1, xI_7, xI_9, xI_36, xI_37, xI_60, xI_61, xI_62, xw_X12_pack_0, xw_X12_pack_20, xw_X12_pack_21, zw_lit, xB_c, xB_s, xB_n, i1_c, j2_c, k1_c, jJ_e, xlg, xls, xla, xpd, ppush, zw_m1, zw_m2, zw_m3, xD1, xD2, xD3, xD4, xD5, xD6, xb1_0, q0, q1, q2, q3] at h
      exact ⟨_, _, h, Or.inr ⟨q, rfl, rfl⟩⟩
    · have q2 : v < 1 := by omega
      have h := call_runP 2 vm_X12_pack h
      have h := xw_top (hd := []) 5 xD6_ok xc_X12_pack xa_X12_pack (t := 0) rfl h
      simp (maxDischargeDepth := 12) -implicitDefEqProofs [vb_X12_pack_0, vb_X12_pack_20, vb_X12_pack_21, xI_0, xI_1, xI_7, xI_9, xI_36, xI_37, xI_60, xI_61, xI_62, xw_X12_pack_0, xw_X12_pack_20, xw_X12_pack_21, zw_lit, xB_c, xB_s, xB_n, i1_c, j2_c, k1_c, jJ_e, xlg, xls, xla, xpd, ppush, zw_m1, zw_m2, zw_m3, xD1, xD2, xD3, xD4, xD5, xD6, xb1_0, q0, q2] at h
      exact ⟨_, _, h, Or.inr ⟨q, rfl, rfl⟩⟩
set_option maxRecDepth 100000 in
theorem sp_m_days (v : Int) (R : Int → Int → Int) (n : Int) (H : PH) (ok : OKR (H 591)) (hn : 0 ≤ n ∧ n ≤ 20) (h2 : H 590 2 = n) (hK : KPr R n H) : SPEC 253 [(2, 590), (0, v)] H (fun r H' => ((1 ≤ v ∧ v ≤ 99) ∧ r = some (0, min 99 (H 591 8 + v)) ∧ MDs H H' R n (xup (H 591) 8 (min 99 (H 591 8 + v)))) ∨ (¬ (1 ≤ v ∧ v ≤ 99) ∧ r = some (0, -1) ∧ H' = H)) := by
  intro E n' res h
  have os := ok.2.2.1
  unfold OKS at os
  by_cases q : 1 ≤ v ∧ v ≤ 99
  · have q0 := q.1
    have q1 := q.2
    have q2 : ¬ v < 1 := by omega
    have q3 : ¬ 99 < v := by omega
    have zv : zw (H 591 8 + v) = H 591 8 + v := zw_lit (by omega) (by omega)
    have h := call_runP 3 vm_X12_days h
    have h := xw_top (hd := []) 4 xD6_ok xc_X12_days xa_X12_days (t := 0) rfl h
    simp (maxDischargeDepth := 12) -implicitDefEqProofs [vb_X12_days_0, vb_X12_days_12, xI_0, xI_1, xI_3, xI_7, xI_8, xI_14, xI_38, xI_49, xI_51, xI_60, xI_61, xI_62, xw_X12_days_0, xw_X12_days_12, zw_lit, xB_c, xB_s, xB_n, i1_c, j2_c, k1_c, jJ_e, xlg, xls, xla, xpd, ppush, zw_m1, zw_m2, zw_m3, gf_12_0, tg_12_0, gv_590_0, xD1, xD2, xD3, xD4, xD5, xD6, xb1_0, q0, q1, q2, q3, zv] at h
    obtain ⟨r, H1, ⟨rfl, k1, k2, k3, k4, k5⟩, g⟩ := xc_use h (sp_X12_become 8 (min 99 (H 591 8 + v)) R n H (by decide) hn h2 hK)
    simp (maxDischargeDepth := 12) -implicitDefEqProofs [vb_X12_days_0, vb_X12_days_12, xI_0, xI_1, xI_3, xI_7, xI_8, xI_14, xI_38, xI_49, xI_51, xI_60, xI_61, xI_62, xw_X12_days_0, xw_X12_days_12, zw_lit, xB_c, xB_s, xB_n, i1_c, j2_c, k1_c, jJ_e, xlg, xls, xla, xpd, ppush, zw_m1, zw_m2, zw_m3, gf_12_0, tg_12_0, gv_590_0, xD1, xD2, xD3, xD4, xD5, xD6, xb1_0] at g
    have e : H1 591 8 = min 99 (H 591 8 + v) := by rw [k3, xup_a]
    rw [e] at g
    exact ⟨_, _, g, Or.inl ⟨q, rfl, MDs_become k1 k2 k3 k4 k5⟩⟩
  · by_cases q0 : 1 ≤ v
    · have q1 : ¬ v ≤ 99 := by omega
      have q2 : ¬ v < 1 := by omega
      have q3 : 99 < v := by omega
      have h := call_runP 3 vm_X12_days h
      have h := xw_top (hd := []) 4 xD6_ok xc_X12_days xa_X12_days (t := 0) rfl h
      simp (maxDischargeDepth := 12) -implicitDefEqProofs [vb_X12_days_0, vb_X12_days_12, xI_0, xI_1, xI_3, xI_7, xI_8, xI_14, xI_38, xI_49, xI_51, xI_60, xI_61, xI_62, xw_X12_days_0, xw_X12_days_12, zw_lit, xB_c, xB_s, xB_n, i1_c, j2_c, k1_c, jJ_e, xlg, xls, xla, xpd, ppush, zw_m1, zw_m2, zw_m3, gf_12_0, tg_12_0, gv_590_0, xD1, xD2, xD3, xD4, xD5, xD6, xb1_0, q0, q1, q2, q3] at h
      exact ⟨_, _, h, Or.inr ⟨q, rfl, rfl⟩⟩
    · have q2 : v < 1 := by omega
      have h := call_runP 3 vm_X12_days h
      have h := xw_top (hd := []) 4 xD6_ok xc_X12_days xa_X12_days (t := 0) rfl h
      simp (maxDischargeDepth := 12) -implicitDefEqProofs [vb_X12_days_0, vb_X12_days_12, xI_0, xI_1, xI_3, xI_7, xI_8, xI_14, xI_38, xI_49, xI_51, xI_60, xI_61, xI_62, xw_X12_days_0, xw_X12_days_12, zw_lit, xB_c, xB_s, xB_n, i1_c, j2_c, k1_c, jJ_e, xlg, xls, xla, xpd, ppush, zw_m1, zw_m2, zw_m3, gf_12_0, tg_12_0, gv_590_0, xD1, xD2, xD3, xD4, xD5, xD6, xb1_0, q0, q2] at h
      exact ⟨_, _, h, Or.inr ⟨q, rfl, rfl⟩⟩
set_option maxRecDepth 100000 in
theorem sp_m_rate (v u : Int) (R : Int → Int → Int) (n : Int) (H : PH) (hn : 0 ≤ n ∧ n ≤ 20) (h2 : H 590 2 = n) (hK : KPr R n H) : SPEC 255 [(2, 590), (0, v), (0, u)] H (fun r H' => (((0 ≤ v ∧ v ≤ 99) ∧ (0 ≤ u ∧ u ≤ 999)) ∧ r = some (0, chgA (xup (xup (H 591) 6 v) 7 u)) ∧ MDs H H' R n (xup (xup (H 591) 6 v) 7 u)) ∨ (¬ ((0 ≤ v ∧ v ≤ 99) ∧ (0 ≤ u ∧ u ≤ 999)) ∧ r = some (0, -1) ∧ H' = H)) := by
  intro E n' res h
  by_cases q4 : 0 ≤ v ∧ v ≤ 99
  · have q0 := q4.1
    have q1 := q4.2
    have q2 : ¬ v < 0 := by omega
    have q3 : ¬ 99 < v := by omega
    by_cases q5 : 0 ≤ u ∧ u ≤ 999
    · have p0 := q5.1
      have p1 := q5.2
      have p2 : ¬ u < 0 := by omega
      have p3 : ¬ 999 < u := by omega
      have h := call_runP 3 vm_X12_rate h
      have h := xw_top (hd := []) 5 xD6_ok xc_X12_rate xa_X12_rate (t := 0) rfl h
      simp (maxDischargeDepth := 12) -implicitDefEqProofs [vb_X12_rate_0, vb_X12_rate_21, vb_X12_rate_23, xI_0, xI_1, xI_7, xI_8, xI_9, xI_37, xI_38, xI_49, xI_52, xI_60, xI_61, xI_62, xw_X12_rate_0, xw_X12_rate_21, xw_X12_rate_23, zw_lit, xB_c, xB_s, xB_n, i1_c, j2_c, k1_c, jJ_e, xlg, xls, xla, xpd, ppush, zw_m1, zw_m2, zw_m3, gf_12_0, tg_12_0, gv_590_0, xD1, xD2, xD3, xD4, xD5, xD6, xb1_0, q0, q1, q2, q3, p0, p1, p2, p3] at h
      obtain ⟨r, H1, ⟨rfl, d1, d2, d3⟩, g⟩ := xc_use h (sp_X12_deed R n H hn h2 hK)
      have e591 : H1 591 = H 591 := d1.1 591 (by decide) (by decide)
      simp (maxDischargeDepth := 12) -implicitDefEqProofs [vb_X12_rate_0, vb_X12_rate_21, vb_X12_rate_23, xI_0, xI_1, xI_7, xI_8, xI_9, xI_37, xI_38, xI_49, xI_52, xI_60, xI_61, xI_62, xw_X12_rate_0, xw_X12_rate_21, xw_X12_rate_23, zw_lit, xB_c, xB_s, xB_n, i1_c, j2_c, k1_c, jJ_e, xlg, xls, xla, xpd, ppush, zw_m1, zw_m2, zw_m3, gf_12_0, tg_12_0, gv_590_0, xD1, xD2, xD3, xD4, xD5, xD6, xb1_0, xp_at, xp_ne] at g
      refine ⟨_, _, g, Or.inl ⟨⟨q4, q5⟩, ?_, MDs_deed d1 d2 d3 (fun c hc => by rw [xp_ne hc, xp_ne hc]) (by rw [pupC, pupC, e591])⟩⟩
      unfold chgA xup
      simp [e591]
    · by_cases p0 : 0 ≤ u
      · have p1 : ¬ u ≤ 999 := by omega
        have p2 : ¬ u < 0 := by omega
        have p3 : 999 < u := by omega
        have h := call_runP 3 vm_X12_rate h
        have h := xw_top (hd := []) 5 xD6_ok xc_X12_rate xa_X12_rate (t := 0) rfl h
        simp (maxDischargeDepth := 12) -implicitDefEqProofs [vb_X12_rate_0, vb_X12_rate_21, vb_X12_rate_23, xI_0, xI_1, xI_7, xI_8, xI_9, xI_37, xI_38, xI_49, xI_52, xI_60, xI_61, xI_62, xw_X12_rate_0, xw_X12_rate_21, xw_X12_rate_23, zw_lit, xB_c, xB_s, xB_n, i1_c, j2_c, k1_c, jJ_e, xlg, xls, xla, xpd, ppush, zw_m1, zw_m2, zw_m3, gf_12_0, tg_12_0, gv_590_0, xD1, xD2, xD3, xD4, xD5, xD6, xb1_0, q0, q1, q2, q3, p0, p1, p2, p3] at h
        exact ⟨_, _, h, Or.inr ⟨fun w => q5 w.2, rfl, rfl⟩⟩
      · have p2 : u < 0 := by omega
        have h := call_runP 3 vm_X12_rate h
        have h := xw_top (hd := []) 5 xD6_ok xc_X12_rate xa_X12_rate (t := 0) rfl h
        simp (maxDischargeDepth := 12) -implicitDefEqProofs [vb_X12_rate_0, vb_X12_rate_21, vb_X12_rate_23, xI_0, xI_1, xI_7, xI_8, xI_9, xI_37, xI_38, xI_49, xI_52, xI_60, xI_61, xI_62, xw_X12_rate_0, xw_X12_rate_21, xw_X12_rate_23, zw_lit, xB_c, xB_s, xB_n, i1_c, j2_c, k1_c, jJ_e, xlg, xls, xla, xpd, ppush, zw_m1, zw_m2, zw_m3, gf_12_0, tg_12_0, gv_590_0, xD1, xD2, xD3, xD4, xD5, xD6, xb1_0, q0, q1, q2, q3, p0, p2] at h
        exact ⟨_, _, h, Or.inr ⟨fun w => q5 w.2, rfl, rfl⟩⟩
  · by_cases q0 : 0 ≤ v
    · have q1 : ¬ v ≤ 99 := by omega
      have q2 : ¬ v < 0 := by omega
      have q3 : 99 < v := by omega
      have h := call_runP 3 vm_X12_rate h
      have h := xw_top (hd := []) 5 xD6_ok xc_X12_rate xa_X12_rate (t := 0) rfl h
      simp (maxDischargeDepth := 12) -implicitDefEqProofs [vb_X12_rate_0, vb_X12_rate_21, vb_X12_rate_23, xI_0, xI_1, xI_7, xI_8, xI_9, xI_37, xI_38, xI_49, xI_52, xI_60, xI_61, xI_62, xw_X12_rate_0, xw_X12_rate_21, xw_X12_rate_23, zw_lit, xB_c, xB_s, xB_n, i1_c, j2_c, k1_c, jJ_e, xlg, xls, xla, xpd, ppush, zw_m1, zw_m2, zw_m3, gf_12_0, tg_12_0, gv_590_0, xD1, xD2, xD3, xD4, xD5, xD6, xb1_0, q0, q1, q2, q3] at h
      exact ⟨_, _, h, Or.inr ⟨fun w => q4 w.1, rfl, rfl⟩⟩
    · have q2 : v < 0 := by omega
      have h := call_runP 3 vm_X12_rate h
      have h := xw_top (hd := []) 5 xD6_ok xc_X12_rate xa_X12_rate (t := 0) rfl h
      simp (maxDischargeDepth := 12) -implicitDefEqProofs [vb_X12_rate_0, vb_X12_rate_21, vb_X12_rate_23, xI_0, xI_1, xI_7, xI_8, xI_9, xI_37, xI_38, xI_49, xI_52, xI_60, xI_61, xI_62, xw_X12_rate_0, xw_X12_rate_21, xw_X12_rate_23, zw_lit, xB_c, xB_s, xB_n, i1_c, j2_c, k1_c, jJ_e, xlg, xls, xla, xpd, ppush, zw_m1, zw_m2, zw_m3, gf_12_0, tg_12_0, gv_590_0, xD1, xD2, xD3, xD4, xD5, xD6, xb1_0, q0, q2] at h
      exact ⟨_, _, h, Or.inr ⟨fun w => q4 w.1, rfl, rfl⟩⟩
set_option maxRecDepth 100000 in
theorem sp_m_claim (b v : Int) (R : Int → Int → Int) (n : Int) (H : PH) (ok : OKR (H 591)) (hn : 0 ≤ n ∧ n ≤ 20) (h2 : H 590 2 = n) (hK : KPr R n H) : SPEC 229 [(2, 590), (0, b), (0, v)] H (fun r H' => (((0 ≤ b ∧ b < H 591 0) ∧ (0 ≤ v ∧ v ≤ 999)) ∧ r = some (0, H 591 (92 + 26 * b + 11)) ∧ MDs H H' R n (xup (H 591) (92 + 26 * b + 11) v)) ∨ (¬ ((0 ≤ b ∧ b < H 591 0) ∧ (0 ≤ v ∧ v ≤ 999)) ∧ r = some (0, -1) ∧ H' = H)) := by
  intro E n' res h
  have a0 := ok.1.1
  have z2 : zw (H 591 0 - 1) = H 591 0 - 1 := zw_lit (by omega) (by omega)
  by_cases q4 : 0 ≤ b ∧ b < H 591 0
  · have k0 := q4.1
    have k1 : b ≤ H 591 0 - 1 := by omega
    have k2 : ¬ b < 0 := by omega
    have k3 : ¬ H 591 0 - 1 < b := by omega
    have z3 : zw (26 * b) = 26 * b := zw_lit (by omega) (by omega)
    have z4 : zw (92 + 26 * b) = 92 + 26 * b := zw_lit (by omega) (by omega)
    have z5 : zw (92 + 26 * b + 11) = 92 + 26 * b + 11 := zw_lit (by omega) (by omega)
    by_cases q5 : 0 ≤ v ∧ v ≤ 999
    · have q0 := q5.1
      have q1 := q5.2
      have q2 : ¬ v < 0 := by omega
      have q3 : ¬ 999 < v := by omega
      have h := call_runP 3 vm_X12_claim h
      have h := xw_top (hd := []) 5 xD6_ok xc_X12_claim xa_X12_claim (t := 0) rfl h
      simp (maxDischargeDepth := 12) -implicitDefEqProofs [vb_X12_claim_0, vb_X12_claim_34, vb_X12_claim_35, xI_0, xI_1, xI_7, xI_8, xI_9, xI_14, xI_36, xI_37, xI_60, xI_61, xI_62, xw_X12_claim_0, xw_X12_claim_34, xw_X12_claim_35, zw_lit, xB_c, xB_s, xB_n, i1_c, j2_c, k1_c, jJ_e, xlg, xls, xla, xpd, ppush, zw_m1, zw_m2, zw_m3, xD1, xD2, xD3, xD4, xD5, xD6, xb1_0, z2, k0, k1, k2, k3, q0, q1, q2, q3, z3, z4, z5] at h
      obtain ⟨r, H1, ⟨rfl, j1, j2, j3, j4, j5⟩, g⟩ := xc_use h (sp_X12_become (92 + 26 * b + 11) v R n H (by omega) hn h2 hK)
      exact ⟨_, _, g, Or.inl ⟨⟨q4, q5⟩, rfl, MDs_become j1 j2 j3 j4 j5⟩⟩
    · by_cases q0 : 0 ≤ v
      · have q1 : ¬ v ≤ 999 := by omega
        have q2 : ¬ v < 0 := by omega
        have q3 : 999 < v := by omega
        have h := call_runP 3 vm_X12_claim h
        have h := xw_top (hd := []) 5 xD6_ok xc_X12_claim xa_X12_claim (t := 0) rfl h
        simp (maxDischargeDepth := 12) -implicitDefEqProofs [vb_X12_claim_0, vb_X12_claim_34, vb_X12_claim_35, xI_0, xI_1, xI_7, xI_8, xI_9, xI_14, xI_36, xI_37, xI_60, xI_61, xI_62, xw_X12_claim_0, xw_X12_claim_34, xw_X12_claim_35, zw_lit, xB_c, xB_s, xB_n, i1_c, j2_c, k1_c, jJ_e, xlg, xls, xla, xpd, ppush, zw_m1, zw_m2, zw_m3, xD1, xD2, xD3, xD4, xD5, xD6, xb1_0, z2, k0, k1, k2, k3, q0, q1, q2, q3] at h
        exact ⟨_, _, h, Or.inr ⟨fun w => q5 w.2, rfl, rfl⟩⟩
      · have q2 : v < 0 := by omega
        have h := call_runP 3 vm_X12_claim h
        have h := xw_top (hd := []) 5 xD6_ok xc_X12_claim xa_X12_claim (t := 0) rfl h
        simp (maxDischargeDepth := 12) -implicitDefEqProofs [vb_X12_claim_0, vb_X12_claim_34, vb_X12_claim_35, xI_0, xI_1, xI_7, xI_8, xI_9, xI_14, xI_36, xI_37, xI_60, xI_61, xI_62, xw_X12_claim_0, xw_X12_claim_34, xw_X12_claim_35, zw_lit, xB_c, xB_s, xB_n, i1_c, j2_c, k1_c, jJ_e, xlg, xls, xla, xpd, ppush, zw_m1, zw_m2, zw_m3, xD1, xD2, xD3, xD4, xD5, xD6, xb1_0, z2, k0, k1, k2, k3, q0, q2] at h
        exact ⟨_, _, h, Or.inr ⟨fun w => q5 w.2, rfl, rfl⟩⟩
  · by_cases k0 : 0 ≤ b
    · have k1 : ¬ b ≤ H 591 0 - 1 := by omega
      have k2 : ¬ b < 0 := by omega
      have k3 : H 591 0 - 1 < b := by omega
      have h := call_runP 3 vm_X12_claim h
      have h := xw_top (hd := []) 5 xD6_ok xc_X12_claim xa_X12_claim (t := 0) rfl h
      simp (maxDischargeDepth := 12) -implicitDefEqProofs [vb_X12_claim_0, vb_X12_claim_34, vb_X12_claim_35, xI_0, xI_1, xI_7, xI_8, xI_9, xI_14, xI_36, xI_37, xI_60, xI_61, xI_62, xw_X12_claim_0, xw_X12_claim_34, xw_X12_claim_35, zw_lit, xB_c, xB_s, xB_n, i1_c, j2_c, k1_c, jJ_e, xlg, xls, xla, xpd, ppush, zw_m1, zw_m2, zw_m3, xD1, xD2, xD3, xD4, xD5, xD6, xb1_0, z2, k0, k1, k2, k3] at h
      exact ⟨_, _, h, Or.inr ⟨fun w => q4 w.1, rfl, rfl⟩⟩
    · have k2 : b < 0 := by omega
      have h := call_runP 3 vm_X12_claim h
      have h := xw_top (hd := []) 5 xD6_ok xc_X12_claim xa_X12_claim (t := 0) rfl h
      simp (maxDischargeDepth := 12) -implicitDefEqProofs [vb_X12_claim_0, vb_X12_claim_34, vb_X12_claim_35, xI_0, xI_1, xI_7, xI_8, xI_9, xI_14, xI_36, xI_37, xI_60, xI_61, xI_62, xw_X12_claim_0, xw_X12_claim_34, xw_X12_claim_35, zw_lit, xB_c, xB_s, xB_n, i1_c, j2_c, k1_c, jJ_e, xlg, xls, xla, xpd, ppush, zw_m1, zw_m2, zw_m3, xD1, xD2, xD3, xD4, xD5, xD6, xb1_0, z2, k0, k2] at h
      exact ⟨_, _, h, Or.inr ⟨fun w => q4 w.1, rfl, rfl⟩⟩
set_option maxRecDepth 100000 in
theorem sp_m_remark (b u v : Int) (R : Int → Int → Int) (n : Int) (H : PH) (ok : OKR (H 591)) (hn : 0 ≤ n ∧ n ≤ 20) (h2 : H 590 2 = n) (hK : KPr R n H) : SPEC 226 [(2, 590), (0, b), (0, u), (0, v)] H (fun r H' => (((0 ≤ b ∧ b < H 591 0) ∧ (0 ≤ u ∧ u ≤ 3) ∧ (0 ≤ v ∧ v ≤ 999) ∧ H 591 (92 + 26 * b + 13) < 6) ∧ r = some (0, H 591 (92 + 26 * b + 13) + 1) ∧ MDs H H' R n (xup (xup (xup (H 591) (92 + 26 * b + 14 + 2 * H 591 (92 + 26 * b + 13)) u) (92 + 26 * b + 14 + 2 * H 591 (92 + 26 * b + 13) + 1) v) (92 + 26 * b + 13) (H 591 (92 + 26 * b + 13) + 1))) ∨ (¬ ((0 ≤ b ∧ b < H 591 0) ∧ (0 ≤ u ∧ u ≤ 3) ∧ (0 ≤ v ∧ v ≤ 999) ∧ H 591 (92 + 26 * b + 13) < 6) ∧ r = some (0, -1) ∧ H' = H)) := by
  intro E n' res h
  have a0 := ok.1.1
  have z2 : zw (H 591 0 - 1) = H 591 0 - 1 := zw_lit (by omega) (by omega)
  by_cases q4 : 0 ≤ b ∧ b < H 591 0
  · have k0 := q4.1
    have k1 : b ≤ H 591 0 - 1 := by omega
    have k2 : ¬ b < 0 := by omega
    have k3 : ¬ H 591 0 - 1 < b := by omega
    have z3 : zw (26 * b) = 26 * b := zw_lit (by omega) (by omega)
    have z4 : zw (92 + 26 * b) = 92 + 26 * b := zw_lit (by omega) (by omega)
    have z5 : zw (92 + 26 * b + 13) = 92 + 26 * b + 13 := zw_lit (by omega) (by omega)
    have r6 := ok.1.2.2.2.2.1 b k0 (by omega)
    by_cases q5 : 0 ≤ u ∧ u ≤ 3
    · have q0 := q5.1
      have q1 := q5.2
      have q2 : ¬ u < 0 := by omega
      have q3 : ¬ 3 < u := by omega
      by_cases q6 : 0 ≤ v ∧ v ≤ 999
      · have p0 := q6.1
        have p1 := q6.2
        have p2 : ¬ v < 0 := by omega
        have p3 : ¬ 999 < v := by omega
        by_cases q7 : H 591 (92 + 26 * b + 13) < 6
        · have t0 : ¬ H 591 (92 + 26 * b + 13) = 6 := by omega
          have h := call_runP 6 vm_X12_remark h
          have h := xw_top (hd := []) 5 xD6_ok xc_X12_remark xa_X12_remark (t := 0) rfl h
          simp (maxDischargeDepth := 12) -implicitDefEqProofs [vb_X12_remark_0, vb_X12_remark_45, vb_X12_remark_47, xI_0, xI_1, xI_3, xI_7, xI_8, xI_9, xI_14, xI_16, xI_37, xI_44, xI_49, xI_51, xI_52, xI_60, xI_61, xI_62, xw_X12_remark_0, xw_X12_remark_45, xw_X12_remark_47, zw_lit, xB_c, xB_s, xB_n, i1_c, j2_c, k1_c, jJ_e, xlg, xls, xla, xpd, ppush, zw_m1, zw_m2, zw_m3, gf_12_0, tg_12_0, gv_590_0, xD1, xD2, xD3, xD4, xD5, xD6, xb1_0, z2, k0, k1, k2, k3, q0, q1, q2, q3, p0, p1, p2, p3, z3, z4, z5, t0] at h
          obtain ⟨r, H1, ⟨rfl, d1, d2, d3⟩, g⟩ := xc_use h (sp_X12_deed R n H hn h2 hK)
          have e591 : H1 591 = H 591 := d1.1 591 (by decide) (by decide)
          have y1 : zw (92 + 26 * b + 14) = 92 + 26 * b + 14 := zw_lit (by omega) (by omega)
          have y2 : zw (2 * H 591 (92 + 26 * b + 13)) = 2 * H 591 (92 + 26 * b + 13) := zw_lit (by omega) (by omega)
          have y3 : zw (92 + 26 * b + 14 + 2 * H 591 (92 + 26 * b + 13)) = 92 + 26 * b + 14 + 2 * H 591 (92 + 26 * b + 13) := zw_lit (by omega) (by omega)
          have y4 : zw (92 + 26 * b + 14 + 2 * H 591 (92 + 26 * b + 13) + 1) = 92 + 26 * b + 14 + 2 * H 591 (92 + 26 * b + 13) + 1 := zw_lit (by omega) (by omega)
          have y5 : zw (H 591 (92 + 26 * b + 13) + 1) = H 591 (92 + 26 * b + 13) + 1 := zw_lit (by omega) (by omega)
          simp (maxDischargeDepth := 12) -implicitDefEqProofs [vb_X12_remark_0, vb_X12_remark_45, vb_X12_remark_47, xI_0, xI_1, xI_3, xI_7, xI_8, xI_9, xI_14, xI_16, xI_37, xI_44, xI_49, xI_51, xI_52, xI_60, xI_61, xI_62, xw_X12_remark_0, xw_X12_remark_45, xw_X12_remark_47, zw_lit, xB_c, xB_s, xB_n, i1_c, j2_c, k1_c, jJ_e, xlg, xls, xla, xpd, ppush, zw_m1, zw_m2, zw_m3, gf_12_0, tg_12_0, gv_590_0, xD1, xD2, xD3, xD4, xD5, xD6, xb1_0, z3, z4, z5, e591, y1, y2, y3, y4, y5] at g
          exact ⟨_, _, g, Or.inl ⟨⟨q4, q5, q6, q7⟩, rfl, MDs_deed d1 d2 d3 (fun c hc => by rw [xp_ne hc, xp_ne hc, xp_ne hc]) (by rw [pupC, pupC, pupC, e591])⟩⟩
        · have t0 : H 591 (92 + 26 * b + 13) = 6 := by omega
          have h := call_runP 6 vm_X12_remark h
          have h := xw_top (hd := []) 5 xD6_ok xc_X12_remark xa_X12_remark (t := 0) rfl h
          simp (maxDischargeDepth := 12) -implicitDefEqProofs [vb_X12_remark_0, vb_X12_remark_45, vb_X12_remark_47, xI_0, xI_1, xI_3, xI_7, xI_8, xI_9, xI_14, xI_16, xI_37, xI_44, xI_49, xI_51, xI_52, xI_60, xI_61, xI_62, xw_X12_remark_0, xw_X12_remark_45, xw_X12_remark_47, zw_lit, xB_c, xB_s, xB_n, i1_c, j2_c, k1_c, jJ_e, xlg, xls, xla, xpd, ppush, zw_m1, zw_m2, zw_m3, gf_12_0, tg_12_0, gv_590_0, xD1, xD2, xD3, xD4, xD5, xD6, xb1_0, z2, k0, k1, k2, k3, q0, q1, q2, q3, p0, p1, p2, p3, z3, z4, z5, t0] at h
          exact ⟨_, _, h, Or.inr ⟨fun w => q7 w.2.2.2, rfl, rfl⟩⟩
      · by_cases p0 : 0 ≤ v
        · have p1 : ¬ v ≤ 999 := by omega
          have p2 : ¬ v < 0 := by omega
          have p3 : 999 < v := by omega
          have h := call_runP 6 vm_X12_remark h
          have h := xw_top (hd := []) 5 xD6_ok xc_X12_remark xa_X12_remark (t := 0) rfl h
          simp (maxDischargeDepth := 12) -implicitDefEqProofs [vb_X12_remark_0, vb_X12_remark_45, vb_X12_remark_47, xI_0, xI_1, xI_3, xI_7, xI_8, xI_9, xI_14, xI_16, xI_37, xI_44, xI_49, xI_51, xI_52, xI_60, xI_61, xI_62, xw_X12_remark_0, xw_X12_remark_45, xw_X12_remark_47, zw_lit, xB_c, xB_s, xB_n, i1_c, j2_c, k1_c, jJ_e, xlg, xls, xla, xpd, ppush, zw_m1, zw_m2, zw_m3, gf_12_0, tg_12_0, gv_590_0, xD1, xD2, xD3, xD4, xD5, xD6, xb1_0, z2, k0, k1, k2, k3, q0, q1, q2, q3, p0, p1, p2, p3] at h
          exact ⟨_, _, h, Or.inr ⟨fun w => q6 w.2.2.1, rfl, rfl⟩⟩
        · have p2 : v < 0 := by omega
          have h := call_runP 6 vm_X12_remark h
          have h := xw_top (hd := []) 5 xD6_ok xc_X12_remark xa_X12_remark (t := 0) rfl h
          simp (maxDischargeDepth := 12) -implicitDefEqProofs [vb_X12_remark_0, vb_X12_remark_45, vb_X12_remark_47, xI_0, xI_1, xI_3, xI_7, xI_8, xI_9, xI_14, xI_16, xI_37, xI_44, xI_49, xI_51, xI_52, xI_60, xI_61, xI_62, xw_X12_remark_0, xw_X12_remark_45, xw_X12_remark_47, zw_lit, xB_c, xB_s, xB_n, i1_c, j2_c, k1_c, jJ_e, xlg, xls, xla, xpd, ppush, zw_m1, zw_m2, zw_m3, gf_12_0, tg_12_0, gv_590_0, xD1, xD2, xD3, xD4, xD5, xD6, xb1_0, z2, k0, k1, k2, k3, q0, q1, q2, q3, p0, p2] at h
          exact ⟨_, _, h, Or.inr ⟨fun w => q6 w.2.2.1, rfl, rfl⟩⟩
    · by_cases q0 : 0 ≤ u
      · have q1 : ¬ u ≤ 3 := by omega
        have q2 : ¬ u < 0 := by omega
        have q3 : 3 < u := by omega
        have h := call_runP 6 vm_X12_remark h
        have h := xw_top (hd := []) 5 xD6_ok xc_X12_remark xa_X12_remark (t := 0) rfl h
        simp (maxDischargeDepth := 12) -implicitDefEqProofs [vb_X12_remark_0, vb_X12_remark_45, vb_X12_remark_47, xI_0, xI_1, xI_3, xI_7, xI_8, xI_9, xI_14, xI_16, xI_37, xI_44, xI_49, xI_51, xI_52, xI_60, xI_61, xI_62, xw_X12_remark_0, xw_X12_remark_45, xw_X12_remark_47, zw_lit, xB_c, xB_s, xB_n, i1_c, j2_c, k1_c, jJ_e, xlg, xls, xla, xpd, ppush, zw_m1, zw_m2, zw_m3, gf_12_0, tg_12_0, gv_590_0, xD1, xD2, xD3, xD4, xD5, xD6, xb1_0, z2, k0, k1, k2, k3, q0, q1, q2, q3] at h
        exact ⟨_, _, h, Or.inr ⟨fun w => q5 w.2.1, rfl, rfl⟩⟩
      · have q2 : u < 0 := by omega
        have h := call_runP 6 vm_X12_remark h
        have h := xw_top (hd := []) 5 xD6_ok xc_X12_remark xa_X12_remark (t := 0) rfl h
        simp (maxDischargeDepth := 12) -implicitDefEqProofs [vb_X12_remark_0, vb_X12_remark_45, vb_X12_remark_47, xI_0, xI_1, xI_3, xI_7, xI_8, xI_9, xI_14, xI_16, xI_37, xI_44, xI_49, xI_51, xI_52, xI_60, xI_61, xI_62, xw_X12_remark_0, xw_X12_remark_45, xw_X12_remark_47, zw_lit, xB_c, xB_s, xB_n, i1_c, j2_c, k1_c, jJ_e, xlg, xls, xla, xpd, ppush, zw_m1, zw_m2, zw_m3, gf_12_0, tg_12_0, gv_590_0, xD1, xD2, xD3, xD4, xD5, xD6, xb1_0, z2, k0, k1, k2, k3, q0, q2] at h
        exact ⟨_, _, h, Or.inr ⟨fun w => q5 w.2.1, rfl, rfl⟩⟩
  · by_cases k0 : 0 ≤ b
    · have k1 : ¬ b ≤ H 591 0 - 1 := by omega
      have k2 : ¬ b < 0 := by omega
      have k3 : H 591 0 - 1 < b := by omega
      have h := call_runP 6 vm_X12_remark h
      have h := xw_top (hd := []) 5 xD6_ok xc_X12_remark xa_X12_remark (t := 0) rfl h
      simp (maxDischargeDepth := 12) -implicitDefEqProofs [vb_X12_remark_0, vb_X12_remark_45, vb_X12_remark_47, xI_0, xI_1, xI_3, xI_7, xI_8, xI_9, xI_14, xI_16, xI_37, xI_44, xI_49, xI_51, xI_52, xI_60, xI_61, xI_62, xw_X12_remark_0, xw_X12_remark_45, xw_X12_remark_47, zw_lit, xB_c, xB_s, xB_n, i1_c, j2_c, k1_c, jJ_e, xlg, xls, xla, xpd, ppush, zw_m1, zw_m2, zw_m3, gf_12_0, tg_12_0, gv_590_0, xD1, xD2, xD3, xD4, xD5, xD6, xb1_0, z2, k0, k1, k2, k3] at h
      exact ⟨_, _, h, Or.inr ⟨fun w => q4 w.1, rfl, rfl⟩⟩
    · have k2 : b < 0 := by omega
      have h := call_runP 6 vm_X12_remark h
      have h := xw_top (hd := []) 5 xD6_ok xc_X12_remark xa_X12_remark (t := 0) rfl h
      simp (maxDischargeDepth := 12) -implicitDefEqProofs [vb_X12_remark_0, vb_X12_remark_45, vb_X12_remark_47, xI_0, xI_1, xI_3, xI_7, xI_8, xI_9, xI_14, xI_16, xI_37, xI_44, xI_49, xI_51, xI_52, xI_60, xI_61, xI_62, xw_X12_remark_0, xw_X12_remark_45, xw_X12_remark_47, zw_lit, xB_c, xB_s, xB_n, i1_c, j2_c, k1_c, jJ_e, xlg, xls, xla, xpd, ppush, zw_m1, zw_m2, zw_m3, gf_12_0, tg_12_0, gv_590_0, xD1, xD2, xD3, xD4, xD5, xD6, xb1_0, z2, k0, k2] at h
      exact ⟨_, _, h, Or.inr ⟨fun w => q4 w.1, rfl, rfl⟩⟩
