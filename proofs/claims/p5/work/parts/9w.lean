theorem gf_0_3 : gfOK 0 3 = true := by decide +kernel
theorem gf_1_9 : gfOK 1 9 = true := by decide +kernel
theorem gf_1_13 : gfOK 1 13 = true := by decide +kernel
theorem pf_1_7 : pfOK 1 7 = true := by decide +kernel
theorem pf_1_8 : pfOK 1 8 = true := by decide +kernel
theorem pf_1_9 : pfOK 1 9 = true := by decide +kernel
theorem pf_1_10 : pfOK 1 10 = true := by decide +kernel
theorem pf_1_11 : pfOK 1 11 = true := by decide +kernel
theorem pf_1_12 : pfOK 1 12 = true := by decide +kernel
theorem pf_1_13 : pfOK 1 13 = true := by decide +kernel
def xm_X11_claim : List xbT := [(0, vb_X11_claim_0, some 19), (19, vb_X11_claim_19, some 21), (21, vb_X11_claim_21, none)]
theorem xc_X11_claim : xOK kd_X11_claim xm_X11_claim := ⟨ve_X11_claim_0, ve_X11_claim_19, ve_X11_claim_21, trivial⟩
theorem xa_X11_claim : xm_X11_claim.all (fun q => aOKb q.2.1 && !q.2.1.isEmpty) = true := by decide +kernel
theorem xw_X11_claim_0 {E : xE} {res : xR} {N : Nat} {hd : List Nat} {C : xCT} {k : Nat} {L : List Int} {st : List pv} {H : PH} : xW E res N kd_X11_claim xm_X11_claim hd C (k + 1) 0 L st H = xB (fun t L st H => if t ∈ hd then xJ E res N kd_X11_claim t L st H else xW E res N kd_X11_claim xm_X11_claim hd C k t L st H) (REPR E res) C (some 19) vb_X11_claim_0 0 L st H := Eq.trans rfl rfl
theorem xw_X11_claim_19 {E : xE} {res : xR} {N : Nat} {hd : List Nat} {C : xCT} {k : Nat} {L : List Int} {st : List pv} {H : PH} : xW E res N kd_X11_claim xm_X11_claim hd C (k + 1) 19 L st H = xB (fun t L st H => if t ∈ hd then xJ E res N kd_X11_claim t L st H else xW E res N kd_X11_claim xm_X11_claim hd C k t L st H) (REPR E res) C (some 21) vb_X11_claim_19 19 L st H := Eq.trans rfl rfl
theorem xw_X11_claim_21 {E : xE} {res : xR} {N : Nat} {hd : List Nat} {C : xCT} {k : Nat} {L : List Int} {st : List pv} {H : PH} : xW E res N kd_X11_claim xm_X11_claim hd C (k + 1) 21 L st H = xB (fun t L st H => if t ∈ hd then xJ E res N kd_X11_claim t L st H else xW E res N kd_X11_claim xm_X11_claim hd C k t L st H) (REPR E res) C (none) vb_X11_claim_21 21 L st H := Eq.trans rfl rfl
def xm_X11_limit : List xbT := [(0, vb_X11_limit_0, some 12), (12, vb_X11_limit_12, none)]
theorem xc_X11_limit : xOK kd_X11_limit xm_X11_limit := ⟨ve_X11_limit_0, ve_X11_limit_12, trivial⟩
theorem xa_X11_limit : xm_X11_limit.all (fun q => aOKb q.2.1 && !q.2.1.isEmpty) = true := by decide +kernel
theorem xw_X11_limit_0 {E : xE} {res : xR} {N : Nat} {hd : List Nat} {C : xCT} {k : Nat} {L : List Int} {st : List pv} {H : PH} : xW E res N kd_X11_limit xm_X11_limit hd C (k + 1) 0 L st H = xB (fun t L st H => if t ∈ hd then xJ E res N kd_X11_limit t L st H else xW E res N kd_X11_limit xm_X11_limit hd C k t L st H) (REPR E res) C (some 12) vb_X11_limit_0 0 L st H := Eq.trans rfl rfl
theorem xw_X11_limit_12 {E : xE} {res : xR} {N : Nat} {hd : List Nat} {C : xCT} {k : Nat} {L : List Int} {st : List pv} {H : PH} : xW E res N kd_X11_limit xm_X11_limit hd C (k + 1) 12 L st H = xB (fun t L st H => if t ∈ hd then xJ E res N kd_X11_limit t L st H else xW E res N kd_X11_limit xm_X11_limit hd C k t L st H) (REPR E res) C (none) vb_X11_limit_12 12 L st H := Eq.trans rfl rfl
def xm_X11_far : List xbT := [(0, vb_X11_far_0, some 12), (12, vb_X11_far_12, none)]
theorem xc_X11_far : xOK kd_X11_far xm_X11_far := ⟨ve_X11_far_0, ve_X11_far_12, trivial⟩
theorem xa_X11_far : xm_X11_far.all (fun q => aOKb q.2.1 && !q.2.1.isEmpty) = true := by decide +kernel
theorem xw_X11_far_0 {E : xE} {res : xR} {N : Nat} {hd : List Nat} {C : xCT} {k : Nat} {L : List Int} {st : List pv} {H : PH} : xW E res N kd_X11_far xm_X11_far hd C (k + 1) 0 L st H = xB (fun t L st H => if t ∈ hd then xJ E res N kd_X11_far t L st H else xW E res N kd_X11_far xm_X11_far hd C k t L st H) (REPR E res) C (some 12) vb_X11_far_0 0 L st H := Eq.trans rfl rfl
theorem xw_X11_far_12 {E : xE} {res : xR} {N : Nat} {hd : List Nat} {C : xCT} {k : Nat} {L : List Int} {st : List pv} {H : PH} : xW E res N kd_X11_far xm_X11_far hd C (k + 1) 12 L st H = xB (fun t L st H => if t ∈ hd then xJ E res N kd_X11_far t L st H else xW E res N kd_X11_far xm_X11_far hd C k t L st H) (REPR E res) C (none) vb_X11_far_12 12 L st H := Eq.trans rfl rfl
def xm_X11_pack : List xbT := [(0, vb_X11_pack_0, some 13), (13, vb_X11_pack_13, none)]
theorem xc_X11_pack : xOK kd_X11_pack xm_X11_pack := ⟨ve_X11_pack_0, ve_X11_pack_13, trivial⟩
theorem xa_X11_pack : xm_X11_pack.all (fun q => aOKb q.2.1 && !q.2.1.isEmpty) = true := by decide +kernel
theorem xw_X11_pack_0 {E : xE} {res : xR} {N : Nat} {hd : List Nat} {C : xCT} {k : Nat} {L : List Int} {st : List pv} {H : PH} : xW E res N kd_X11_pack xm_X11_pack hd C (k + 1) 0 L st H = xB (fun t L st H => if t ∈ hd then xJ E res N kd_X11_pack t L st H else xW E res N kd_X11_pack xm_X11_pack hd C k t L st H) (REPR E res) C (some 13) vb_X11_pack_0 0 L st H := Eq.trans rfl rfl
theorem xw_X11_pack_13 {E : xE} {res : xR} {N : Nat} {hd : List Nat} {C : xCT} {k : Nat} {L : List Int} {st : List pv} {H : PH} : xW E res N kd_X11_pack xm_X11_pack hd C (k + 1) 13 L st H = xB (fun t L st H => if t ∈ hd then xJ E res N kd_X11_pack t L st H else xW E res N kd_X11_pack xm_X11_pack hd C k t L st H) (REPR E res) C (none) vb_X11_pack_13 13 L st H := Eq.trans rfl rfl
def xm_X11_days : List xbT := [(0, vb_X11_days_0, some 12), (12, vb_X11_days_12, none)]
theorem xc_X11_days : xOK kd_X11_days xm_X11_days := ⟨ve_X11_days_0, ve_X11_days_12, trivial⟩
theorem xa_X11_days : xm_X11_days.all (fun q => aOKb q.2.1 && !q.2.1.isEmpty) = true := by decide +kernel
theorem xw_X11_days_0 {E : xE} {res : xR} {N : Nat} {hd : List Nat} {C : xCT} {k : Nat} {L : List Int} {st : List pv} {H : PH} : xW E res N kd_X11_days xm_X11_days hd C (k + 1) 0 L st H = xB (fun t L st H => if t ∈ hd then xJ E res N kd_X11_days t L st H else xW E res N kd_X11_days xm_X11_days hd C k t L st H) (REPR E res) C (some 12) vb_X11_days_0 0 L st H := Eq.trans rfl rfl
theorem xw_X11_days_12 {E : xE} {res : xR} {N : Nat} {hd : List Nat} {C : xCT} {k : Nat} {L : List Int} {st : List pv} {H : PH} : xW E res N kd_X11_days xm_X11_days hd C (k + 1) 12 L st H = xB (fun t L st H => if t ∈ hd then xJ E res N kd_X11_days t L st H else xW E res N kd_X11_days xm_X11_days hd C k t L st H) (REPR E res) C (none) vb_X11_days_12 12 L st H := Eq.trans rfl rfl
def xm_X11_rate : List xbT := [(0, vb_X11_rate_0, some 21), (21, vb_X11_rate_21, some 23), (23, vb_X11_rate_23, none)]
theorem xc_X11_rate : xOK kd_X11_rate xm_X11_rate := ⟨ve_X11_rate_0, ve_X11_rate_21, ve_X11_rate_23, trivial⟩
theorem xa_X11_rate : xm_X11_rate.all (fun q => aOKb q.2.1 && !q.2.1.isEmpty) = true := by decide +kernel
theorem xw_X11_rate_0 {E : xE} {res : xR} {N : Nat} {hd : List Nat} {C : xCT} {k : Nat} {L : List Int} {st : List pv} {H : PH} : xW E res N kd_X11_rate xm_X11_rate hd C (k + 1) 0 L st H = xB (fun t L st H => if t ∈ hd then xJ E res N kd_X11_rate t L st H else xW E res N kd_X11_rate xm_X11_rate hd C k t L st H) (REPR E res) C (some 21) vb_X11_rate_0 0 L st H := Eq.trans rfl rfl
theorem xw_X11_rate_21 {E : xE} {res : xR} {N : Nat} {hd : List Nat} {C : xCT} {k : Nat} {L : List Int} {st : List pv} {H : PH} : xW E res N kd_X11_rate xm_X11_rate hd C (k + 1) 21 L st H = xB (fun t L st H => if t ∈ hd then xJ E res N kd_X11_rate t L st H else xW E res N kd_X11_rate xm_X11_rate hd C k t L st H) (REPR E res) C (some 23) vb_X11_rate_21 21 L st H := Eq.trans rfl rfl
theorem xw_X11_rate_23 {E : xE} {res : xR} {N : Nat} {hd : List Nat} {C : xCT} {k : Nat} {L : List Int} {st : List pv} {H : PH} : xW E res N kd_X11_rate xm_X11_rate hd C (k + 1) 23 L st H = xB (fun t L st H => if t ∈ hd then xJ E res N kd_X11_rate t L st H else xW E res N kd_X11_rate xm_X11_rate hd C k t L st H) (REPR E res) C (none) vb_X11_rate_23 23 L st H := Eq.trans rfl rfl
def xm_X11_remark : List xbT := [(0, vb_X11_remark_0, some 28), (28, vb_X11_remark_28, some 30), (30, vb_X11_remark_30, some 53), (53, vb_X11_remark_53, none)]
theorem xc_X11_remark : xOK kd_X11_remark xm_X11_remark := ⟨ve_X11_remark_0, ve_X11_remark_28, ve_X11_remark_30, ve_X11_remark_53, trivial⟩
theorem xa_X11_remark : xm_X11_remark.all (fun q => aOKb q.2.1 && !q.2.1.isEmpty) = true := by decide +kernel
theorem xw_X11_remark_0 {E : xE} {res : xR} {N : Nat} {hd : List Nat} {C : xCT} {k : Nat} {L : List Int} {st : List pv} {H : PH} : xW E res N kd_X11_remark xm_X11_remark hd C (k + 1) 0 L st H = xB (fun t L st H => if t ∈ hd then xJ E res N kd_X11_remark t L st H else xW E res N kd_X11_remark xm_X11_remark hd C k t L st H) (REPR E res) C (some 28) vb_X11_remark_0 0 L st H := Eq.trans rfl rfl
theorem xw_X11_remark_28 {E : xE} {res : xR} {N : Nat} {hd : List Nat} {C : xCT} {k : Nat} {L : List Int} {st : List pv} {H : PH} : xW E res N kd_X11_remark xm_X11_remark hd C (k + 1) 28 L st H = xB (fun t L st H => if t ∈ hd then xJ E res N kd_X11_remark t L st H else xW E res N kd_X11_remark xm_X11_remark hd C k t L st H) (REPR E res) C (some 30) vb_X11_remark_28 28 L st H := Eq.trans rfl rfl
theorem xw_X11_remark_30 {E : xE} {res : xR} {N : Nat} {hd : List Nat} {C : xCT} {k : Nat} {L : List Int} {st : List pv} {H : PH} : xW E res N kd_X11_remark xm_X11_remark hd C (k + 1) 30 L st H = xB (fun t L st H => if t ∈ hd then xJ E res N kd_X11_remark t L st H else xW E res N kd_X11_remark xm_X11_remark hd C k t L st H) (REPR E res) C (some 53) vb_X11_remark_30 30 L st H := Eq.trans rfl rfl
theorem xw_X11_remark_53 {E : xE} {res : xR} {N : Nat} {hd : List Nat} {C : xCT} {k : Nat} {L : List Int} {st : List pv} {H : PH} : xW E res N kd_X11_remark xm_X11_remark hd C (k + 1) 53 L st H = xB (fun t L st H => if t ∈ hd then xJ E res N kd_X11_remark t L st H else xW E res N kd_X11_remark xm_X11_remark hd C k t L st H) (REPR E res) C (none) vb_X11_remark_53 53 L st H := Eq.trans rfl rfl
def xm_X0_addRemark : List xbT := [(0, vb_X0_addRemark_0, some 39), (39, vb_X0_addRemark_39, none)]
theorem xc_X0_addRemark : xOK kd_X0_addRemark xm_X0_addRemark := ⟨ve_X0_addRemark_0, ve_X0_addRemark_39, trivial⟩
theorem xa_X0_addRemark : xm_X0_addRemark.all (fun q => aOKb q.2.1 && !q.2.1.isEmpty) = true := by decide +kernel
theorem xw_X0_addRemark_0 {E : xE} {res : xR} {N : Nat} {hd : List Nat} {C : xCT} {k : Nat} {L : List Int} {st : List pv} {H : PH} : xW E res N kd_X0_addRemark xm_X0_addRemark hd C (k + 1) 0 L st H = xB (fun t L st H => if t ∈ hd then xJ E res N kd_X0_addRemark t L st H else xW E res N kd_X0_addRemark xm_X0_addRemark hd C k t L st H) (REPR E res) C (some 39) vb_X0_addRemark_0 0 L st H := Eq.trans rfl rfl
theorem xw_X0_addRemark_39 {E : xE} {res : xR} {N : Nat} {hd : List Nat} {C : xCT} {k : Nat} {L : List Int} {st : List pv} {H : PH} : xW E res N kd_X0_addRemark xm_X0_addRemark hd C (k + 1) 39 L st H = xB (fun t L st H => if t ∈ hd then xJ E res N kd_X0_addRemark t L st H else xW E res N kd_X0_addRemark xm_X0_addRemark hd C k t L st H) (REPR E res) C (none) vb_X0_addRemark_39 39 L st H := Eq.trans rfl rfl
def xm_X11_deliver : List xbT := [(0, vb_X11_deliver_0, some 10), (10, vb_X11_deliver_10, some 29), (29, vb_X11_deliver_29, none)]
theorem xc_X11_deliver : xOK kd_X11_deliver xm_X11_deliver := ⟨ve_X11_deliver_0, ve_X11_deliver_10, ve_X11_deliver_29, trivial⟩
theorem xa_X11_deliver : xm_X11_deliver.all (fun q => aOKb q.2.1 && !q.2.1.isEmpty) = true := by decide +kernel
theorem xw_X11_deliver_0 {E : xE} {res : xR} {N : Nat} {hd : List Nat} {C : xCT} {k : Nat} {L : List Int} {st : List pv} {H : PH} : xW E res N kd_X11_deliver xm_X11_deliver hd C (k + 1) 0 L st H = xB (fun t L st H => if t ∈ hd then xJ E res N kd_X11_deliver t L st H else xW E res N kd_X11_deliver xm_X11_deliver hd C k t L st H) (REPR E res) C (some 10) vb_X11_deliver_0 0 L st H := Eq.trans rfl rfl
theorem xw_X11_deliver_10 {E : xE} {res : xR} {N : Nat} {hd : List Nat} {C : xCT} {k : Nat} {L : List Int} {st : List pv} {H : PH} : xW E res N kd_X11_deliver xm_X11_deliver hd C (k + 1) 10 L st H = xB (fun t L st H => if t ∈ hd then xJ E res N kd_X11_deliver t L st H else xW E res N kd_X11_deliver xm_X11_deliver hd C k t L st H) (REPR E res) C (some 29) vb_X11_deliver_10 10 L st H := Eq.trans rfl rfl
theorem xw_X11_deliver_29 {E : xE} {res : xR} {N : Nat} {hd : List Nat} {C : xCT} {k : Nat} {L : List Int} {st : List pv} {H : PH} : xW E res N kd_X11_deliver xm_X11_deliver hd C (k + 1) 29 L st H = xB (fun t L st H => if t ∈ hd then xJ E res N kd_X11_deliver t L st H else xW E res N kd_X11_deliver xm_X11_deliver hd C k t L st H) (REPR E res) C (none) vb_X11_deliver_29 29 L st H := Eq.trans rfl rfl
/-! ===== deeds that change numbers ===== -/
/-- what calls of the class leave as it is -/
def OF (H H' : PH) : Prop := (∀ c, 590 ≤ c → H' c = H c) ∧ (H' 0 10 = H 0 10 ∧ H' 589 = H 589) ∧ H' 214 = H 214
theorem OF_refl {H : PH} : OF H H := ⟨fun _ _ => rfl, ⟨rfl, rfl⟩, rfl⟩
theorem OF_trans {H H1 H2 : PH} (a : OF H H1) (b : OF H1 H2) : OF H H2 := ⟨fun c h => (b.1 c h).trans (a.1 c h), ⟨b.2.1.1.trans a.2.1.1, b.2.1.2.trans a.2.1.2⟩, b.2.2.trans a.2.2⟩
/-- behind a query: the same rows -/
def CQ (H H' : PH) (S : Int → Int → Int) (n : Int) : Prop := RC H' S n ∧ MCC (S 0) H' ∧ OF H H' ∧ H' 213 1 = H 213 1 ∧ H' 372 = H 372
/-- behind a deed: a row more -/
def CD (H H' : PH) (S : Int → Int → Int) (n : Int) (B : Int → Int) : Prop := RC H' (cns B S) (min 20 (n + 1)) ∧ MCC B H' ∧ OF H H' ∧ H' 213 1 = H 213 1 ∧ H' 372 2 = 0
theorem CQ_refl {H : PH} {S : Int → Int → Int} {n : Int} (h : RC H S n) (m : MCC (S 0) H) : CQ H H S n := ⟨h, m, OF_refl, rfl, rfl⟩
theorem MCC_0 {A : Int → Int} {H : PH} (h1 : H 215 1 = 0) (h2 : H 221 2 = 0) : MCC A H := ⟨fun q => (q h1).elim, fun q => (q h2).elim⟩
theorem nd_z {H : PH} {k a b d : Int} : ndHx H k a b d 215 1 = 0 ∧ ndHx H k a b d 221 2 = 0 ∧ ndHx H k a b d 372 2 = 0 := by
  unfold ndHx
  refine ⟨?_, ?_, ?_⟩
  · rw [xp_ne (by decide), xp_ne (by decide), xp_at, if_pos rfl]
  · rw [xp_ne (by decide), xp_at, if_pos rfl]
  · rw [xp_at, if_pos rfl]
theorem OF_nd {H : PH} {k a b d : Int} (h8 : 0 ≤ H 0 8 ∧ H 0 8 ≤ 19) : OF H (ndHx H k a b d) := by
  have l := dnx_in h8
  exact ⟨fun c h => nd_ne h8 (by omega) (by omega) (by omega) (by omega) (by omega), ⟨nd_0 h8 (by decide) (by decide), nd_ne h8 (by decide) (by omega) (by decide) (by decide) (by decide)⟩, nd_ne h8 (by decide) (by omega) (by decide) (by decide) (by decide)⟩
theorem CI_nd' {H : PH} {A : Int → Int} (hB : MB A) (h : CI H A) {k a b d : Int} (h8 : 0 ≤ H 0 8 ∧ H 0 8 ≤ 19) : CI (ndHx H k a b d) A := CI_nd hB h (dnx_in h8)
theorem CD_num {H G : PH} {S : Int → Int → Int} {n k a b d : Int} {B : Int → Int} (hR : RC H S n) (hG : ∀ c, ¬ c = 1 → ¬ (57 ≤ c ∧ c ≤ 92) → G c = ndHx H k a b d c) (h0 : ∀ i, i = 2 ∨ i = 4 ∨ i = 5 ∨ i = 6 → G 1 i = H 1 i) (f : ∀ i, i < 3 ∨ (10 ≤ i ∧ i < 92) ∨ 404 ≤ i → B i = S 0 i) (hs : ∀ b, 0 ≤ b → b < S 0 0 → B (92 + 26 * b) = S 0 (92 + 26 * b) ∧ ∀ i, 0 ≤ i → i < S 0 (92 + 26 * b) → B (92 + 26 * b + 1 + i) = S 0 (92 + 26 * b + 1 + i)) (h1 : B 3 = G 1 7 ∧ B 4 = G 1 8 ∧ B 5 = G 1 9 ∧ B 6 = G 1 11 ∧ B 7 = G 1 12 ∧ B 8 = G 1 10 ∧ B 9 = G 1 13) (h2 : ∀ b, 0 ≤ b → b < S 0 0 → BRr (57 + 3 * b) G B (92 + 26 * b)) (ok : OKR B) (dd : DD (ndHx H k a b d) (dnx (H 0 8)) B (S 0)) : CD H G S n B := by
  obtain ⟨x1, x2, ld, x4, h8, x6, x7⟩ := id hR
  have ok0 := x6 0 (by decide) x4.1.1
  have lx := dnx_in h8
  have n1 : ∀ i, ndHx H k a b d 1 i = H 1 i := fun i => by rw [nd_ne h8 (by decide) (by omega) (by decide) (by decide) (by decide)]
  have ci : CI G B := CI_mk ok0.1 (OKR_11 ok0).2 (CI_nd' ok0.1 x1 h8) f hs hG (fun i hi => by rw [n1]; exact h0 i (by omega)) h1 h2
  have cp : CPr G B := by
    have e := CPr_fr (H' := G) (A := S 0) (by rw [hG 42 (by decide) (by decide), nd_ne h8 (by decide) (by omega) (by decide) (by decide) (by decide)]) (by rw [hG 43 (by decide) (by decide), nd_ne h8 (by decide) (by omega) (by decide) (by decide) (by decide)]) x2
    have c1 := ok0.1.2.1
    unfold CPr at e ⊢
    rw [f 1 (by decide)]
    exact ⟨fun j j0 j1 => by rw [f _ (by omega), f _ (by omega)]; exact e.1 j j0 j1, e.2⟩
  have gl : GFL (ndHx H k a b d) G := GFL_of (LDA_nd h8 ld) (by rw [hG 0 (by decide) (by decide)]; exact ⟨rfl, rfl⟩) (hG 47 (by decide) (by decide)) ⟨by rw [h0 5 (by decide), n1], by rw [h0 6 (by decide), n1]⟩ (fun l l0 l1 => hG _ (by omega) (by omega)) (fun w hw => by
      have z := KWz hw
      rw [hG w (by omega) (by omega), hG (w + 1) (by omega) (by omega)]
      exact ⟨⟨rfl, rfl⟩, rfl⟩) (fun q hq _ => by
      have z := KL_in hq
      rw [hG q (by omega) (by omega), hG (q + 1) (by omega) (by omega)]
      exact ⟨rfl, rfl⟩)
  have oo : OF (ndHx H k a b d) G := ⟨fun c hc => hG c (by omega) (by omega), ⟨by rw [hG 0 (by decide) (by decide)], hG 589 (by decide) (by decide)⟩, hG 214 (by decide) (by decide)⟩
  refine ⟨RC_nd hR GFL_refl gl ci cp ok dd, MCC_0 (by rw [hG 215 (by decide) (by decide)]; exact nd_z.1) (by rw [hG 221 (by decide) (by decide)]; exact nd_z.2.1), OF_trans (OF_nd h8) oo, ?_, ?_⟩
  · rw [hG 213 (by decide) (by decide), nd_ne h8 (by decide) (by omega) (by decide) (by decide) (by decide)]
  · rw [hG 372 (by decide) (by decide)]
    exact nd_z.2.2
/-- a number of a row -/
theorem MB_xup {A : Int → Int} {i v : Int} (h : MB A) (hi : ¬ i = 0 ∧ ¬ i = 1 ∧ ¬ i = 2) (hb : ∀ b, 0 ≤ b → b < 12 → ¬ i = 92 + 26 * b ∧ (i = 92 + 26 * b + 13 → 0 ≤ v ∧ v ≤ 6)) (hl : ∀ k, 0 ≤ k → k < 60 → ¬ i = 404 + 12 * k + 3) (hz : zIn v) : MB (xup A i v) := by
  obtain ⟨a0, a1, a2, a3, a4, a5, a6⟩ := h
  have e : ∀ j, ¬ j = i → xup A i v j = A j := fun j hj => if_neg hj
  refine ⟨by rw [e 0 (by omega)]; exact a0, by rw [e 1 (by omega)]; exact a1, by rw [e 2 (by omega)]; exact a2, fun b b0 b1 => by rw [e _ (fun w => (hb b b0 b1).1 w.symm)]; exact a3 b b0 b1, fun b b0 b1 => ?_, fun k k0 k1 => by rw [e _ (fun w => hl k k0 k1 w.symm)]; exact a5 k k0 k1, fun j j0 j1 => ?_⟩
  · by_cases q : i = 92 + 26 * b + 13
    · rw [← q]
      unfold xup
      rw [if_pos rfl]
      exact (hb b b0 b1).2 q
    · rw [e _ (fun w => q w.symm)]
      exact a4 b b0 b1
  · unfold xup
    split
    · exact hz
    · exact a6 j j0 j1
theorem ML_xup {A : Int → Int} {i v : Int} (h : ML A) (hi : ¬ (10 ≤ i ∧ i < 76)) : ML (xup A i v) := by
  obtain ⟨h1, h2⟩ := h
  have e : ∀ j, ¬ j = i → xup A i v j = A j := fun j hj => if_neg hj
  have h60 := h1.2.1
  unfold ML
  rw [e 10 (by omega), e 11 (by omega)]
  exact ⟨WFL_eq h1 (fun k hk => (e _ (by omega)).symm), h2⟩
theorem OKX_xup {A : Int → Int} {i v : Int} (hB : MB A) (h : OKX A) (h0 : ¬ i = 0 ∧ ¬ i = 2) (hi : ∀ b, 0 ≤ b → b < 12 → ¬ i = 92 + 26 * b + 9 ∧ ¬ i = 92 + 26 * b + 10 ∧ (i = 92 + 26 * b + 11 → 0 ≤ v ∧ v ≤ 999) ∧ (¬ (92 + 26 * b + 13 ≤ i ∧ i < 92 + 26 * b + 26))) (hk : i < 404) : OKX (xup A i v) := by
  have e : ∀ j, ¬ j = i → xup A i v j = A j := fun j hj => if_neg hj
  have a0 := hB.1
  unfold OKX
  rw [e 0 (by omega), e 2 (by omega)]
  refine ⟨fun b b0 b1 => ?_, fun k k0 k1 => ?_⟩
  · obtain ⟨x1, x2, x3, x4⟩ := h.1 b b0 b1
    obtain ⟨y1, y2, y3, y4⟩ := hi b b0 (by omega)
    have x6 := hB.2.2.2.2.1 b b0 (by omega)
    rw [e (92 + 26 * b + 9) (by omega), e (92 + 26 * b + 10) (by omega), e (92 + 26 * b + 13) (by omega)]
    refine ⟨x1, x2, ?_, fun j j0 j1 => ?_⟩
    · by_cases q : 92 + 26 * b + 11 = i
      · unfold xup
        rw [if_pos q]
        exact y3 q.symm
      · rw [e _ q]
        exact x3
    · rw [e _ (by omega), e _ (by omega)]
      exact x4 j j0 j1
  · rw [e _ (by omega), e _ (by omega), e _ (by omega)]
    exact h.2 k k0 k1
theorem OKS_xup {A : Int → Int} {i v : Int} (h : OKS A) (hi : ¬ (3 ≤ i ∧ i ≤ 8)) : OKS (xup A i v) := by
  have e : ∀ j, ¬ j = i → xup A i v j = A j := fun j hj => if_neg hj
  unfold OKS
  rw [e 3 (by omega), e 4 (by omega), e 5 (by omega), e 6 (by omega), e 7 (by omega), e 8 (by omega)]
  exact h
/-- a setting -/
theorem OKR_set {A : Int → Int} {i v : Int} (h : OKR A) (hi : 3 ≤ i ∧ i ≤ 9) (hz : zIn v) (hs : OKS (xup A i v)) : OKR (xup A i v) := ⟨MB_xup h.1 (by omega) (fun b b0 b1 => ⟨by omega, fun w => by omega⟩) (fun k k0 k1 => by omega) hz, ML_xup h.2.1 (by omega), hs, OKX_xup h.1 h.2.2.2 (by omega) (fun b b0 b1 => ⟨by omega, by omega, fun w => by omega, by omega⟩) (by omega)⟩
theorem BRr_set {c x : Int} {H G : PH} {A B : Int → Int} (h : BRr c H A x) (hG : ∀ d, ¬ d = 1 → G d = H d) (hc : ¬ c = 1 ∧ ¬ c + 1 = 1 ∧ ¬ c + 2 = 1) (hB : ∀ j, x ≤ j → j < x + 26 → B j = A j) (s8 : A x ≤ 8) (r6 : H c 5 ≤ 6) : BRr c G B x := by
  unfold BRr at h ⊢
  rw [hG c hc.1, hG (c + 1) hc.2.1, hG (c + 2) hc.2.2, hB x (by omega) (by omega), hB (x + 9) (by omega) (by omega), hB (x + 10) (by omega) (by omega), hB (x + 11) (by omega) (by omega), hB (x + 12) (by omega) (by omega), hB (x + 13) (by omega) (by omega)]
  obtain ⟨h1, h2, h3, h4, h5, h6, h7⟩ := h
  exact ⟨VM_congr h1 rfl (fun i i0 i1 => (hB _ (by omega) (by omega)).symm), h2, h3, h4, h5, h6, fun i i0 i1 => by rw [hB _ (by omega) (by omega), hB _ (by omega) (by omega)]; exact h7 i i0 i1⟩
/-- settings change -/
theorem CD_set {H G : PH} {S : Int → Int → Int} {n k a b d : Int} {B : Int → Int} (hR : RC H S n) (hG : ∀ c, ¬ c = 1 → G c = ndHx H k a b d c) (h0 : ∀ i, i = 2 ∨ i = 4 ∨ i = 5 ∨ i = 6 → G 1 i = H 1 i) (f : ∀ i, ¬ (3 ≤ i ∧ i ≤ 9) → B i = S 0 i) (h1 : B 3 = G 1 7 ∧ B 4 = G 1 8 ∧ B 5 = G 1 9 ∧ B 6 = G 1 11 ∧ B 7 = G 1 12 ∧ B 8 = G 1 10 ∧ B 9 = G 1 13) (ok : OKR B) (dd : DD (ndHx H k a b d) (dnx (H 0 8)) B (S 0)) : CD H G S n B := by
  obtain ⟨x1, x2, ld, x4, h8, x6, x7⟩ := id hR
  have ok0 := x6 0 (by decide) x4.1.1
  have lx := dnx_in h8
  have a0 := ok0.1.1
  refine CD_num hR (fun c c1 _ => hG c c1) h0 (fun i hi => f i (by omega)) (fun m b0 b1 => ⟨f _ (by omega), fun i i0 i1 => f _ (by omega)⟩) h1 (fun m b0 b1 => ?_) ok dd
  have g := x1.1.2.1 m b0 b1
  have e13 := (ok0.1.2.2.2.2.1 m b0 (by omega)).2
  have e6 := g.2.2.2.2.2.1
  have gn : BRr (57 + 3 * m) (ndHx H k a b d) (S 0) (92 + 26 * m) := (CI_nd' ok0.1 x1 h8).1.2.1 m b0 b1
  have e6n := gn.2.2.2.2.2.1
  exact BRr_set gn (fun d d1 => hG d d1) (by omega) (fun j j0 j1 => f j (by omega)) (ok0.1.2.2.2.1 m b0 (by omega)).2 (by omega)
set_option maxRecDepth 100000 in
theorem sp_c_limit (v : Int) (S : Int → Int → Int) (n : Int) (H : PH) (hR : RC H S n) : SPEC 124 [(2, 0), (0, v)] H (fun r H' => ((0 ≤ v ∧ v ≤ 20) ∧ r = some (0, S 0 3) ∧ CD H H' S n (xup (S 0) 3 v)) ∨ (¬ (0 ≤ v ∧ v ≤ 20) ∧ r = some (0, -1) ∧ H' = H)) := by
  intro E n' res h
  obtain ⟨x1, x2, ld, x4, h8, x6, x7⟩ := id hR
  have ok0 := x6 0 (by decide) x4.1.1
  have lx := dnx_in h8
  by_cases q : 0 ≤ v ∧ v ≤ 20
  · have q0 := q.1
    have q1 := q.2
    have q2 : ¬ v < 0 := by omega
    have q3 : ¬ 20 < v := by omega
    have h := call_runP 3 vm_X11_limit h
    have h := xw_top (hd := []) 4 xD6_ok xc_X11_limit xa_X11_limit (t := 0) rfl h
    simp (maxDischargeDepth := 12) -implicitDefEqProofs [vb_X11_limit_0, vb_X11_limit_12, xI_0, xI_1, xI_3, xI_7, xI_8, xI_35, xI_38, xI_49, xI_50, xI_60, xI_61, xI_62, xw_X11_limit_0, xw_X11_limit_12, zw_lit, xB_c, xB_s, xB_n, i1_c, j2_c, k1_c, jJ_e, xlg, xls, xla, xpd, ppush, zw_m1, zw_m2, zw_m3, gf_1_7, gf_11_0, pf_1_7, tg_11_0, tg_1_7, gv_1_7, gv_0_0, xD1, xD2, xD3, xD4, xD5, xD6, xb1_0, q, q0, q1, q2, q3] at h
    obtain ⟨r, H1, ⟨rfl, rfl⟩, h⟩ := xc_use h (sp_nd 4 (H 1 7) 0 0 H (by omega) h8)
    refine ⟨_, _, h, Or.inl ⟨q, ?_, ?_⟩⟩
    · rw [x1.1.1.2.2.2.1]
    · have na := nd_at (H := H) (k := 4) (a := H 1 7) (b := 0) (d := 0) h8
      have st := x1.1.1.2.2
      obtain ⟨s2, s3, s4, s5, s6, s7, s8, s9⟩ := id st
      have n1 : ndHx H 4 (H 1 7) 0 0 1 = H 1 := nd_ne h8 (by decide) (by omega) (by decide) (by decide) (by decide)
      refine CD_set hR (fun c c1 => xp_ne c1) (fun i hi => by rw [xp_at, if_neg (by omega), n1]) (fun i hi => if_neg (by omega)) ?_ ?_ ?_
      · simp only [xp_at, n1, xup]
        simp [s3, s4, s5, s6, s7, s8, s9]
      · refine OKR_set ok0 (by decide) (by unfold zIn; omega) ?_
        have := ok0.2.2.1
        unfold OKS at this
        unfold OKS xup
        simp
        omega
      · unfold DD
        rw [na.2.2.1, na.2.2.2.1, na.2.2.2.2.1, na.2.2.2.2.2.1]
        refine Or.inr (Or.inr (Or.inr (Or.inr (Or.inl ⟨rfl, ?_⟩))))
        have e : xup (xup (S 0) 3 v) 3 (H 1 7) = S 0 := by
          funext j
          unfold xup
          split
          · rename_i j3
            rw [j3]
            exact st.2.1.symm
          · rfl
        rw [e]
        exact REq_refl _
  · by_cases q0 : 0 ≤ v
    · have q1 : ¬ v ≤ 20 := by omega
      have q2 : ¬ v < 0 := by omega
      have q3 : 20 < v := by omega
      have h := call_runP 3 vm_X11_limit h
      have h := xw_top (hd := []) 4 xD6_ok xc_X11_limit xa_X11_limit (t := 0) rfl h
      simp (maxDischargeDepth := 12) -implicitDefEqProofs [vb_X11_limit_0, vb_X11_limit_12, xI_0, xI_1, xI_3, xI_7, xI_8, xI_35, xI_38, xI_49, xI_50, xI_60, xI_61, xI_62, xw_X11_limit_0, xw_X11_limit_12, zw_lit, xB_c, xB_s, xB_n, i1_c, j2_c, k1_c, jJ_e, xlg, xls, xla, xpd, ppush, zw_m1, zw_m2, zw_m3, gf_1_7, gf_11_0, pf_1_7, tg_11_0, tg_1_7, gv_1_7, gv_0_0, xD1, xD2, xD3, xD4, xD5, xD6, xb1_0, q0, q1, q2, q3] at h
      exact ⟨_, _, h, Or.inr ⟨q, rfl, rfl⟩⟩
    · have q2 : v < 0 := by omega
      have h := call_runP 3 vm_X11_limit h
      have h := xw_top (hd := []) 4 xD6_ok xc_X11_limit xa_X11_limit (t := 0) rfl h
      simp (maxDischargeDepth := 12) -implicitDefEqProofs [vb_X11_limit_0, vb_X11_limit_12, xI_0, xI_1, xI_3, xI_7, xI_8, xI_35, xI_38, xI_49, xI_50, xI_60, xI_61, xI_62, xw_X11_limit_0, xw_X11_limit_12, zw_lit, xB_c, xB_s, xB_n, i1_c, j2_c, k1_c, jJ_e, xlg, xls, xla, xpd, ppush, zw_m1, zw_m2, zw_m3, gf_1_7, gf_11_0, pf_1_7, tg_11_0, tg_1_7, gv_1_7, gv_0_0, xD1, xD2, xD3, xD4, xD5, xD6, xb1_0, q0, q2] at h
      exact ⟨_, _, h, Or.inr ⟨q, rfl, rfl⟩⟩
set_option maxRecDepth 100000 in
theorem sp_c_far (v : Int) (S : Int → Int → Int) (n : Int) (H : PH) (hR : RC H S n) : SPEC 125 [(2, 0), (0, v)] H (fun r H' => ((0 ≤ v ∧ v ≤ 24) ∧ r = some (0, S 0 4) ∧ CD H H' S n (xup (S 0) 4 v)) ∨ (¬ (0 ≤ v ∧ v ≤ 24) ∧ r = some (0, -1) ∧ H' = H)) := by
  intro E n' res h
  obtain ⟨x1, x2, ld, x4, h8, x6, x7⟩ := id hR
  have ok0 := x6 0 (by decide) x4.1.1
  have lx := dnx_in h8
  by_cases q : 0 ≤ v ∧ v ≤ 24
  · have q0 := q.1
    have q1 := q.2
    have q2 : ¬ v < 0 := by omega
    have q3 : ¬ 24 < v := by omega
    have h := call_runP 3 vm_X11_far h
    have h := xw_top (hd := []) 4 xD6_ok xc_X11_far xa_X11_far (t := 0) rfl h
    simp (maxDischargeDepth := 12) -implicitDefEqProofs [vb_X11_far_0, vb_X11_far_12, xI_0, xI_1, xI_3, xI_7, xI_8, xI_35, xI_38, xI_49, xI_50, xI_60, xI_61, xI_62, xw_X11_far_0, xw_X11_far_12, zw_lit, xB_c, xB_s, xB_n, i1_c, j2_c, k1_c, jJ_e, xlg, xls, xla, xpd, ppush, zw_m1, zw_m2, zw_m3, gf_1_8, gf_11_0, pf_1_8, tg_11_0, tg_1_8, gv_1_8, gv_0_0, xD1, xD2, xD3, xD4, xD5, xD6, xb1_0, q, q0, q1, q2, q3] at h
    obtain ⟨r, H1, ⟨rfl, rfl⟩, h⟩ := xc_use h (sp_nd 5 (H 1 8) 0 0 H (by omega) h8)
    refine ⟨_, _, h, Or.inl ⟨q, ?_, ?_⟩⟩
    · rw [x1.1.1.2.2.2.2.1]
    · have na := nd_at (H := H) (k := 5) (a := H 1 8) (b := 0) (d := 0) h8
      have st := x1.1.1.2.2
      obtain ⟨s2, s3, s4, s5, s6, s7, s8, s9⟩ := id st
      have n1 : ndHx H 5 (H 1 8) 0 0 1 = H 1 := nd_ne h8 (by decide) (by omega) (by decide) (by decide) (by decide)
      refine CD_set hR (fun c c1 => xp_ne c1) (fun i hi => by rw [xp_at, if_neg (by omega), n1]) (fun i hi => if_neg (by omega)) ?_ ?_ ?_
      · simp only [xp_at, n1, xup]
        simp [s3, s4, s5, s6, s7, s8, s9]
      · refine OKR_set ok0 (by decide) (by unfold zIn; omega) ?_
        have := ok0.2.2.1
        unfold OKS at this
        unfold OKS xup
        simp
        omega
      · unfold DD
        rw [na.2.2.1, na.2.2.2.1, na.2.2.2.2.1, na.2.2.2.2.2.1]
        refine Or.inr (Or.inr (Or.inr (Or.inr (Or.inr (Or.inl ⟨rfl, ?_⟩)))))
        have e : xup (xup (S 0) 4 v) 4 (H 1 8) = S 0 := by
          funext j
          unfold xup
          split
          · rename_i j3
            rw [j3]
            exact st.2.2.1.symm
          · rfl
        rw [e]
        exact REq_refl _
  · by_cases q0 : 0 ≤ v
    · have q1 : ¬ v ≤ 24 := by omega
      have q2 : ¬ v < 0 := by omega
      have q3 : 24 < v := by omega
      have h := call_runP 3 vm_X11_far h
      have h := xw_top (hd := []) 4 xD6_ok xc_X11_far xa_X11_far (t := 0) rfl h
      simp (maxDischargeDepth := 12) -implicitDefEqProofs [vb_X11_far_0, vb_X11_far_12, xI_0, xI_1, xI_3, xI_7, xI_8, xI_35, xI_38, xI_49, xI_50, xI_60, xI_61, xI_62, xw_X11_far_0, xw_X11_far_12, zw_lit, xB_c, xB_s, xB_n, i1_c, j2_c, k1_c, jJ_e, xlg, xls, xla, xpd, ppush, zw_m1, zw_m2, zw_m3, gf_1_8, gf_11_0, pf_1_8, tg_11_0, tg_1_8, gv_1_8, gv_0_0, xD1, xD2, xD3, xD4, xD5, xD6, xb1_0, q0, q1, q2, q3] at h
      exact ⟨_, _, h, Or.inr ⟨q, rfl, rfl⟩⟩
    · have q2 : v < 0 := by omega
      have h := call_runP 3 vm_X11_far h
      have h := xw_top (hd := []) 4 xD6_ok xc_X11_far xa_X11_far (t := 0) rfl h
      simp (maxDischargeDepth := 12) -implicitDefEqProofs [vb_X11_far_0, vb_X11_far_12, xI_0, xI_1, xI_3, xI_7, xI_8, xI_35, xI_38, xI_49, xI_50, xI_60, xI_61, xI_62, xw_X11_far_0, xw_X11_far_12, zw_lit, xB_c, xB_s, xB_n, i1_c, j2_c, k1_c, jJ_e, xlg, xls, xla, xpd, ppush, zw_m1, zw_m2, zw_m3, gf_1_8, gf_11_0, pf_1_8, tg_11_0, tg_1_8, gv_1_8, gv_0_0, xD1, xD2, xD3, xD4, xD5, xD6, xb1_0, q0, q2] at h
      exact ⟨_, _, h, Or.inr ⟨q, rfl, rfl⟩⟩
set_option maxRecDepth 100000 in
theorem sp_c_pack (v : Int) (S : Int → Int → Int) (n : Int) (H : PH) (hR : RC H S n) : SPEC 126 [(2, 0), (0, v)] H (fun r H' => ((1 ≤ v ∧ v ≤ 9999) ∧ r = some (0, S 0 5) ∧ CD H H' S n (xup (S 0) 5 v)) ∨ (¬ (1 ≤ v ∧ v ≤ 9999) ∧ r = some (0, -1) ∧ H' = H)) := by
  intro E n' res h
  obtain ⟨x1, x2, ld, x4, h8, x6, x7⟩ := id hR
  have ok0 := x6 0 (by decide) x4.1.1
  have lx := dnx_in h8
  by_cases q : 1 ≤ v ∧ v ≤ 9999
  · have q0 := q.1
    have q1 := q.2
    have q2 : ¬ v < 1 := by omega
    have q3 : ¬ 9999 < v := by omega
    have h := call_runP 3 vm_X11_pack h
    have h := xw_top (hd := []) 4 xD6_ok xc_X11_pack xa_X11_pack (t := 0) rfl h
    simp (maxDischargeDepth := 12) -implicitDefEqProofs [vb_X11_pack_0, vb_X11_pack_13, xI_0, xI_1, xI_3, xI_7, xI_8, xI_9, xI_35, xI_38, xI_49, xI_50, xI_60, xI_61, xI_62, xw_X11_pack_0, xw_X11_pack_13, zw_lit, xB_c, xB_s, xB_n, i1_c, j2_c, k1_c, jJ_e, xlg, xls, xla, xpd, ppush, zw_m1, zw_m2, zw_m3, gf_1_9, gf_11_0, pf_1_9, tg_11_0, tg_1_9, gv_1_9, gv_0_0, xD1, xD2, xD3, xD4, xD5, xD6, xb1_0, q, q0, q1, q2, q3] at h
    obtain ⟨r, H1, ⟨rfl, rfl⟩, h⟩ := xc_use h (sp_nd 6 (H 1 9) 0 0 H (by omega) h8)
    refine ⟨_, _, h, Or.inl ⟨q, ?_, ?_⟩⟩
    · rw [x1.1.1.2.2.2.2.2.1]
    · have na := nd_at (H := H) (k := 6) (a := H 1 9) (b := 0) (d := 0) h8
      have st := x1.1.1.2.2
      obtain ⟨s2, s3, s4, s5, s6, s7, s8, s9⟩ := id st
      have n1 : ndHx H 6 (H 1 9) 0 0 1 = H 1 := nd_ne h8 (by decide) (by omega) (by decide) (by decide) (by decide)
      refine CD_set hR (fun c c1 => xp_ne c1) (fun i hi => by rw [xp_at, if_neg (by omega), n1]) (fun i hi => if_neg (by omega)) ?_ ?_ ?_
      · simp only [xp_at, n1, xup]
        simp [s3, s4, s5, s6, s7, s8, s9]
      · refine OKR_set ok0 (by decide) (by unfold zIn; omega) ?_
        have := ok0.2.2.1
        unfold OKS at this
        unfold OKS xup
        simp
        omega
      · unfold DD
        rw [na.2.2.1, na.2.2.2.1, na.2.2.2.2.1, na.2.2.2.2.2.1]
        refine Or.inr (Or.inr (Or.inr (Or.inr (Or.inr (Or.inr (Or.inl ⟨rfl, ?_⟩))))))
        have e : xup (xup (S 0) 5 v) 5 (H 1 9) = S 0 := by
          funext j
          unfold xup
          split
          · rename_i j3
            rw [j3]
            exact st.2.2.2.1.symm
          · rfl
        rw [e]
        exact REq_refl _
  · by_cases q0 : 1 ≤ v
    · have q1 : ¬ v ≤ 9999 := by omega
      have q2 : ¬ v < 1 := by omega
      have q3 : 9999 < v := by omega
      have h := call_runP 3 vm_X11_pack h
      have h := xw_top (hd := []) 4 xD6_ok xc_X11_pack xa_X11_pack (t := 0) rfl h
      simp (maxDischargeDepth := 12) -implicitDefEqProofs [vb_X11_pack_0, vb_X11_pack_13, xI_0, xI_1, xI_3, xI_7, xI_8, xI_9, xI_35, xI_38, xI_49, xI_50, xI_60, xI_61, xI_62, xw_X11_pack_0, xw_X11_pack_13, zw_lit, xB_c, xB_s, xB_n, i1_c, j2_c, k1_c, jJ_e, xlg, xls, xla, xpd, ppush, zw_m1, zw_m2, zw_m3, gf_1_9, gf_11_0, pf_1_9, tg_11_0, tg_1_9, gv_1_9, gv_0_0, xD1, xD2, xD3, xD4, xD5, xD6, xb1_0, q0, q1, q2, q3] at h
      exact ⟨_, _, h, Or.inr ⟨q, rfl, rfl⟩⟩
    · have q2 : v < 1 := by omega
      have h := call_runP 3 vm_X11_pack h
      have h := xw_top (hd := []) 4 xD6_ok xc_X11_pack xa_X11_pack (t := 0) rfl h
      simp (maxDischargeDepth := 12) -implicitDefEqProofs [vb_X11_pack_0, vb_X11_pack_13, xI_0, xI_1, xI_3, xI_7, xI_8, xI_9, xI_35, xI_38, xI_49, xI_50, xI_60, xI_61, xI_62, xw_X11_pack_0, xw_X11_pack_13, zw_lit, xB_c, xB_s, xB_n, i1_c, j2_c, k1_c, jJ_e, xlg, xls, xla, xpd, ppush, zw_m1, zw_m2, zw_m3, gf_1_9, gf_11_0, pf_1_9, tg_11_0, tg_1_9, gv_1_9, gv_0_0, xD1, xD2, xD3, xD4, xD5, xD6, xb1_0, q0, q2] at h
      exact ⟨_, _, h, Or.inr ⟨q, rfl, rfl⟩⟩
