def xm_X12_readBill : List xbT := [(0, vb_X12_readBill_0, some 19), (19, vb_X12_readBill_19, some 43), (43, vb_X12_readBill_43, some 66), (66, vb_X12_readBill_66, some 82), (82, vb_X12_readBill_82, some 85), (85, vb_X12_readBill_85, some 125), (125, vb_X12_readBill_125, some 131), (131, vb_X12_readBill_131, some 148), (148, vb_X12_readBill_148, some 150), (150, vb_X12_readBill_150, some 180), (180, vb_X12_readBill_180, some 182), (182, vb_X12_readBill_182, none)]
theorem xc_X12_readBill : xOK kd_X12_readBill xm_X12_readBill := ⟨ve_X12_readBill_0, ve_X12_readBill_19, ve_X12_readBill_43, ve_X12_readBill_66, ve_X12_readBill_82, ve_X12_readBill_85, ve_X12_readBill_125, ve_X12_readBill_131, ve_X12_readBill_148, ve_X12_readBill_150, ve_X12_readBill_180, ve_X12_readBill_182, trivial⟩
theorem xa_X12_readBill : xm_X12_readBill.all (fun q => aOKb q.2.1 && !q.2.1.isEmpty) = true := by decide +kernel
theorem xw_X12_readBill_0 {E : xE} {res : xR} {N : Nat} {hd : List Nat} {C : xCT} {k : Nat} {L : List Int} {st : List pv} {H : PH} : xW E res N kd_X12_readBill xm_X12_readBill hd C (k + 1) 0 L st H = xB (fun t L st H => if t ∈ hd then xJ E res N kd_X12_readBill t L st H else xW E res N kd_X12_readBill xm_X12_readBill hd C k t L st H) (REPR E res) C (some 19) vb_X12_readBill_0 0 L st H := Eq.trans rfl rfl
theorem xw_X12_readBill_19 {E : xE} {res : xR} {N : Nat} {hd : List Nat} {C : xCT} {k : Nat} {L : List Int} {st : List pv} {H : PH} : xW E res N kd_X12_readBill xm_X12_readBill hd C (k + 1) 19 L st H = xB (fun t L st H => if t ∈ hd then xJ E res N kd_X12_readBill t L st H else xW E res N kd_X12_readBill xm_X12_readBill hd C k t L st H) (REPR E res) C (some 43) vb_X12_readBill_19 19 L st H := Eq.trans rfl rfl
theorem xw_X12_readBill_43 {E : xE} {res : xR} {N : Nat} {hd : List Nat} {C : xCT} {k : Nat} {L : List Int} {st : List pv} {H : PH} : xW E res N kd_X12_readBill xm_X12_readBill hd C (k + 1) 43 L st H = xB (fun t L st H => if t ∈ hd then xJ E res N kd_X12_readBill t L st H else xW E res N kd_X12_readBill xm_X12_readBill hd C k t L st H) (REPR E res) C (some 66) vb_X12_readBill_43 43 L st H := Eq.trans rfl rfl
theorem xw_X12_readBill_66 {E : xE} {res : xR} {N : Nat} {hd : List Nat} {C : xCT} {k : Nat} {L : List Int} {st : List pv} {H : PH} : xW E res N kd_X12_readBill xm_X12_readBill hd C (k + 1) 66 L st H = xB (fun t L st H => if t ∈ hd then xJ E res N kd_X12_readBill t L st H else xW E res N kd_X12_readBill xm_X12_readBill hd C k t L st H) (REPR E res) C (some 82) vb_X12_readBill_66 66 L st H := Eq.trans rfl rfl
theorem xw_X12_readBill_82 {E : xE} {res : xR} {N : Nat} {hd : List Nat} {C : xCT} {k : Nat} {L : List Int} {st : List pv} {H : PH} : xW E res N kd_X12_readBill xm_X12_readBill hd C (k + 1) 82 L st H = xB (fun t L st H => if t ∈ hd then xJ E res N kd_X12_readBill t L st H else xW E res N kd_X12_readBill xm_X12_readBill hd C k t L st H) (REPR E res) C (some 85) vb_X12_readBill_82 82 L st H := Eq.trans rfl rfl
theorem xw_X12_readBill_85 {E : xE} {res : xR} {N : Nat} {hd : List Nat} {C : xCT} {k : Nat} {L : List Int} {st : List pv} {H : PH} : xW E res N kd_X12_readBill xm_X12_readBill hd C (k + 1) 85 L st H = xB (fun t L st H => if t ∈ hd then xJ E res N kd_X12_readBill t L st H else xW E res N kd_X12_readBill xm_X12_readBill hd C k t L st H) (REPR E res) C (some 125) vb_X12_readBill_85 85 L st H := Eq.trans rfl rfl
theorem xw_X12_readBill_125 {E : xE} {res : xR} {N : Nat} {hd : List Nat} {C : xCT} {k : Nat} {L : List Int} {st : List pv} {H : PH} : xW E res N kd_X12_readBill xm_X12_readBill hd C (k + 1) 125 L st H = xB (fun t L st H => if t ∈ hd then xJ E res N kd_X12_readBill t L st H else xW E res N kd_X12_readBill xm_X12_readBill hd C k t L st H) (REPR E res) C (some 131) vb_X12_readBill_125 125 L st H := Eq.trans rfl rfl
theorem xw_X12_readBill_131 {E : xE} {res : xR} {N : Nat} {hd : List Nat} {C : xCT} {k : Nat} {L : List Int} {st : List pv} {H : PH} : xW E res N kd_X12_readBill xm_X12_readBill hd C (k + 1) 131 L st H = xB (fun t L st H => if t ∈ hd then xJ E res N kd_X12_readBill t L st H else xW E res N kd_X12_readBill xm_X12_readBill hd C k t L st H) (REPR E res) C (some 148) vb_X12_readBill_131 131 L st H := Eq.trans rfl rfl
theorem xw_X12_readBill_148 {E : xE} {res : xR} {N : Nat} {hd : List Nat} {C : xCT} {k : Nat} {L : List Int} {st : List pv} {H : PH} : xW E res N kd_X12_readBill xm_X12_readBill hd C (k + 1) 148 L st H = xB (fun t L st H => if t ∈ hd then xJ E res N kd_X12_readBill t L st H else xW E res N kd_X12_readBill xm_X12_readBill hd C k t L st H) (REPR E res) C (some 150) vb_X12_readBill_148 148 L st H := Eq.trans rfl rfl
theorem xw_X12_readBill_150 {E : xE} {res : xR} {N : Nat} {hd : List Nat} {C : xCT} {k : Nat} {L : List Int} {st : List pv} {H : PH} : xW E res N kd_X12_readBill xm_X12_readBill hd C (k + 1) 150 L st H = xB (fun t L st H => if t ∈ hd then xJ E res N kd_X12_readBill t L st H else xW E res N kd_X12_readBill xm_X12_readBill hd C k t L st H) (REPR E res) C (some 180) vb_X12_readBill_150 150 L st H := Eq.trans rfl rfl
theorem xw_X12_readBill_180 {E : xE} {res : xR} {N : Nat} {hd : List Nat} {C : xCT} {k : Nat} {L : List Int} {st : List pv} {H : PH} : xW E res N kd_X12_readBill xm_X12_readBill hd C (k + 1) 180 L st H = xB (fun t L st H => if t ∈ hd then xJ E res N kd_X12_readBill t L st H else xW E res N kd_X12_readBill xm_X12_readBill hd C k t L st H) (REPR E res) C (some 182) vb_X12_readBill_180 180 L st H := Eq.trans rfl rfl
theorem xw_X12_readBill_182 {E : xE} {res : xR} {N : Nat} {hd : List Nat} {C : xCT} {k : Nat} {L : List Int} {st : List pv} {H : PH} : xW E res N kd_X12_readBill xm_X12_readBill hd C (k + 1) 182 L st H = xB (fun t L st H => if t ∈ hd then xJ E res N kd_X12_readBill t L st H else xW E res N kd_X12_readBill xm_X12_readBill hd C k t L st H) (REPR E res) C (none) vb_X12_readBill_182 182 L st H := Eq.trans rfl rfl
def xm_X12_readCouple : List xbT := [(0, vb_X12_readCouple_0, some 19), (19, vb_X12_readCouple_19, some 50), (50, vb_X12_readCouple_50, some 83), (83, vb_X12_readCouple_83, some 109), (109, vb_X12_readCouple_109, some 120), (120, vb_X12_readCouple_120, none)]
theorem xc_X12_readCouple : xOK kd_X12_readCouple xm_X12_readCouple := ⟨ve_X12_readCouple_0, ve_X12_readCouple_19, ve_X12_readCouple_50, ve_X12_readCouple_83, ve_X12_readCouple_109, ve_X12_readCouple_120, trivial⟩
theorem xa_X12_readCouple : xm_X12_readCouple.all (fun q => aOKb q.2.1 && !q.2.1.isEmpty) = true := by decide +kernel
theorem xw_X12_readCouple_0 {E : xE} {res : xR} {N : Nat} {hd : List Nat} {C : xCT} {k : Nat} {L : List Int} {st : List pv} {H : PH} : xW E res N kd_X12_readCouple xm_X12_readCouple hd C (k + 1) 0 L st H = xB (fun t L st H => if t ∈ hd then xJ E res N kd_X12_readCouple t L st H else xW E res N kd_X12_readCouple xm_X12_readCouple hd C k t L st H) (REPR E res) C (some 19) vb_X12_readCouple_0 0 L st H := Eq.trans rfl rfl
theorem xw_X12_readCouple_19 {E : xE} {res : xR} {N : Nat} {hd : List Nat} {C : xCT} {k : Nat} {L : List Int} {st : List pv} {H : PH} : xW E res N kd_X12_readCouple xm_X12_readCouple hd C (k + 1) 19 L st H = xB (fun t L st H => if t ∈ hd then xJ E res N kd_X12_readCouple t L st H else xW E res N kd_X12_readCouple xm_X12_readCouple hd C k t L st H) (REPR E res) C (some 50) vb_X12_readCouple_19 19 L st H := Eq.trans rfl rfl
theorem xw_X12_readCouple_50 {E : xE} {res : xR} {N : Nat} {hd : List Nat} {C : xCT} {k : Nat} {L : List Int} {st : List pv} {H : PH} : xW E res N kd_X12_readCouple xm_X12_readCouple hd C (k + 1) 50 L st H = xB (fun t L st H => if t ∈ hd then xJ E res N kd_X12_readCouple t L st H else xW E res N kd_X12_readCouple xm_X12_readCouple hd C k t L st H) (REPR E res) C (some 83) vb_X12_readCouple_50 50 L st H := Eq.trans rfl rfl
theorem xw_X12_readCouple_83 {E : xE} {res : xR} {N : Nat} {hd : List Nat} {C : xCT} {k : Nat} {L : List Int} {st : List pv} {H : PH} : xW E res N kd_X12_readCouple xm_X12_readCouple hd C (k + 1) 83 L st H = xB (fun t L st H => if t ∈ hd then xJ E res N kd_X12_readCouple t L st H else xW E res N kd_X12_readCouple xm_X12_readCouple hd C k t L st H) (REPR E res) C (some 109) vb_X12_readCouple_83 83 L st H := Eq.trans rfl rfl
theorem xw_X12_readCouple_109 {E : xE} {res : xR} {N : Nat} {hd : List Nat} {C : xCT} {k : Nat} {L : List Int} {st : List pv} {H : PH} : xW E res N kd_X12_readCouple xm_X12_readCouple hd C (k + 1) 109 L st H = xB (fun t L st H => if t ∈ hd then xJ E res N kd_X12_readCouple t L st H else xW E res N kd_X12_readCouple xm_X12_readCouple hd C k t L st H) (REPR E res) C (some 120) vb_X12_readCouple_109 109 L st H := Eq.trans rfl rfl
theorem xw_X12_readCouple_120 {E : xE} {res : xR} {N : Nat} {hd : List Nat} {C : xCT} {k : Nat} {L : List Int} {st : List pv} {H : PH} : xW E res N kd_X12_readCouple xm_X12_readCouple hd C (k + 1) 120 L st H = xB (fun t L st H => if t ∈ hd then xJ E res N kd_X12_readCouple t L st H else xW E res N kd_X12_readCouple xm_X12_readCouple hd C k t L st H) (REPR E res) C (none) vb_X12_readCouple_120 120 L st H := Eq.trans rfl rfl
def xm_X12_readLine : List xbT := [(0, vb_X12_readLine_0, some 19), (19, vb_X12_readLine_19, some 44), (44, vb_X12_readLine_44, some 73), (73, vb_X12_readLine_73, some 75), (75, vb_X12_readLine_75, some 127), (127, vb_X12_readLine_127, some 129), (129, vb_X12_readLine_129, none)]
theorem xc_X12_readLine : xOK kd_X12_readLine xm_X12_readLine := ⟨ve_X12_readLine_0, ve_X12_readLine_19, ve_X12_readLine_44, ve_X12_readLine_73, ve_X12_readLine_75, ve_X12_readLine_127, ve_X12_readLine_129, trivial⟩
theorem xa_X12_readLine : xm_X12_readLine.all (fun q => aOKb q.2.1 && !q.2.1.isEmpty) = true := by decide +kernel
theorem xw_X12_readLine_0 {E : xE} {res : xR} {N : Nat} {hd : List Nat} {C : xCT} {k : Nat} {L : List Int} {st : List pv} {H : PH} : xW E res N kd_X12_readLine xm_X12_readLine hd C (k + 1) 0 L st H = xB (fun t L st H => if t ∈ hd then xJ E res N kd_X12_readLine t L st H else xW E res N kd_X12_readLine xm_X12_readLine hd C k t L st H) (REPR E res) C (some 19) vb_X12_readLine_0 0 L st H := Eq.trans rfl rfl
theorem xw_X12_readLine_19 {E : xE} {res : xR} {N : Nat} {hd : List Nat} {C : xCT} {k : Nat} {L : List Int} {st : List pv} {H : PH} : xW E res N kd_X12_readLine xm_X12_readLine hd C (k + 1) 19 L st H = xB (fun t L st H => if t ∈ hd then xJ E res N kd_X12_readLine t L st H else xW E res N kd_X12_readLine xm_X12_readLine hd C k t L st H) (REPR E res) C (some 44) vb_X12_readLine_19 19 L st H := Eq.trans rfl rfl
theorem xw_X12_readLine_44 {E : xE} {res : xR} {N : Nat} {hd : List Nat} {C : xCT} {k : Nat} {L : List Int} {st : List pv} {H : PH} : xW E res N kd_X12_readLine xm_X12_readLine hd C (k + 1) 44 L st H = xB (fun t L st H => if t ∈ hd then xJ E res N kd_X12_readLine t L st H else xW E res N kd_X12_readLine xm_X12_readLine hd C k t L st H) (REPR E res) C (some 73) vb_X12_readLine_44 44 L st H := Eq.trans rfl rfl
theorem xw_X12_readLine_73 {E : xE} {res : xR} {N : Nat} {hd : List Nat} {C : xCT} {k : Nat} {L : List Int} {st : List pv} {H : PH} : xW E res N kd_X12_readLine xm_X12_readLine hd C (k + 1) 73 L st H = xB (fun t L st H => if t ∈ hd then xJ E res N kd_X12_readLine t L st H else xW E res N kd_X12_readLine xm_X12_readLine hd C k t L st H) (REPR E res) C (some 75) vb_X12_readLine_73 73 L st H := Eq.trans rfl rfl
theorem xw_X12_readLine_75 {E : xE} {res : xR} {N : Nat} {hd : List Nat} {C : xCT} {k : Nat} {L : List Int} {st : List pv} {H : PH} : xW E res N kd_X12_readLine xm_X12_readLine hd C (k + 1) 75 L st H = xB (fun t L st H => if t ∈ hd then xJ E res N kd_X12_readLine t L st H else xW E res N kd_X12_readLine xm_X12_readLine hd C k t L st H) (REPR E res) C (some 127) vb_X12_readLine_75 75 L st H := Eq.trans rfl rfl
theorem xw_X12_readLine_127 {E : xE} {res : xR} {N : Nat} {hd : List Nat} {C : xCT} {k : Nat} {L : List Int} {st : List pv} {H : PH} : xW E res N kd_X12_readLine xm_X12_readLine hd C (k + 1) 127 L st H = xB (fun t L st H => if t ∈ hd then xJ E res N kd_X12_readLine t L st H else xW E res N kd_X12_readLine xm_X12_readLine hd C k t L st H) (REPR E res) C (some 129) vb_X12_readLine_127 127 L st H := Eq.trans rfl rfl
theorem xw_X12_readLine_129 {E : xE} {res : xR} {N : Nat} {hd : List Nat} {C : xCT} {k : Nat} {L : List Int} {st : List pv} {H : PH} : xW E res N kd_X12_readLine xm_X12_readLine hd C (k + 1) 129 L st H = xB (fun t L st H => if t ∈ hd then xJ E res N kd_X12_readLine t L st H else xW E res N kd_X12_readLine xm_X12_readLine hd C k t L st H) (REPR E res) C (none) vb_X12_readLine_129 129 L st H := Eq.trans rfl rfl
/-! THE TEXT: its items, as both sides take them -/
section TX
variable (sz : Int) (w : Int → Int) (a : Int) (B : Int → Int)
/-- a bill has this mark: r signs from place p on -/
def tldP (p r : Int) : Prop := ∃ b, 0 ≤ b ∧ b < B 0 ∧ B (92 + 26 * b) = r ∧ ∀ i, 0 ≤ i → i < r → B (92 + 26 * b + 1 + i) = nxF sz w (p + i)
def isA (c : Int) : Prop := 49 ≤ c ∧ c ≤ 57
-- a bill: its signs, the place behind them, its count and the place behind, its worth and the place behind
def b1F : Int := rnF sz w 0 9 (a + 1)
def b2F : Int := a + 1 + b1F sz w a
def b3F : Int × Int := dgF sz w 3 (b2F sz w a + 1) 0
def b4F : Int × Int := dgF sz w 4 ((b3F sz w a).2 + 1) 0
def blK : Prop := ¬ B 0 = 12 ∧ (1 ≤ b1F sz w a ∧ b1F sz w a ≤ 8) ∧ ¬ tldP sz w B (a + 1) (b1F sz w a) ∧ nxF sz w (b2F sz w a) = 58 ∧ isA (nxF sz w (b2F sz w a + 1)) ∧ nxF sz w (b3F sz w a).2 = 42 ∧ isA (nxF sz w ((b3F sz w a).2 + 1)) ∧ nxF sz w (b4F sz w a).2 = 59
def blE : Int := (b4F sz w a).2 + 1
def blR : Int → Int := fun j => if j = 0 then B 0 + 1 else if 92 + 26 * B 0 ≤ j ∧ j < 92 + 26 * B 0 + 26 then (if j = 92 + 26 * B 0 then b1F sz w a else if j < 92 + 26 * B 0 + 1 + b1F sz w a then nxF sz w (a + 1 + (j - 92 - 26 * B 0 - 1)) else if j = 92 + 26 * B 0 + 9 then (b3F sz w a).1 else if j = 92 + 26 * B 0 + 10 then (b4F sz w a).1 else 0) else B j
-- a couple
def sgP (c : Int) : Prop := (48 ≤ c ∧ c ≤ 57) ∨ (65 ≤ c ∧ c ≤ 90)
def cpK : Prop := ¬ B 1 = 8 ∧ sgP (nxF sz w (a + 1)) ∧ sgP (nxF sz w (a + 2)) ∧ ¬ nxF sz w (a + 1) = nxF sz w (a + 2) ∧ ¬ likA B (nxF sz w (a + 1)) (nxF sz w (a + 2)) = true ∧ nxF sz w (a + 3) = 59
def cpR : Int → Int := xup (xup (xup B (76 + 2 * B 1) (nxF sz w (a + 1))) (76 + 2 * B 1 + 1) (nxF sz w (a + 2))) 1 (B 1 + 1)
-- a line: its signs, the place behind them, its number and the place behind
def l1F : Int := rnF sz w 1 9 (a + 5)
def l2F : Int := a + 5 + l1F sz w a
def l3F : Int × Int := dgF sz w 3 (l2F sz w a + 1) 0
def lnK : Prop := ¬ B 2 = 60 ∧ (48 ≤ nxF sz w (a + 1) ∧ nxF sz w (a + 1) ≤ 49) ∧ nxF sz w (a + 2) = 64 ∧ (48 ≤ nxF sz w (a + 3) ∧ nxF sz w (a + 3) ≤ 52) ∧ nxF sz w (a + 4) = 58 ∧ (1 ≤ l1F sz w a ∧ l1F sz w a ≤ 8) ∧ nxF sz w (l2F sz w a) = 35 ∧ isA (nxF sz w (l2F sz w a + 1)) ∧ nxF sz w (l3F sz w a).2 = 59
def lnE : Int := (l3F sz w a).2 + 1
def lnR : Int → Int := fun j => if j = 2 then B 2 + 1 else if j = 404 + 12 * B 2 then nxF sz w (a + 1) - 48 else if j = 404 + 12 * B 2 + 1 then nxF sz w (a + 3) - 48 else if j = 404 + 12 * B 2 + 2 then (l3F sz w a).1 else if j = 404 + 12 * B 2 + 3 then l1F sz w a else if 404 + 12 * B 2 + 4 ≤ j ∧ j < 404 + 12 * B 2 + 4 + l1F sz w a then nxF sz w (a + 5 + (j - 404 - 12 * B 2 - 4)) else B j
end TX
/-- what the model's reading of an item leaves as it is -/
def PQ (H H' : PH) : Prop := (∀ c, ¬ c = 590 → ¬ c = 591 → H' c = H c) ∧ ∀ i, ¬ i = 5 → ¬ i = 6 → ¬ i = 7 → H' 590 i = H 590 i
theorem PQ_refl {H : PH} : PQ H H := ⟨fun _ _ _ => rfl, fun _ _ _ _ => rfl⟩
theorem PQ_trans {H H1 H2 : PH} (a : PQ H H1) (b : PQ H1 H2) : PQ H H2 := ⟨fun c h1 h2 => (b.1 c h1 h2).trans (a.1 c h1 h2), fun i h1 h2 h3 => (b.2 i h1 h2 h3).trans (a.2 i h1 h2 h3)⟩
theorem PQ_up {H : PH} {i v : Int} (h : i = 5 ∨ i = 6 ∨ i = 7) : PQ H (pup H 590 i v) := ⟨fun c h1 _ => xp_ne h1, fun j h1 h2 h3 => by rw [xp_at, if_neg (by omega)]⟩
theorem PQ_row {H : PH} {i v : Int} : PQ H (pup H 591 i v) := ⟨fun c _ h2 => xp_ne h2, fun j _ _ _ => congrFun (xp_ne (by decide)) j⟩
theorem PQ_M {H H' : PH} (h : PMt H H') : PQ H H' := ⟨fun c h1 _ => h.1 c h1, h.2⟩
theorem PQ_N {H H' : PH} (h : PN H H') : PQ H H' := ⟨h.1, fun i h1 h2 _ => h.2 i h1 h2⟩
theorem TMt_row {sz a : Int} {w : Int → Int} {H : PH} {i v : Int} (h : TMt sz w a H) : TMt sz w a (pup H 591 i v) := TMt_eq h (congrFun (xp_ne (by decide)) 4) (xp_ne (by decide)) ((congrFun (xp_ne (by decide)) 5).trans h.2.2.1) ⟨h.2.2.2.1, h.2.2.2.2.1⟩
theorem pupR {H : PH} {i v : Int} : pup H 591 i v 591 = xup (H 591) i v := funext fun j => by rw [xp_at]; rfl
/-- the places of a bill made 0 -/
def zrR (B : Int → Int) (x k : Int) : Int → Int := fun j => if x ≤ j ∧ j < x + k then 0 else B j
theorem lp_rb0 (b x q : Int) (hx : 0 ≤ x ∧ x ≤ 1000) (bg : Int) (B : Int → Int) (sz a : Int) (w : Int → Int) {E : xE} {res : xR} : ∀ (n : Nat) (k : Int) (H : PH), 0 ≤ k → k ≤ 26 → TMt sz w a H → H 591 = zrR B x k → RUN E res n kd_X12_readBill (zget kd_X12_readBill 43) 43 [590, bg, b, x, q, k] [] H → ∃ H' : PH, PQ H H' ∧ TMt sz w a H' ∧ H' 591 = zrR B x 26 ∧ xJ E res n kd_X12_readBill 66 [590, bg, b, x, q, 26] [] H' := by
  intro n
  induction n using Nat.strongRecOn with
  | _ n ih =>
    intro k H k0 k1 hT hR h
    have z1 : zw (k + 1) = k + 1 := zw_lit (by omega) (by omega)
    have z2 : zw (x + k) = x + k := zw_lit (by omega) (by omega)
    have h := xw_top (hd := [43, 66]) 14 xD6_ok xc_X12_readBill xa_X12_readBill (t := 43) rfl h
    simp (maxDischargeDepth := 12) -implicitDefEqProofs [vb_X12_readBill_0, vb_X12_readBill_19, vb_X12_readBill_43, vb_X12_readBill_66, vb_X12_readBill_82, vb_X12_readBill_85, vb_X12_readBill_125, vb_X12_readBill_131, vb_X12_readBill_148, vb_X12_readBill_150, vb_X12_readBill_180, vb_X12_readBill_182, xI_0, xI_1, xI_3, xI_6, xI_7, xI_8, xI_14, xI_33, xI_36, xI_37, xI_38, xI_44, xI_46, xI_49, xI_50, xI_51, xI_52, xI_60, xI_61, xI_62, xw_X12_readBill_0, xw_X12_readBill_19, xw_X12_readBill_43, xw_X12_readBill_66, xw_X12_readBill_82, xw_X12_readBill_85, xw_X12_readBill_125, xw_X12_readBill_131, xw_X12_readBill_148, xw_X12_readBill_150, xw_X12_readBill_180, xw_X12_readBill_182, zw_lit, xB_c, xB_s, xB_n, i1_c, j2_c, k1_c, jJ_e, xlg, xls, xla, xpd, ppush, zw_m1, zw_m2, zw_m3, gf_12_0, gf_12_5, gf_12_7, pf_12_5, tg_12_0, tg_12_5, tg_12_7, gv_590_0, gv_590_5, gv_590_7, xD1, xD2, xD3, xD4, xD5, xD6, xb1_0, z1, z2] at h
    rcases h with ⟨c, h⟩ | ⟨c, h⟩
    · have e : k = 26 := by omega
      subst e
      exact ⟨H, PQ_refl, hT, hR, h⟩
    · obtain ⟨m, hm, h⟩ := h
      obtain ⟨H', g1, g2, g3, g4⟩ := ih m hm (k + 1) _ (by omega) (by omega) (TMt_row hT) (by
        rw [pupR, hR]
        funext j
        unfold xup zrR
        by_cases e : j = x + k
        · rw [if_pos e, if_pos (by omega)]
        · rw [if_neg e]
          by_cases f : x ≤ j ∧ j < x + k
          · rw [if_pos f, if_pos (by omega)]
          · rw [if_neg f, if_neg (by omega)]) h
      exact ⟨H', PQ_trans PQ_row g1, g2, g3, xJ_up g4 (by omega)⟩
/-- no bill of the first has this mark -/
def tlN (B : Int → Int) (x k : Int) : Prop := ∀ j, 0 ≤ j → j < k → ¬ smA B x (x + 1) (92 + 26 * j) (92 + 26 * j + 1)
theorem lp_rbt (b x q : Int) (hb : 0 ≤ b ∧ b < 12) (hx : x = 92 + 26 * b) (bg : Int) (B : Int → Int) (hB : 0 ≤ B x ∧ B x ≤ 8) (sz a : Int) (w : Int → Int) {E : xE} {res : xR} : ∀ (n : Nat) (k : Int) (H : PH), 0 ≤ k → k ≤ b → TMt sz w a H → H 591 = B → tlN B x k → RUN E res n kd_X12_readBill (zget kd_X12_readBill 85) 85 [590, bg, b, x, q, k] [] H → (¬ tlN B x b ∧ ∃ H', PQ H H' ∧ REPR E res (some (0, 0)) H') ∨ (tlN B x b ∧ xJ E res n kd_X12_readBill 131 [590, bg, b, x, q, b] [] H) := by
  intro n
  induction n using Nat.strongRecOn with
  | _ n ih =>
    intro k H k0 k1 hT hR hN h
    have z1 : zw (k + 1) = k + 1 := zw_lit (by omega) (by omega)
    have z2 : zw (x + 1) = x + 1 := zw_lit (by omega) (by omega)
    have z3 : zw (26 * k) = 26 * k := zw_lit (by omega) (by omega)
    have z4 : zw (92 + 26 * k) = 92 + 26 * k := zw_lit (by omega) (by omega)
    have z5 : zw (92 + 26 * k + 1) = 92 + 26 * k + 1 := zw_lit (by omega) (by omega)
    have z6 : zw x = x := zw_lit (by omega) (by omega)
    by_cases c : b ≤ k
    · have e : k = b := by omega
      subst e
      have h := xw_top (hd := [85, 131]) 14 xD6_ok xc_X12_readBill xa_X12_readBill (t := 85) rfl h
      simp (maxDischargeDepth := 12) -implicitDefEqProofs [vb_X12_readBill_0, vb_X12_readBill_19, vb_X12_readBill_43, vb_X12_readBill_66, vb_X12_readBill_82, vb_X12_readBill_85, vb_X12_readBill_125, vb_X12_readBill_131, vb_X12_readBill_148, vb_X12_readBill_150, vb_X12_readBill_180, vb_X12_readBill_182, xI_0, xI_1, xI_3, xI_6, xI_7, xI_8, xI_14, xI_33, xI_36, xI_37, xI_38, xI_44, xI_46, xI_49, xI_50, xI_51, xI_52, xI_60, xI_61, xI_62, xw_X12_readBill_0, xw_X12_readBill_19, xw_X12_readBill_43, xw_X12_readBill_66, xw_X12_readBill_82, xw_X12_readBill_85, xw_X12_readBill_125, xw_X12_readBill_131, xw_X12_readBill_148, xw_X12_readBill_150, xw_X12_readBill_180, xw_X12_readBill_182, zw_lit, xB_c, xB_s, xB_n, i1_c, j2_c, k1_c, jJ_e, xlg, xls, xla, xpd, ppush, zw_m1, zw_m2, zw_m3, gf_12_0, gf_12_5, gf_12_7, pf_12_5, tg_12_0, tg_12_5, tg_12_7, gv_590_0, gv_590_5, gv_590_7, xD1, xD2, xD3, xD4, xD5, xD6, xb1_0] at h
      exact Or.inr ⟨hN, h⟩
    · have h := xw_top (hd := [85, 131]) 14 xD6_ok xc_X12_readBill xa_X12_readBill (t := 85) rfl h
      simp (maxDischargeDepth := 12) -implicitDefEqProofs [vb_X12_readBill_0, vb_X12_readBill_19, vb_X12_readBill_43, vb_X12_readBill_66, vb_X12_readBill_82, vb_X12_readBill_85, vb_X12_readBill_125, vb_X12_readBill_131, vb_X12_readBill_148, vb_X12_readBill_150, vb_X12_readBill_180, vb_X12_readBill_182, xI_0, xI_1, xI_3, xI_6, xI_7, xI_8, xI_14, xI_33, xI_36, xI_37, xI_38, xI_44, xI_46, xI_49, xI_50, xI_51, xI_52, xI_60, xI_61, xI_62, xw_X12_readBill_0, xw_X12_readBill_19, xw_X12_readBill_43, xw_X12_readBill_66, xw_X12_readBill_82, xw_X12_readBill_85, xw_X12_readBill_125, xw_X12_readBill_131, xw_X12_readBill_148, xw_X12_readBill_150, xw_X12_readBill_180, xw_X12_readBill_182, zw_lit, xB_c, xB_s, xB_n, i1_c, j2_c, k1_c, jJ_e, xlg, xls, xla, xpd, ppush, zw_m1, zw_m2, zw_m3, gf_12_0, gf_12_5, gf_12_7, pf_12_5, tg_12_0, tg_12_5, tg_12_7, gv_590_0, gv_590_5, gv_590_7, xD1, xD2, xD3, xD4, xD5, xD6, xb1_0, z1, z2, z3, z4, z5, z6, Int.add_zero] at h
      have h := (h.resolve_left (by omega)).2
      obtain ⟨r, H2, ⟨v, rfl, e9, hv⟩, h⟩ := xc_use h (sp_X12_isSame x (x + 1) (92 + 26 * k) (92 + 26 * k + 1) H (by omega) (by rw [hR]; exact hB))
      rw [e9] at h
      rw [hR] at hv
      rcases hv with ⟨rfl, hv⟩ | ⟨rfl, hv⟩
      · simp (maxDischargeDepth := 12) -implicitDefEqProofs [vb_X12_readBill_0, vb_X12_readBill_19, vb_X12_readBill_43, vb_X12_readBill_66, vb_X12_readBill_82, vb_X12_readBill_85, vb_X12_readBill_125, vb_X12_readBill_131, vb_X12_readBill_148, vb_X12_readBill_150, vb_X12_readBill_180, vb_X12_readBill_182, xI_0, xI_1, xI_3, xI_6, xI_7, xI_8, xI_14, xI_33, xI_36, xI_37, xI_38, xI_44, xI_46, xI_49, xI_50, xI_51, xI_52, xI_60, xI_61, xI_62, xw_X12_readBill_0, xw_X12_readBill_19, xw_X12_readBill_43, xw_X12_readBill_66, xw_X12_readBill_82, xw_X12_readBill_85, xw_X12_readBill_125, xw_X12_readBill_131, xw_X12_readBill_148, xw_X12_readBill_150, xw_X12_readBill_180, xw_X12_readBill_182, zw_lit, xB_c, xB_s, xB_n, i1_c, j2_c, k1_c, jJ_e, xlg, xls, xla, xpd, ppush, zw_m1, zw_m2, zw_m3, gf_12_0, gf_12_5, gf_12_7, pf_12_5, tg_12_0, tg_12_5, tg_12_7, gv_590_0, gv_590_5, gv_590_7, xD1, xD2, xD3, xD4, xD5, xD6, xb1_0] at h
        obtain ⟨r, H2, ⟨rfl, rfl⟩, h⟩ := xc_use h (sp_X12_fails q H)
        simp (maxDischargeDepth := 12) -implicitDefEqProofs [vb_X12_readBill_0, vb_X12_readBill_19, vb_X12_readBill_43, vb_X12_readBill_66, vb_X12_readBill_82, vb_X12_readBill_85, vb_X12_readBill_125, vb_X12_readBill_131, vb_X12_readBill_148, vb_X12_readBill_150, vb_X12_readBill_180, vb_X12_readBill_182, xI_0, xI_1, xI_3, xI_6, xI_7, xI_8, xI_14, xI_33, xI_36, xI_37, xI_38, xI_44, xI_46, xI_49, xI_50, xI_51, xI_52, xI_60, xI_61, xI_62, xw_X12_readBill_0, xw_X12_readBill_19, xw_X12_readBill_43, xw_X12_readBill_66, xw_X12_readBill_82, xw_X12_readBill_85, xw_X12_readBill_125, xw_X12_readBill_131, xw_X12_readBill_148, xw_X12_readBill_150, xw_X12_readBill_180, xw_X12_readBill_182, zw_lit, xB_c, xB_s, xB_n, i1_c, j2_c, k1_c, jJ_e, xlg, xls, xla, xpd, ppush, zw_m1, zw_m2, zw_m3, gf_12_0, gf_12_5, gf_12_7, pf_12_5, tg_12_0, tg_12_5, tg_12_7, gv_590_0, gv_590_5, gv_590_7, xD1, xD2, xD3, xD4, xD5, xD6, xb1_0] at h
        exact Or.inl ⟨fun w => w k k0 (by omega) hv, _, PQ_up (Or.inr (Or.inl rfl)), h⟩
      · simp (maxDischargeDepth := 12) -implicitDefEqProofs [vb_X12_readBill_0, vb_X12_readBill_19, vb_X12_readBill_43, vb_X12_readBill_66, vb_X12_readBill_82, vb_X12_readBill_85, vb_X12_readBill_125, vb_X12_readBill_131, vb_X12_readBill_148, vb_X12_readBill_150, vb_X12_readBill_180, vb_X12_readBill_182, xI_0, xI_1, xI_3, xI_6, xI_7, xI_8, xI_14, xI_33, xI_36, xI_37, xI_38, xI_44, xI_46, xI_49, xI_50, xI_51, xI_52, xI_60, xI_61, xI_62, xw_X12_readBill_0, xw_X12_readBill_19, xw_X12_readBill_43, xw_X12_readBill_66, xw_X12_readBill_82, xw_X12_readBill_85, xw_X12_readBill_125, xw_X12_readBill_131, xw_X12_readBill_148, xw_X12_readBill_150, xw_X12_readBill_180, xw_X12_readBill_182, zw_lit, xB_c, xB_s, xB_n, i1_c, j2_c, k1_c, jJ_e, xlg, xls, xla, xpd, ppush, zw_m1, zw_m2, zw_m3, gf_12_0, gf_12_5, gf_12_7, pf_12_5, tg_12_0, tg_12_5, tg_12_7, gv_590_0, gv_590_5, gv_590_7, xD1, xD2, xD3, xD4, xD5, xD6, xb1_0, z1] at h
        obtain ⟨m, hm, h⟩ := h
        rcases ih m hm (k + 1) _ (by omega) (by omega) hT hR (fun j j0 j1 => by
          by_cases e : j = k
          · rw [e]
            exact hv
          · exact hN j j0 (by omega)) h with g | ⟨g1, g2⟩
        · exact Or.inl g
        · exact Or.inr ⟨g1, xJ_up g2 (by omega)⟩
