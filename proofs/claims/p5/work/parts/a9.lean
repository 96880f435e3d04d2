theorem gf_1_6 : gfOK 1 6 = true := by decide +kernel
theorem gf_4_3 : gfOK 4 3 = true := by decide +kernel
theorem pf_1_198 : pfOK 1 198 = true := by decide +kernel
theorem pf_4_2 : pfOK 4 2 = true := by decide +kernel
theorem pf_4_3 : pfOK 4 3 = true := by decide +kernel
def xm_X4_add : List xbT := [(0, vb_X4_add_0, some 32), (32, vb_X4_add_32, none)]
theorem xc_X4_add : xOK kd_X4_add xm_X4_add := ⟨ve_X4_add_0, ve_X4_add_32, trivial⟩
theorem xa_X4_add : xm_X4_add.all (fun q => aOKb q.2.1 && !q.2.1.isEmpty) = true := by decide +kernel
theorem xw_X4_add_0 {E : xE} {res : xR} {N : Nat} {hd : List Nat} {C : xCT} {k : Nat} {L : List Int} {st : List pv} {H : PH} : xW E res N kd_X4_add xm_X4_add hd C (k + 1) 0 L st H = xB (fun t L st H => if t ∈ hd then xJ E res N kd_X4_add t L st H else xW E res N kd_X4_add xm_X4_add hd C k t L st H) (REPR E res) C (some 32) vb_X4_add_0 0 L st H := Eq.trans rfl rfl
theorem xw_X4_add_32 {E : xE} {res : xR} {N : Nat} {hd : List Nat} {C : xCT} {k : Nat} {L : List Int} {st : List pv} {H : PH} : xW E res N kd_X4_add xm_X4_add hd C (k + 1) 32 L st H = xB (fun t L st H => if t ∈ hd then xJ E res N kd_X4_add t L st H else xW E res N kd_X4_add xm_X4_add hd C k t L st H) (REPR E res) C (none) vb_X4_add_32 32 L st H := Eq.trans rfl rfl
def xm_X4_takeThing : List xbT := [(0, vb_X4_takeThing_0, some 15), (15, vb_X4_takeThing_15, some 24), (24, vb_X4_takeThing_24, some 79), (79, vb_X4_takeThing_79, some 80), (80, vb_X4_takeThing_80, some 81), (81, vb_X4_takeThing_81, some 99), (99, vb_X4_takeThing_99, some 117), (117, vb_X4_takeThing_117, some 135), (135, vb_X4_takeThing_135, none)]
theorem xc_X4_takeThing : xOK kd_X4_takeThing xm_X4_takeThing := ⟨ve_X4_takeThing_0, ve_X4_takeThing_15, ve_X4_takeThing_24, ve_X4_takeThing_79, ve_X4_takeThing_80, ve_X4_takeThing_81, ve_X4_takeThing_99, ve_X4_takeThing_117, ve_X4_takeThing_135, trivial⟩
theorem xa_X4_takeThing : xm_X4_takeThing.all (fun q => aOKb q.2.1 && !q.2.1.isEmpty) = true := by decide +kernel
theorem xw_X4_takeThing_0 {E : xE} {res : xR} {N : Nat} {hd : List Nat} {C : xCT} {k : Nat} {L : List Int} {st : List pv} {H : PH} : xW E res N kd_X4_takeThing xm_X4_takeThing hd C (k + 1) 0 L st H = xB (fun t L st H => if t ∈ hd then xJ E res N kd_X4_takeThing t L st H else xW E res N kd_X4_takeThing xm_X4_takeThing hd C k t L st H) (REPR E res) C (some 15) vb_X4_takeThing_0 0 L st H := Eq.trans rfl rfl
theorem xw_X4_takeThing_15 {E : xE} {res : xR} {N : Nat} {hd : List Nat} {C : xCT} {k : Nat} {L : List Int} {st : List pv} {H : PH} : xW E res N kd_X4_takeThing xm_X4_takeThing hd C (k + 1) 15 L st H = xB (fun t L st H => if t ∈ hd then xJ E res N kd_X4_takeThing t L st H else xW E res N kd_X4_takeThing xm_X4_takeThing hd C k t L st H) (REPR E res) C (some 24) vb_X4_takeThing_15 15 L st H := Eq.trans rfl rfl
theorem xw_X4_takeThing_24 {E : xE} {res : xR} {N : Nat} {hd : List Nat} {C : xCT} {k : Nat} {L : List Int} {st : List pv} {H : PH} : xW E res N kd_X4_takeThing xm_X4_takeThing hd C (k + 1) 24 L st H = xB (fun t L st H => if t ∈ hd then xJ E res N kd_X4_takeThing t L st H else xW E res N kd_X4_takeThing xm_X4_takeThing hd C k t L st H) (REPR E res) C (some 79) vb_X4_takeThing_24 24 L st H := Eq.trans rfl rfl
theorem xw_X4_takeThing_79 {E : xE} {res : xR} {N : Nat} {hd : List Nat} {C : xCT} {k : Nat} {L : List Int} {st : List pv} {H : PH} : xW E res N kd_X4_takeThing xm_X4_takeThing hd C (k + 1) 79 L st H = xB (fun t L st H => if t ∈ hd then xJ E res N kd_X4_takeThing t L st H else xW E res N kd_X4_takeThing xm_X4_takeThing hd C k t L st H) (REPR E res) C (some 80) vb_X4_takeThing_79 79 L st H := Eq.trans rfl rfl
theorem xw_X4_takeThing_80 {E : xE} {res : xR} {N : Nat} {hd : List Nat} {C : xCT} {k : Nat} {L : List Int} {st : List pv} {H : PH} : xW E res N kd_X4_takeThing xm_X4_takeThing hd C (k + 1) 80 L st H = xB (fun t L st H => if t ∈ hd then xJ E res N kd_X4_takeThing t L st H else xW E res N kd_X4_takeThing xm_X4_takeThing hd C k t L st H) (REPR E res) C (some 81) vb_X4_takeThing_80 80 L st H := Eq.trans rfl rfl
theorem xw_X4_takeThing_81 {E : xE} {res : xR} {N : Nat} {hd : List Nat} {C : xCT} {k : Nat} {L : List Int} {st : List pv} {H : PH} : xW E res N kd_X4_takeThing xm_X4_takeThing hd C (k + 1) 81 L st H = xB (fun t L st H => if t ∈ hd then xJ E res N kd_X4_takeThing t L st H else xW E res N kd_X4_takeThing xm_X4_takeThing hd C k t L st H) (REPR E res) C (some 99) vb_X4_takeThing_81 81 L st H := Eq.trans rfl rfl
theorem xw_X4_takeThing_99 {E : xE} {res : xR} {N : Nat} {hd : List Nat} {C : xCT} {k : Nat} {L : List Int} {st : List pv} {H : PH} : xW E res N kd_X4_takeThing xm_X4_takeThing hd C (k + 1) 99 L st H = xB (fun t L st H => if t ∈ hd then xJ E res N kd_X4_takeThing t L st H else xW E res N kd_X4_takeThing xm_X4_takeThing hd C k t L st H) (REPR E res) C (some 117) vb_X4_takeThing_99 99 L st H := Eq.trans rfl rfl
theorem xw_X4_takeThing_117 {E : xE} {res : xR} {N : Nat} {hd : List Nat} {C : xCT} {k : Nat} {L : List Int} {st : List pv} {H : PH} : xW E res N kd_X4_takeThing xm_X4_takeThing hd C (k + 1) 117 L st H = xB (fun t L st H => if t ∈ hd then xJ E res N kd_X4_takeThing t L st H else xW E res N kd_X4_takeThing xm_X4_takeThing hd C k t L st H) (REPR E res) C (some 135) vb_X4_takeThing_117 117 L st H := Eq.trans rfl rfl
theorem xw_X4_takeThing_135 {E : xE} {res : xR} {N : Nat} {hd : List Nat} {C : xCT} {k : Nat} {L : List Int} {st : List pv} {H : PH} : xW E res N kd_X4_takeThing xm_X4_takeThing hd C (k + 1) 135 L st H = xB (fun t L st H => if t ∈ hd then xJ E res N kd_X4_takeThing t L st H else xW E res N kd_X4_takeThing xm_X4_takeThing hd C k t L st H) (REPR E res) C (none) vb_X4_takeThing_135 135 L st H := Eq.trans rfl rfl
def xm_X4_takeProduct : List xbT := [(0, vb_X4_takeProduct_0, some 10), (10, vb_X4_takeProduct_10, some 67), (67, vb_X4_takeProduct_67, none)]
theorem xc_X4_takeProduct : xOK kd_X4_takeProduct xm_X4_takeProduct := ⟨ve_X4_takeProduct_0, ve_X4_takeProduct_10, ve_X4_takeProduct_67, trivial⟩
theorem xa_X4_takeProduct : xm_X4_takeProduct.all (fun q => aOKb q.2.1 && !q.2.1.isEmpty) = true := by decide +kernel
theorem xw_X4_takeProduct_0 {E : xE} {res : xR} {N : Nat} {hd : List Nat} {C : xCT} {k : Nat} {L : List Int} {st : List pv} {H : PH} : xW E res N kd_X4_takeProduct xm_X4_takeProduct hd C (k + 1) 0 L st H = xB (fun t L st H => if t ∈ hd then xJ E res N kd_X4_takeProduct t L st H else xW E res N kd_X4_takeProduct xm_X4_takeProduct hd C k t L st H) (REPR E res) C (some 10) vb_X4_takeProduct_0 0 L st H := Eq.trans rfl rfl
theorem xw_X4_takeProduct_10 {E : xE} {res : xR} {N : Nat} {hd : List Nat} {C : xCT} {k : Nat} {L : List Int} {st : List pv} {H : PH} : xW E res N kd_X4_takeProduct xm_X4_takeProduct hd C (k + 1) 10 L st H = xB (fun t L st H => if t ∈ hd then xJ E res N kd_X4_takeProduct t L st H else xW E res N kd_X4_takeProduct xm_X4_takeProduct hd C k t L st H) (REPR E res) C (some 67) vb_X4_takeProduct_10 10 L st H := Eq.trans rfl rfl
theorem xw_X4_takeProduct_67 {E : xE} {res : xR} {N : Nat} {hd : List Nat} {C : xCT} {k : Nat} {L : List Int} {st : List pv} {H : PH} : xW E res N kd_X4_takeProduct xm_X4_takeProduct hd C (k + 1) 67 L st H = xB (fun t L st H => if t ∈ hd then xJ E res N kd_X4_takeProduct t L st H else xW E res N kd_X4_takeProduct xm_X4_takeProduct hd C k t L st H) (REPR E res) C (none) vb_X4_takeProduct_67 67 L st H := Eq.trans rfl rfl
def xm_X4_takeSum : List xbT := [(0, vb_X4_takeSum_0, some 10), (10, vb_X4_takeSum_10, some 67), (67, vb_X4_takeSum_67, none)]
theorem xc_X4_takeSum : xOK kd_X4_takeSum xm_X4_takeSum := ⟨ve_X4_takeSum_0, ve_X4_takeSum_10, ve_X4_takeSum_67, trivial⟩
theorem xa_X4_takeSum : xm_X4_takeSum.all (fun q => aOKb q.2.1 && !q.2.1.isEmpty) = true := by decide +kernel
theorem xw_X4_takeSum_0 {E : xE} {res : xR} {N : Nat} {hd : List Nat} {C : xCT} {k : Nat} {L : List Int} {st : List pv} {H : PH} : xW E res N kd_X4_takeSum xm_X4_takeSum hd C (k + 1) 0 L st H = xB (fun t L st H => if t ∈ hd then xJ E res N kd_X4_takeSum t L st H else xW E res N kd_X4_takeSum xm_X4_takeSum hd C k t L st H) (REPR E res) C (some 10) vb_X4_takeSum_0 0 L st H := Eq.trans rfl rfl
theorem xw_X4_takeSum_10 {E : xE} {res : xR} {N : Nat} {hd : List Nat} {C : xCT} {k : Nat} {L : List Int} {st : List pv} {H : PH} : xW E res N kd_X4_takeSum xm_X4_takeSum hd C (k + 1) 10 L st H = xB (fun t L st H => if t ∈ hd then xJ E res N kd_X4_takeSum t L st H else xW E res N kd_X4_takeSum xm_X4_takeSum hd C k t L st H) (REPR E res) C (some 67) vb_X4_takeSum_10 10 L st H := Eq.trans rfl rfl
theorem xw_X4_takeSum_67 {E : xE} {res : xR} {N : Nat} {hd : List Nat} {C : xCT} {k : Nat} {L : List Int} {st : List pv} {H : PH} : xW E res N kd_X4_takeSum xm_X4_takeSum hd C (k + 1) 67 L st H = xB (fun t L st H => if t ∈ hd then xJ E res N kd_X4_takeSum t L st H else xW E res N kd_X4_takeSum xm_X4_takeSum hd C k t L st H) (REPR E res) C (none) vb_X4_takeSum_67 67 L st H := Eq.trans rfl rfl
def xm_X4_takeFrom : List xbT := [(0, vb_X4_takeFrom_0, some 23), (23, vb_X4_takeFrom_23, some 34), (34, vb_X4_takeFrom_34, some 56), (56, vb_X4_takeFrom_56, none)]
theorem xc_X4_takeFrom : xOK kd_X4_takeFrom xm_X4_takeFrom := ⟨ve_X4_takeFrom_0, ve_X4_takeFrom_23, ve_X4_takeFrom_34, ve_X4_takeFrom_56, trivial⟩
theorem xa_X4_takeFrom : xm_X4_takeFrom.all (fun q => aOKb q.2.1 && !q.2.1.isEmpty) = true := by decide +kernel
theorem xw_X4_takeFrom_0 {E : xE} {res : xR} {N : Nat} {hd : List Nat} {C : xCT} {k : Nat} {L : List Int} {st : List pv} {H : PH} : xW E res N kd_X4_takeFrom xm_X4_takeFrom hd C (k + 1) 0 L st H = xB (fun t L st H => if t ∈ hd then xJ E res N kd_X4_takeFrom t L st H else xW E res N kd_X4_takeFrom xm_X4_takeFrom hd C k t L st H) (REPR E res) C (some 23) vb_X4_takeFrom_0 0 L st H := Eq.trans rfl rfl
theorem xw_X4_takeFrom_23 {E : xE} {res : xR} {N : Nat} {hd : List Nat} {C : xCT} {k : Nat} {L : List Int} {st : List pv} {H : PH} : xW E res N kd_X4_takeFrom xm_X4_takeFrom hd C (k + 1) 23 L st H = xB (fun t L st H => if t ∈ hd then xJ E res N kd_X4_takeFrom t L st H else xW E res N kd_X4_takeFrom xm_X4_takeFrom hd C k t L st H) (REPR E res) C (some 34) vb_X4_takeFrom_23 23 L st H := Eq.trans rfl rfl
theorem xw_X4_takeFrom_34 {E : xE} {res : xR} {N : Nat} {hd : List Nat} {C : xCT} {k : Nat} {L : List Int} {st : List pv} {H : PH} : xW E res N kd_X4_takeFrom xm_X4_takeFrom hd C (k + 1) 34 L st H = xB (fun t L st H => if t ∈ hd then xJ E res N kd_X4_takeFrom t L st H else xW E res N kd_X4_takeFrom xm_X4_takeFrom hd C k t L st H) (REPR E res) C (some 56) vb_X4_takeFrom_34 34 L st H := Eq.trans rfl rfl
theorem xw_X4_takeFrom_56 {E : xE} {res : xR} {N : Nat} {hd : List Nat} {C : xCT} {k : Nat} {L : List Int} {st : List pv} {H : PH} : xW E res N kd_X4_takeFrom xm_X4_takeFrom hd C (k + 1) 56 L st H = xB (fun t L st H => if t ∈ hd then xJ E res N kd_X4_takeFrom t L st H else xW E res N kd_X4_takeFrom xm_X4_takeFrom hd C k t L st H) (REPR E res) C (none) vb_X4_takeFrom_56 56 L st H := Eq.trans rfl rfl
def xm_X11_law : List xbT := [(0, vb_X11_law_0, some 32), (32, vb_X11_law_32, none)]
theorem xc_X11_law : xOK kd_X11_law xm_X11_law := ⟨ve_X11_law_0, ve_X11_law_32, trivial⟩
theorem xa_X11_law : xm_X11_law.all (fun q => aOKb q.2.1 && !q.2.1.isEmpty) = true := by decide +kernel
theorem xw_X11_law_0 {E : xE} {res : xR} {N : Nat} {hd : List Nat} {C : xCT} {k : Nat} {L : List Int} {st : List pv} {H : PH} : xW E res N kd_X11_law xm_X11_law hd C (k + 1) 0 L st H = xB (fun t L st H => if t ∈ hd then xJ E res N kd_X11_law t L st H else xW E res N kd_X11_law xm_X11_law hd C k t L st H) (REPR E res) C (some 32) vb_X11_law_0 0 L st H := Eq.trans rfl rfl
theorem xw_X11_law_32 {E : xE} {res : xR} {N : Nat} {hd : List Nat} {C : xCT} {k : Nat} {L : List Int} {st : List pv} {H : PH} : xW E res N kd_X11_law xm_X11_law hd C (k + 1) 32 L st H = xB (fun t L st H => if t ∈ hd then xJ E res N kd_X11_law t L st H else xW E res N kd_X11_law xm_X11_law hd C k t L st H) (REPR E res) C (none) vb_X11_law_32 32 L st H := Eq.trans rfl rfl
/-! ===== the class's law ===== -/
theorem nxb_nx {w : Int → Int} {sz a : Int} (h : 0 ≤ a) : nxb w sz a = nxF sz w a := by
  unfold nxb nxF
  by_cases c : a < sz
  · rw [if_pos ⟨h, c⟩, if_pos c]
  · rw [if_neg (fun q => c q.2), if_neg c]
theorem dgt_dg {w : Int → Int} {sz : Int} : ∀ (n : Nat) (a v : Int), 0 ≤ a → dgt w sz n a v = ((dgF sz w n a v).2, (dgF sz w n a v).1)
  | 0, a, v, _ => rfl
  | n + 1, a, v, h => by
    unfold dgt dgF
    rw [nxb_nx h]
    by_cases c : 48 ≤ nxF sz w a ∧ nxF sz w a ≤ 57
    · rw [if_pos c, if_pos c, dgt_dg n (a + 1) _ (by omega), show v * 10 + nxF sz w a - 48 = 10 * v + nxF sz w a - 48 by omega]
    · rw [if_neg c, if_neg c]
/-- the law's cells say what was read -/
def LKc (w : Int) (H : PH) (s : LwS) : Prop := H w 2 = s.2.2.length ∧ H w 3 = s.2.1 ∧ ∀ k : Nat, k < s.2.2.length → VC (H (w + 1) k) ∧ enC (H (w + 1) k) = s.2.2.getD k 0
def LFw (w : Int) (H H' : PH) : Prop := (∀ c, ¬ c = w → ¬ c = w + 1 → ¬ c = 213 → H' c = H c) ∧ (∀ i, ¬ i = 2 → ¬ i = 3 → H' w i = H w i) ∧ ∀ i, ¬ i = 2 → ¬ i = 3 → H' 213 i = H 213 i
theorem LFw_refl {w : Int} {H : PH} : LFw w H H := ⟨fun _ _ _ _ => rfl, fun _ _ _ => rfl, fun _ _ _ => rfl⟩
theorem LFw_trans {w : Int} {H H1 H2 : PH} (a : LFw w H H1) (b : LFw w H1 H2) : LFw w H H2 := ⟨fun c h1 h2 h3 => (b.1 c h1 h2 h3).trans (a.1 c h1 h2 h3), fun i h1 h2 => (b.2.1 i h1 h2).trans (a.2.1 i h1 h2), fun i h1 h2 => (b.2.2 i h1 h2).trans (a.2.2 i h1 h2)⟩
theorem KW_213 {w : Int} (h : KW w) : ¬ w = 213 ∧ ¬ w + 1 = 213 ∧ ¬ w = 214 ∧ ¬ w + 1 = 214 := by
  have := KWz h
  omega
theorem LFw_PF {w : Int} {H H' : PH} (hw : KW w) (p : PF H H') : LFw w H H' := ⟨fun c _ _ h => p.1 c h, fun i _ _ => by rw [p.1 w (KW_213 hw).1], p.2⟩
theorem LKc_PF {w : Int} {H H' : PH} {s s' : LwS} (hw : KW w) (p : PF H H') (e : s'.2 = s.2) (h : LKc w H s) : LKc w H' s' := by
  unfold LKc at h ⊢
  rw [p.1 w (KW_213 hw).1, p.1 (w + 1) (KW_213 hw).2.1, e]
  exact h
theorem getD_app {v : Int} : ∀ {l : List Int} {k : Nat}, (l ++ [v]).getD k 0 = if k < l.length then l.getD k 0 else if k = l.length then v else 0
  | [], 0 => rfl
  | [], k + 1 => rfl
  | a :: l, 0 => rfl
  | a :: l, k + 1 => by
    show (l ++ [v]).getD k 0 = if k + 1 < l.length + 1 then l.getD k 0 else if k + 1 = l.length + 1 then v else 0
    rw [getD_app]
    repeat' split
    all_goals first | rfl | omega
theorem q1_neg {c : Int} (h : c = 42 ∨ c = 43 ∨ c = 45 ∨ c = 47 ∨ c = 60 ∨ c = 62 ∨ c = 99 ∨ c = 111 ∨ c = 115) : q1 (fun x => -x) c = -c := by
  rcases h with rfl | rfl | rfl | rfl | rfl | rfl | rfl | rfl | rfl <;> decide +kernel
theorem KW_len : ∀ w : Nat, w < 622 → (zSh w).1 = 4 → (zSh (w + 1)).2.1 = 60 := by
  have g : (List.range 622).all (fun c => !Nat.beq (zSh c).1 4 || Nat.beq (zSh (c + 1)).2.1 60) = true := by decide +kernel
  intro w hw h4
  have := List.all_eq_true.mp g w (List.mem_range.mpr hw)
  rw [h4] at this
  simpa using this
theorem KW_60 {w : Int} (h : KW w) : (zSh (w + 1).toNat).2.1 = 60 := by
  have h0 := h.1
  have := KW_len w.toNat (by have := h.2.1; omega) h.2.2
  rw [show (w + 1).toNat = w.toNat + 1 by omega]
  exact this
set_option maxRecDepth 100000 in
theorem sp_X4_add (w v : Int) (H : PH) (hw : KW w) : SPEC 50 [(2, w), (0, v)] H (fun r H' => r = none ∧ ((H w 2 < 60 ∧ H' = pup (pup H (w + 1) (H w 2) v) w 2 (zw (H w 2 + 1))) ∨ (¬ H w 2 < 60 ∧ H' = H))) := by
  intro E n res h
  obtain ⟨g0, g1, g2, g3⟩ := KW_f hw
  have l60 : (((zSh (w + 1).toNat).2.1 : Nat) : Int) = 60 := by rw [KW_60 hw]; rfl
  have n1 : ¬ w = w + 1 := by omega
  have h0 : 0 ≤ w + 1 := by have := hw.1; omega
  by_cases c : H w 2 < 60
  · have c' : ¬ 60 ≤ H w 2 := by omega
    have h := call_runP 2 vm_X4_add h
    have h := xw_top (hd := []) 4 xD6_ok xc_X4_add xa_X4_add (t := 0) rfl h
    simp (maxDischargeDepth := 12) -implicitDefEqProofs [vb_X4_add_0, vb_X4_add_32, xI_0, xI_1, xI_7, xI_14, xI_33, xI_46, xI_49, xI_50, xI_52, xI_54, xI_65, xw_X4_add_0, xw_X4_add_32, zw_lit, xB_c, xB_s, xB_n, i1_c, j2_c, k1_c, jJ_e, xlg, xls, xla, xpd, ppush, zw_m1, zw_m2, zw_m3, gf_4_0, gf_4_2, pf_4_2, tg_4_0, tg_4_2, xD1, xD2, xD3, xD4, xD5, xD6, xb1_0, g0, g1, g2, g3, l60, c, c', xp_ne, n1, h0] at h
    exact ⟨_, _, h, rfl, Or.inl ⟨c, rfl⟩⟩
  · have c' : 60 ≤ H w 2 := by omega
    have h := call_runP 2 vm_X4_add h
    have h := xw_top (hd := []) 4 xD6_ok xc_X4_add xa_X4_add (t := 0) rfl h
    simp (maxDischargeDepth := 12) -implicitDefEqProofs [vb_X4_add_0, vb_X4_add_32, xI_0, xI_1, xI_7, xI_14, xI_33, xI_46, xI_49, xI_50, xI_52, xI_54, xI_65, xw_X4_add_0, xw_X4_add_32, zw_lit, xB_c, xB_s, xB_n, i1_c, j2_c, k1_c, jJ_e, xlg, xls, xla, xpd, ppush, zw_m1, zw_m2, zw_m3, gf_4_0, gf_4_2, pf_4_2, tg_4_0, tg_4_2, xD1, xD2, xD3, xD4, xD5, xD6, xb1_0, g0, g1, g2, g3, l60, c, c', h0] at h
    exact ⟨_, _, h, rfl, Or.inr ⟨c, rfl⟩⟩
theorem LKc_add {w v u : Int} {H : PH} {s : LwS} (hw : KW w) (h : LKc w H s) (hl : (s.2.2.length : Int) < 60) (hv : VC v) (he : enC v = u) : LKc w (pup (pup H (w + 1) (H w 2) v) w 2 (zw (H w 2 + 1))) (pst s u) := by
  obtain ⟨h2, h3, h4⟩ := h
  refine ⟨?_, ?_, fun k hk => ?_⟩
  · rw [xp_at, if_pos rfl, h2, pst_len]
    exact zw_lit (by omega) (by omega)
  · rw [xp_at, if_neg (by decide), xp_ne (by omega)]
    exact h3
  · rw [xp_ne (by omega), xp_at, h2]
    show _ ∧ _ = (s.2.2 ++ [u]).getD k 0
    have hk : (k : Int) < s.2.2.length + 1 := by
      have := pst_len (s := s) (v := u)
      omega
    rw [getD_app]
    by_cases e : (k : Int) = s.2.2.length
    · rw [if_pos e, if_neg (by omega), if_pos (by omega)]
      exact ⟨hv, he⟩
    · rw [if_neg e, if_pos (by omega)]
      exact h4 k (by omega)
theorem LFw_add {w v : Int} {H H' : PH} (hw : KW w) (h : (H w 2 < 60 ∧ H' = pup (pup H (w + 1) (H w 2) v) w 2 (zw (H w 2 + 1))) ∨ (¬ H w 2 < 60 ∧ H' = H)) : LFw w H H' := by
  rcases h with ⟨_, rfl⟩ | ⟨_, rfl⟩
  · exact ⟨fun c c1 c2 c3 => by rw [xp_ne c1, xp_ne c2], fun i i2 i3 => by rw [xp_at, if_neg i2, xp_ne (by omega)], fun i _ _ => by rw [xp_ne (fun e => (KW_213 hw).1 e.symm), xp_ne (fun e => (KW_213 hw).2.1 e.symm)]⟩
  · exact LFw_refl
theorem TP_LFa {w sz a v : Int} {T : Int → Int} {H H' : PH} (hw : KW w) (h : (H w 2 < 60 ∧ H' = pup (pup H (w + 1) (H w 2) v) w 2 (zw (H w 2 + 1))) ∨ (¬ H w 2 < 60 ∧ H' = H)) (hT : TP sz T a H) : TP sz T a H' := by
  obtain ⟨k1, k2, k3, k4⟩ := KW_213 hw
  rcases h with ⟨_, rfl⟩ | ⟨_, rfl⟩
  · unfold TP at hT ⊢
    rw [xp_ne (fun e => k1 e.symm), xp_ne (fun e => k2 e.symm), xp_ne (fun e => k3 e.symm), xp_ne (fun e => k4 e.symm)]
    exact hT
  · exact hT
/-- what a piece came to: whole, not, or with a digit too many behind it -/
def RES (w sz : Int) (T : Int → Int) (o : Option LwS) (v : Int) (s : LwS) (H : PH) : Prop := (v = 1 ∧ o = some s ∧ LGd sz s ∧ TP sz T s.1 H ∧ LKc w H s) ∨ (v = 0 ∧ o = none) ∨ (v = 1 ∧ o = none ∧ isD (nxF sz T s.1) ∧ TP sz T s.1 H)
/-- a piece of a law, read from a place -/
def PCE (mj : Nat) (w sz : Int) (T : Int → Int) (d : Int) (f : LwS → Option LwS) : Prop := ∀ (s : LwS) (H : PH), TP sz T s.1 H → LGd sz s → LKc w H s → SPEC mj [(2, w), (2, 213), (0, d)] H (fun r H' => ∃ (v : Int) (s' : LwS), r = some (0, v) ∧ LFw w H H' ∧ RES w sz T (f s) v s' H')
/-- between the rounds of a loop -/
def INVl (w sz : Int) (T : Int → Int) (L : Nat → LwS → Option LwS) (o : Option LwS) (v i : Int) (s : LwS) (H : PH) : Prop := (v = 1 ∧ LGd sz s ∧ (s.2.2.length : Int) + 1 ≤ 2 * s.2.1 ∧ 1 ≤ s.2.1 ∧ o = L (30 - i).toNat s ∧ TP sz T s.1 H ∧ LKc w H s) ∨ (v = 0 ∧ o = none) ∨ (v = 1 ∧ o = none ∧ isD (nxF sz T s.1) ∧ TP sz T s.1 H)
theorem LKc_at {w : Int} {H : PH} {s s' : LwS} (e : s'.2 = s.2) (h : LKc w H s) : LKc w H s' := by
  unfold LKc at h ⊢
  rw [e]
  exact h
theorem VC_sg {c : Int} (h : isP c ∨ isS c) : VC (-c) ∧ enC (-c) = 11000 + c ∧ zw (0 - c) = -c := by
  unfold isP isS at h
  have e : zw (0 - c) = -c := by
    rw [show (0 : Int) - c = -c by omega]
    exact zw_lit (by omega) (by omega)
  refine ⟨by unfold VC; omega, ?_, e⟩
  unfold enC
  rw [if_neg (by omega), if_neg (by omega), if_neg (by omega), if_neg (by omega)]
  omega
set_option maxRecDepth 100000 in
theorem lp_X4_takeProduct (w sz d : Int) (T : Int → Int) (f : LwS → Option LwS) (hw : KW w) (hf : thG (f) sz) (hP : PCE 47 w sz T d (f)) (o : Option LwS) {E : xE} {res : xR} : ∀ (n : Nat) (i v x : Int) (s : LwS) (H : PH), 0 ≤ i → i ≤ 30 → INVl w sz T (pLp f T sz) o v i s H → RUN E res n kd_X4_takeProduct (zget kd_X4_takeProduct 10) 10 [w, 213, d, v, i, x] [] H → ∃ (H' : PH) (u : Int) (s' : LwS), LFw w H H' ∧ RES w sz T o u s' H' ∧ REPR E res (some (0, u)) H' := by
  intro n
  induction n using Nat.strongRecOn with
  | _ n ih =>
    intro i v x s H i0 i1 hI h
    have zi : zw (i + 1) = i + 1 := zw_lit (by omega) (by omega)
    rcases hI with ⟨rfl, hg, hl, h1, ho, hT, hK⟩ | ⟨rfl, ho⟩ | ⟨rfl, ho, hd, hT⟩
    · have en := TP_nx hT
      have e2 := hT.2.2.1
      have s0 := hg.1
      by_cases c : i < 30
      · have c' : ¬ 30 ≤ i := by omega
        by_cases p : isP (nxF sz T s.1)
        · have p0 : ¬ nxF sz T s.1 = -1 := by
            unfold isP at p
            omega
          obtain ⟨q1, q2, q3⟩ := VC_sg (c := nxF sz T s.1) (Or.inl p)
          have hz := nxb_lt (T := T) (z := sz) (a := s.1) (by rw [nxb_nx s0]; unfold isP at p; omega)
          have pp := p
          unfold isP at pp
          have sz6 := hT.2.2.2.2.2
          have z1 : zw (s.1 + 1) = s.1 + 1 := zw_lit (by omega) (by omega)
          have qn := q1_neg (c := nxF sz T s.1) (by omega)
          have h := xw_top (hd := [10]) 5 xD6_ok xc_X4_takeProduct xa_X4_takeProduct (t := 10) rfl h
          simp (maxDischargeDepth := 12) -implicitDefEqProofs [vb_X4_takeProduct_0, vb_X4_takeProduct_10, vb_X4_takeProduct_67, xI_0, xI_1, xI_3, xI_6, xI_7, xI_8, xI_14, xI_25, xI_33, xI_36, xI_37, xI_46, xI_49, xI_50, xI_60, xI_61, xI_62, xw_X4_takeProduct_0, xw_X4_takeProduct_10, xw_X4_takeProduct_67, zw_lit, xB_c, xB_s, xB_n, i1_c, j2_c, k1_c, jJ_e, xlg, xls, xla, xpd, ppush, zw_m1, zw_m2, zw_m3, gf_10_2, pf_10_2, tg_10_2, gv_213_2, xD1, xD2, xD3, xD4, xD5, xD6, xb1_0, en, e2, c, c', z1, qn] at h
          have h := (h.resolve_left (fun w => by have := w.1; omega)).2
          obtain ⟨r, H1, ⟨v1, s2, rfl, l1, r1⟩, g⟩ := xc_use h (hP (s.1 + 1, s.2) _ (TP_up hT hz) ⟨by show 0 ≤ s.1 + 1; omega, by show s.1 + 1 ≤ sz; omega, hg.2.2⟩ (LKc_PF hw (PF_up (Or.inl rfl)) rfl hK))
          obtain ⟨r, H2, ⟨rfl, ad⟩, g⟩ := xc_use g (sp_X4_add w _ H1 hw)
          simp (maxDischargeDepth := 12) -implicitDefEqProofs [vb_X4_takeProduct_0, vb_X4_takeProduct_10, vb_X4_takeProduct_67, xI_0, xI_1, xI_3, xI_6, xI_7, xI_8, xI_14, xI_25, xI_33, xI_36, xI_37, xI_46, xI_49, xI_50, xI_60, xI_61, xI_62, xw_X4_takeProduct_0, xw_X4_takeProduct_10, xw_X4_takeProduct_67, zw_lit, xB_c, xB_s, xB_n, i1_c, j2_c, k1_c, jJ_e, xlg, xls, xla, xpd, ppush, zw_m1, zw_m2, zw_m3, gf_10_2, pf_10_2, tg_10_2, gv_213_2, xD1, xD2, xD3, xD4, xD5, xD6, xb1_0, zi] at g
          obtain ⟨m, hm, g⟩ := g
          have la := LFw_add hw ad
          have ta : ∀ {a : Int}, TP sz T a H1 → TP sz T a H2 := fun t => TP_LFa hw ad t
          have eo : o = (match (f) (s.1 + 1, s.2) with
            | none => none
            | some s1 => pLp f T sz (30 - (i + 1)).toNat (pst s1 (11000 + nxF sz T s.1))) := by
            rw [ho, show (30 - i).toNat = (30 - (i + 1)).toNat + 1 by omega]
            show (if isP (nxb T sz s.1) then _ else _) = _
            rw [nxb_nx s0, if_pos p]
            cases (f) (s.1 + 1, s.2) <;> rfl
          have nx : INVl w sz T (pLp f T sz) o v1 (i + 1) (pst s2 (11000 + nxF sz T s.1)) H2 := by
            rcases r1 with ⟨rfl, f1, t1, t2, t3⟩ | ⟨rfl, f1⟩ | ⟨rfl, f1, t1, t2⟩
            · obtain ⟨y1, ⟨y2, y3, y4⟩, y5⟩ := hf (s.1 + 1, s.2) s2 ⟨by show 0 ≤ s.1 + 1; omega, by show s.1 + 1 ≤ sz; omega, hg.2.2⟩ f1
              have y3 : s.2.1 + 1 ≤ s2.2.1 := y3
              have y4 : (s2.2.2.length : Int) + 1 - 2 * s2.2.1 ≤ (s.2.2.length : Int) - 2 * s.2.1 := y4
              have y6 := y1.2.2.2.1
              have ln : (s2.2.2.length : Int) + 1 ≤ 2 * s2.2.1 := by omega
              have pl := pst_len (s := s2) (v := 11000 + nxF sz T s.1)
              refine Or.inl ⟨rfl, LGd_pst y1 ln, by rw [pl]; show (s2.2.2.length : Int) + 1 + 1 ≤ 2 * s2.2.1; omega, by show 1 ≤ s2.2.1; omega, ?_, ta t2, ?_⟩
              · rw [eo, f1]
              · rcases ad with ⟨a1, a2⟩ | ⟨a1, a2⟩
                · rw [a2]
                  exact LKc_add hw t3 (by omega) q1 q2
                · have := t3.1
                  omega
            · exact Or.inr (Or.inl ⟨rfl, by rw [eo, f1]⟩)
            · exact Or.inr (Or.inr ⟨rfl, by rw [eo, f1], t1, ta t2⟩)
          obtain ⟨H', u, s', k1, k2, k3⟩ := ih m hm (i + 1) v1 _ _ H2 (by omega) (by omega) nx g
          exact ⟨H', u, s', LFw_trans (LFw_PF hw (PF_up (Or.inl rfl))) (LFw_trans l1 (LFw_trans la k1)), k2, k3⟩
        · have pp := p
          unfold isP at pp
          have h := xw_top (hd := [10]) 5 xD6_ok xc_X4_takeProduct xa_X4_takeProduct (t := 10) rfl h
          simp (maxDischargeDepth := 12) -implicitDefEqProofs [vb_X4_takeProduct_0, vb_X4_takeProduct_10, vb_X4_takeProduct_67, xI_0, xI_1, xI_3, xI_6, xI_7, xI_8, xI_14, xI_25, xI_33, xI_36, xI_37, xI_46, xI_49, xI_50, xI_60, xI_61, xI_62, xw_X4_takeProduct_0, xw_X4_takeProduct_10, xw_X4_takeProduct_67, zw_lit, xB_c, xB_s, xB_n, i1_c, j2_c, k1_c, jJ_e, xlg, xls, xla, xpd, ppush, zw_m1, zw_m2, zw_m3, gf_10_2, pf_10_2, tg_10_2, gv_213_2, xD1, xD2, xD3, xD4, xD5, xD6, xb1_0, en, e2, c, c'] at h
          have h := (h.resolve_right (fun w => by have := w.1; omega)).2
          refine ⟨H, 1, s, LFw_refl, Or.inl ⟨rfl, ?_, hg, hT, hK⟩, h⟩
          rw [ho]
          exact pLp_stop (by rw [nxb_nx s0]; exact p)
      · have c' : 30 ≤ i := by omega
        have h := xw_top (hd := [10]) 5 xD6_ok xc_X4_takeProduct xa_X4_takeProduct (t := 10) rfl h
        simp (maxDischargeDepth := 12) -implicitDefEqProofs [vb_X4_takeProduct_0, vb_X4_takeProduct_10, vb_X4_takeProduct_67, xI_0, xI_1, xI_3, xI_6, xI_7, xI_8, xI_14, xI_25, xI_33, xI_36, xI_37, xI_46, xI_49, xI_50, xI_60, xI_61, xI_62, xw_X4_takeProduct_0, xw_X4_takeProduct_10, xw_X4_takeProduct_67, zw_lit, xB_c, xB_s, xB_n, i1_c, j2_c, k1_c, jJ_e, xlg, xls, xla, xpd, ppush, zw_m1, zw_m2, zw_m3, gf_10_2, pf_10_2, tg_10_2, gv_213_2, xD1, xD2, xD3, xD4, xD5, xD6, xb1_0, en, e2, c, c'] at h
        refine ⟨H, 1, s, LFw_refl, Or.inl ⟨rfl, ?_, hg, hT, hK⟩, h⟩
        rw [ho, show (30 - i).toNat = 0 by omega]
        rfl
    · by_cases c : i < 30
      · have c' : ¬ 30 ≤ i := by omega
        have h := xw_top (hd := [10]) 5 xD6_ok xc_X4_takeProduct xa_X4_takeProduct (t := 10) rfl h
        simp (maxDischargeDepth := 12) -implicitDefEqProofs [vb_X4_takeProduct_0, vb_X4_takeProduct_10, vb_X4_takeProduct_67, xI_0, xI_1, xI_3, xI_6, xI_7, xI_8, xI_14, xI_25, xI_33, xI_36, xI_37, xI_46, xI_49, xI_50, xI_60, xI_61, xI_62, xw_X4_takeProduct_0, xw_X4_takeProduct_10, xw_X4_takeProduct_67, zw_lit, xB_c, xB_s, xB_n, i1_c, j2_c, k1_c, jJ_e, xlg, xls, xla, xpd, ppush, zw_m1, zw_m2, zw_m3, gf_10_2, pf_10_2, tg_10_2, gv_213_2, xD1, xD2, xD3, xD4, xD5, xD6, xb1_0, c, c'] at h
        exact ⟨H, 0, s, LFw_refl, Or.inr (Or.inl ⟨rfl, ho⟩), h⟩
      · have c' : 30 ≤ i := by omega
        have h := xw_top (hd := [10]) 5 xD6_ok xc_X4_takeProduct xa_X4_takeProduct (t := 10) rfl h
        simp (maxDischargeDepth := 12) -implicitDefEqProofs [vb_X4_takeProduct_0, vb_X4_takeProduct_10, vb_X4_takeProduct_67, xI_0, xI_1, xI_3, xI_6, xI_7, xI_8, xI_14, xI_25, xI_33, xI_36, xI_37, xI_46, xI_49, xI_50, xI_60, xI_61, xI_62, xw_X4_takeProduct_0, xw_X4_takeProduct_10, xw_X4_takeProduct_67, zw_lit, xB_c, xB_s, xB_n, i1_c, j2_c, k1_c, jJ_e, xlg, xls, xla, xpd, ppush, zw_m1, zw_m2, zw_m3, gf_10_2, pf_10_2, tg_10_2, gv_213_2, xD1, xD2, xD3, xD4, xD5, xD6, xb1_0, c, c'] at h
        exact ⟨H, 0, s, LFw_refl, Or.inr (Or.inl ⟨rfl, ho⟩), h⟩
    · have en := TP_nx hT
      have e2 := hT.2.2.1
      have hd' := hd
      unfold isD at hd'
      have pp : ¬ (nxF sz T s.1 = 42 ∨ nxF sz T s.1 = 47 ∨ nxF sz T s.1 = 60 ∨ nxF sz T s.1 = 62) := by omega
      by_cases c : i < 30
      · have c' : ¬ 30 ≤ i := by omega
        have h := xw_top (hd := [10]) 5 xD6_ok xc_X4_takeProduct xa_X4_takeProduct (t := 10) rfl h
        simp (maxDischargeDepth := 12) -implicitDefEqProofs [vb_X4_takeProduct_0, vb_X4_takeProduct_10, vb_X4_takeProduct_67, xI_0, xI_1, xI_3, xI_6, xI_7, xI_8, xI_14, xI_25, xI_33, xI_36, xI_37, xI_46, xI_49, xI_50, xI_60, xI_61, xI_62, xw_X4_takeProduct_0, xw_X4_takeProduct_10, xw_X4_takeProduct_67, zw_lit, xB_c, xB_s, xB_n, i1_c, j2_c, k1_c, jJ_e, xlg, xls, xla, xpd, ppush, zw_m1, zw_m2, zw_m3, gf_10_2, pf_10_2, tg_10_2, gv_213_2, xD1, xD2, xD3, xD4, xD5, xD6, xb1_0, en, e2, c, c'] at h
        have h := (h.resolve_right (fun w => by have := w.1; omega)).2
        exact ⟨H, 1, s, LFw_refl, Or.inr (Or.inr ⟨rfl, ho, hd, hT⟩), h⟩
      · have c' : 30 ≤ i := by omega
        have h := xw_top (hd := [10]) 5 xD6_ok xc_X4_takeProduct xa_X4_takeProduct (t := 10) rfl h
        simp (maxDischargeDepth := 12) -implicitDefEqProofs [vb_X4_takeProduct_0, vb_X4_takeProduct_10, vb_X4_takeProduct_67, xI_0, xI_1, xI_3, xI_6, xI_7, xI_8, xI_14, xI_25, xI_33, xI_36, xI_37, xI_46, xI_49, xI_50, xI_60, xI_61, xI_62, xw_X4_takeProduct_0, xw_X4_takeProduct_10, xw_X4_takeProduct_67, zw_lit, xB_c, xB_s, xB_n, i1_c, j2_c, k1_c, jJ_e, xlg, xls, xla, xpd, ppush, zw_m1, zw_m2, zw_m3, gf_10_2, pf_10_2, tg_10_2, gv_213_2, xD1, xD2, xD3, xD4, xD5, xD6, xb1_0, en, e2, c, c', pp] at h
        exact ⟨H, 1, s, LFw_refl, Or.inr (Or.inr ⟨rfl, ho, hd, hT⟩), h⟩
set_option maxRecDepth 100000 in
theorem sp_X4_takeProduct (w sz d : Int) (T : Int → Int) (f : LwS → Option LwS) (hw : KW w) (hf : thG (f) sz) (hP : PCE 47 w sz T d (f)) : PCE 46 w sz T d (pPr f T sz) := by
  intro s H hT hg hK E n res h
  have h := call_runP 6 vm_X4_takeProduct h
  have h := xw_top (hd := [10]) 5 xD6_ok xc_X4_takeProduct xa_X4_takeProduct (t := 0) rfl h
  simp (maxDischargeDepth := 12) -implicitDefEqProofs [vb_X4_takeProduct_0, vb_X4_takeProduct_10, vb_X4_takeProduct_67, xI_0, xI_1, xI_3, xI_6, xI_7, xI_8, xI_14, xI_25, xI_33, xI_36, xI_37, xI_46, xI_49, xI_50, xI_60, xI_61, xI_62, xw_X4_takeProduct_0, xw_X4_takeProduct_10, xw_X4_takeProduct_67, zw_lit, xB_c, xB_s, xB_n, i1_c, j2_c, k1_c, jJ_e, xlg, xls, xla, xpd, ppush, zw_m1, zw_m2, zw_m3, gf_10_2, pf_10_2, tg_10_2, gv_213_2, xD1, xD2, xD3, xD4, xD5, xD6, xb1_0] at h
  obtain ⟨r, H1, ⟨v1, s2, rfl, l1, r1⟩, g⟩ := xc_use h (hP s H hT hg hK)
  simp (maxDischargeDepth := 12) -implicitDefEqProofs [vb_X4_takeProduct_0, vb_X4_takeProduct_10, vb_X4_takeProduct_67, xI_0, xI_1, xI_3, xI_6, xI_7, xI_8, xI_14, xI_25, xI_33, xI_36, xI_37, xI_46, xI_49, xI_50, xI_60, xI_61, xI_62, xw_X4_takeProduct_0, xw_X4_takeProduct_10, xw_X4_takeProduct_67, zw_lit, xB_c, xB_s, xB_n, i1_c, j2_c, k1_c, jJ_e, xlg, xls, xla, xpd, ppush, zw_m1, zw_m2, zw_m3, gf_10_2, pf_10_2, tg_10_2, gv_213_2, xD1, xD2, xD3, xD4, xD5, xD6, xb1_0] at g
  obtain ⟨m, hm, g⟩ := g
  have eo : (pPr f T sz) s = (match (f) s with
    | none => none
    | some s1 => pLp f T sz 30 s1) := rfl
  have nx : INVl w sz T (pLp f T sz) ((pPr f T sz) s) v1 0 s2 H1 := by
    rcases r1 with ⟨rfl, f1, t1, t2, t3⟩ | ⟨rfl, f1⟩ | ⟨rfl, f1, t1, t2⟩
    · obtain ⟨y1, ⟨y2, y3, y4⟩, y5⟩ := hf s s2 hg f1
      have := hg.2.2.1
      have := hg.2.2.2.2
      exact Or.inl ⟨rfl, t1, by omega, by omega, by rw [eo, f1]; rfl, t2, t3⟩
    · exact Or.inr (Or.inl ⟨rfl, by rw [eo, f1]⟩)
    · exact Or.inr (Or.inr ⟨rfl, by rw [eo, f1], t1, t2⟩)
  obtain ⟨H', u, s', k1, k2, k3⟩ := lp_X4_takeProduct w sz d T f hw hf hP _ m 0 v1 _ s2 H1 (by omega) (by omega) nx g
  exact ⟨_, H', k3, u, s', rfl, LFw_trans l1 k1, k2⟩
set_option maxRecDepth 100000 in
theorem lp_X4_takeSum (w sz d : Int) (T : Int → Int) (f : LwS → Option LwS) (hw : KW w) (hf : thG (pPr f T sz) sz) (hP : PCE 46 w sz T d (pPr f T sz)) (o : Option LwS) {E : xE} {res : xR} : ∀ (n : Nat) (i v x : Int) (s : LwS) (H : PH), 0 ≤ i → i ≤ 30 → INVl w sz T (sLp f T sz) o v i s H → RUN E res n kd_X4_takeSum (zget kd_X4_takeSum 10) 10 [w, 213, d, v, i, x] [] H → ∃ (H' : PH) (u : Int) (s' : LwS), LFw w H H' ∧ RES w sz T o u s' H' ∧ REPR E res (some (0, u)) H' := by
  intro n
  induction n using Nat.strongRecOn with
  | _ n ih =>
    intro i v x s H i0 i1 hI h
    have zi : zw (i + 1) = i + 1 := zw_lit (by omega) (by omega)
    rcases hI with ⟨rfl, hg, hl, h1, ho, hT, hK⟩ | ⟨rfl, ho⟩ | ⟨rfl, ho, hd, hT⟩
    · have en := TP_nx hT
      have e2 := hT.2.2.1
      have s0 := hg.1
      by_cases c : i < 30
      · have c' : ¬ 30 ≤ i := by omega
        by_cases p : isS (nxF sz T s.1)
        · have p0 : ¬ nxF sz T s.1 = -1 := by
            unfold isS at p
            omega
          obtain ⟨q1, q2, q3⟩ := VC_sg (c := nxF sz T s.1) (Or.inr p)
          have hz := nxb_lt (T := T) (z := sz) (a := s.1) (by rw [nxb_nx s0]; unfold isS at p; omega)
          have pp := p
          unfold isS at pp
          have sz6 := hT.2.2.2.2.2
          have z1 : zw (s.1 + 1) = s.1 + 1 := zw_lit (by omega) (by omega)
          have qn := q1_neg (c := nxF sz T s.1) (by omega)
          have h := xw_top (hd := [10]) 5 xD6_ok xc_X4_takeSum xa_X4_takeSum (t := 10) rfl h
          simp (maxDischargeDepth := 12) -implicitDefEqProofs [vb_X4_takeSum_0, vb_X4_takeSum_10, vb_X4_takeSum_67, xI_0, xI_1, xI_3, xI_6, xI_7, xI_8, xI_14, xI_25, xI_33, xI_36, xI_37, xI_46, xI_49, xI_50, xI_60, xI_61, xI_62, xw_X4_takeSum_0, xw_X4_takeSum_10, xw_X4_takeSum_67, zw_lit, xB_c, xB_s, xB_n, i1_c, j2_c, k1_c, jJ_e, xlg, xls, xla, xpd, ppush, zw_m1, zw_m2, zw_m3, gf_10_2, pf_10_2, tg_10_2, gv_213_2, xD1, xD2, xD3, xD4, xD5, xD6, xb1_0, en, e2, c, c', z1, qn] at h
          have h := (h.resolve_left (fun w => by have := w.1; omega)).2
          obtain ⟨r, H1, ⟨v1, s2, rfl, l1, r1⟩, g⟩ := xc_use h (hP (s.1 + 1, s.2) _ (TP_up hT hz) ⟨by show 0 ≤ s.1 + 1; omega, by show s.1 + 1 ≤ sz; omega, hg.2.2⟩ (LKc_PF hw (PF_up (Or.inl rfl)) rfl hK))
          obtain ⟨r, H2, ⟨rfl, ad⟩, g⟩ := xc_use g (sp_X4_add w _ H1 hw)
          simp (maxDischargeDepth := 12) -implicitDefEqProofs [vb_X4_takeSum_0, vb_X4_takeSum_10, vb_X4_takeSum_67, xI_0, xI_1, xI_3, xI_6, xI_7, xI_8, xI_14, xI_25, xI_33, xI_36, xI_37, xI_46, xI_49, xI_50, xI_60, xI_61, xI_62, xw_X4_takeSum_0, xw_X4_takeSum_10, xw_X4_takeSum_67, zw_lit, xB_c, xB_s, xB_n, i1_c, j2_c, k1_c, jJ_e, xlg, xls, xla, xpd, ppush, zw_m1, zw_m2, zw_m3, gf_10_2, pf_10_2, tg_10_2, gv_213_2, xD1, xD2, xD3, xD4, xD5, xD6, xb1_0, zi] at g
          obtain ⟨m, hm, g⟩ := g
          have la := LFw_add hw ad
          have ta : ∀ {a : Int}, TP sz T a H1 → TP sz T a H2 := fun t => TP_LFa hw ad t
          have eo : o = (match (pPr f T sz) (s.1 + 1, s.2) with
            | none => none
            | some s1 => sLp f T sz (30 - (i + 1)).toNat (pst s1 (11000 + nxF sz T s.1))) := by
            rw [ho, show (30 - i).toNat = (30 - (i + 1)).toNat + 1 by omega]
            show (if isS (nxb T sz s.1) then _ else _) = _
            rw [nxb_nx s0, if_pos p]
            cases (pPr f T sz) (s.1 + 1, s.2) <;> rfl
          have nx : INVl w sz T (sLp f T sz) o v1 (i + 1) (pst s2 (11000 + nxF sz T s.1)) H2 := by
            rcases r1 with ⟨rfl, f1, t1, t2, t3⟩ | ⟨rfl, f1⟩ | ⟨rfl, f1, t1, t2⟩
            · obtain ⟨y1, ⟨y2, y3, y4⟩, y5⟩ := hf (s.1 + 1, s.2) s2 ⟨by show 0 ≤ s.1 + 1; omega, by show s.1 + 1 ≤ sz; omega, hg.2.2⟩ f1
              have y3 : s.2.1 + 1 ≤ s2.2.1 := y3
              have y4 : (s2.2.2.length : Int) + 1 - 2 * s2.2.1 ≤ (s.2.2.length : Int) - 2 * s.2.1 := y4
              have y6 := y1.2.2.2.1
              have ln : (s2.2.2.length : Int) + 1 ≤ 2 * s2.2.1 := by omega
              have pl := pst_len (s := s2) (v := 11000 + nxF sz T s.1)
              refine Or.inl ⟨rfl, LGd_pst y1 ln, by rw [pl]; show (s2.2.2.length : Int) + 1 + 1 ≤ 2 * s2.2.1; omega, by show 1 ≤ s2.2.1; omega, ?_, ta t2, ?_⟩
              · rw [eo, f1]
              · rcases ad with ⟨a1, a2⟩ | ⟨a1, a2⟩
                · rw [a2]
                  exact LKc_add hw t3 (by omega) q1 q2
                · have := t3.1
                  omega
            · exact Or.inr (Or.inl ⟨rfl, by rw [eo, f1]⟩)
            · exact Or.inr (Or.inr ⟨rfl, by rw [eo, f1], t1, ta t2⟩)
          obtain ⟨H', u, s', k1, k2, k3⟩ := ih m hm (i + 1) v1 _ _ H2 (by omega) (by omega) nx g
          exact ⟨H', u, s', LFw_trans (LFw_PF hw (PF_up (Or.inl rfl))) (LFw_trans l1 (LFw_trans la k1)), k2, k3⟩
        · have pp := p
          unfold isS at pp
          have h := xw_top (hd := [10]) 5 xD6_ok xc_X4_takeSum xa_X4_takeSum (t := 10) rfl h
          simp (maxDischargeDepth := 12) -implicitDefEqProofs [vb_X4_takeSum_0, vb_X4_takeSum_10, vb_X4_takeSum_67, xI_0, xI_1, xI_3, xI_6, xI_7, xI_8, xI_14, xI_25, xI_33, xI_36, xI_37, xI_46, xI_49, xI_50, xI_60, xI_61, xI_62, xw_X4_takeSum_0, xw_X4_takeSum_10, xw_X4_takeSum_67, zw_lit, xB_c, xB_s, xB_n, i1_c, j2_c, k1_c, jJ_e, xlg, xls, xla, xpd, ppush, zw_m1, zw_m2, zw_m3, gf_10_2, pf_10_2, tg_10_2, gv_213_2, xD1, xD2, xD3, xD4, xD5, xD6, xb1_0, en, e2, c, c'] at h
          have h := (h.resolve_right (fun w => by have := w.1; omega)).2
          refine ⟨H, 1, s, LFw_refl, Or.inl ⟨rfl, ?_, hg, hT, hK⟩, h⟩
          rw [ho]
          exact sLp_stop (by rw [nxb_nx s0]; exact p)
      · have c' : 30 ≤ i := by omega
        have h := xw_top (hd := [10]) 5 xD6_ok xc_X4_takeSum xa_X4_takeSum (t := 10) rfl h
        simp (maxDischargeDepth := 12) -implicitDefEqProofs [vb_X4_takeSum_0, vb_X4_takeSum_10, vb_X4_takeSum_67, xI_0, xI_1, xI_3, xI_6, xI_7, xI_8, xI_14, xI_25, xI_33, xI_36, xI_37, xI_46, xI_49, xI_50, xI_60, xI_61, xI_62, xw_X4_takeSum_0, xw_X4_takeSum_10, xw_X4_takeSum_67, zw_lit, xB_c, xB_s, xB_n, i1_c, j2_c, k1_c, jJ_e, xlg, xls, xla, xpd, ppush, zw_m1, zw_m2, zw_m3, gf_10_2, pf_10_2, tg_10_2, gv_213_2, xD1, xD2, xD3, xD4, xD5, xD6, xb1_0, en, e2, c, c'] at h
        refine ⟨H, 1, s, LFw_refl, Or.inl ⟨rfl, ?_, hg, hT, hK⟩, h⟩
        rw [ho, show (30 - i).toNat = 0 by omega]
        rfl
    · by_cases c : i < 30
      · have c' : ¬ 30 ≤ i := by omega
        have h := xw_top (hd := [10]) 5 xD6_ok xc_X4_takeSum xa_X4_takeSum (t := 10) rfl h
        simp (maxDischargeDepth := 12) -implicitDefEqProofs [vb_X4_takeSum_0, vb_X4_takeSum_10, vb_X4_takeSum_67, xI_0, xI_1, xI_3, xI_6, xI_7, xI_8, xI_14, xI_25, xI_33, xI_36, xI_37, xI_46, xI_49, xI_50, xI_60, xI_61, xI_62, xw_X4_takeSum_0, xw_X4_takeSum_10, xw_X4_takeSum_67, zw_lit, xB_c, xB_s, xB_n, i1_c, j2_c, k1_c, jJ_e, xlg, xls, xla, xpd, ppush, zw_m1, zw_m2, zw_m3, gf_10_2, pf_10_2, tg_10_2, gv_213_2, xD1, xD2, xD3, xD4, xD5, xD6, xb1_0, c, c'] at h
        exact ⟨H, 0, s, LFw_refl, Or.inr (Or.inl ⟨rfl, ho⟩), h⟩
      · have c' : 30 ≤ i := by omega
        have h := xw_top (hd := [10]) 5 xD6_ok xc_X4_takeSum xa_X4_takeSum (t := 10) rfl h
        simp (maxDischargeDepth := 12) -implicitDefEqProofs [vb_X4_takeSum_0, vb_X4_takeSum_10, vb_X4_takeSum_67, xI_0, xI_1, xI_3, xI_6, xI_7, xI_8, xI_14, xI_25, xI_33, xI_36, xI_37, xI_46, xI_49, xI_50, xI_60, xI_61, xI_62, xw_X4_takeSum_0, xw_X4_takeSum_10, xw_X4_takeSum_67, zw_lit, xB_c, xB_s, xB_n, i1_c, j2_c, k1_c, jJ_e, xlg, xls, xla, xpd, ppush, zw_m1, zw_m2, zw_m3, gf_10_2, pf_10_2, tg_10_2, gv_213_2, xD1, xD2, xD3, xD4, xD5, xD6, xb1_0, c, c'] at h
        exact ⟨H, 0, s, LFw_refl, Or.inr (Or.inl ⟨rfl, ho⟩), h⟩
    · have en := TP_nx hT
      have e2 := hT.2.2.1
      have hd' := hd
      unfold isD at hd'
      have pp : ¬ (nxF sz T s.1 = 43 ∨ nxF sz T s.1 = 45) := by omega
      by_cases c : i < 30
      · have c' : ¬ 30 ≤ i := by omega
        have h := xw_top (hd := [10]) 5 xD6_ok xc_X4_takeSum xa_X4_takeSum (t := 10) rfl h
        simp (maxDischargeDepth := 12) -implicitDefEqProofs [vb_X4_takeSum_0, vb_X4_takeSum_10, vb_X4_takeSum_67, xI_0, xI_1, xI_3, xI_6, xI_7, xI_8, xI_14, xI_25, xI_33, xI_36, xI_37, xI_46, xI_49, xI_50, xI_60, xI_61, xI_62, xw_X4_takeSum_0, xw_X4_takeSum_10, xw_X4_takeSum_67, zw_lit, xB_c, xB_s, xB_n, i1_c, j2_c, k1_c, jJ_e, xlg, xls, xla, xpd, ppush, zw_m1, zw_m2, zw_m3, gf_10_2, pf_10_2, tg_10_2, gv_213_2, xD1, xD2, xD3, xD4, xD5, xD6, xb1_0, en, e2, c, c'] at h
        have h := (h.resolve_right (fun w => by have := w.1; omega)).2
        exact ⟨H, 1, s, LFw_refl, Or.inr (Or.inr ⟨rfl, ho, hd, hT⟩), h⟩
      · have c' : 30 ≤ i := by omega
        have h := xw_top (hd := [10]) 5 xD6_ok xc_X4_takeSum xa_X4_takeSum (t := 10) rfl h
        simp (maxDischargeDepth := 12) -implicitDefEqProofs [vb_X4_takeSum_0, vb_X4_takeSum_10, vb_X4_takeSum_67, xI_0, xI_1, xI_3, xI_6, xI_7, xI_8, xI_14, xI_25, xI_33, xI_36, xI_37, xI_46, xI_49, xI_50, xI_60, xI_61, xI_62, xw_X4_takeSum_0, xw_X4_takeSum_10, xw_X4_takeSum_67, zw_lit, xB_c, xB_s, xB_n, i1_c, j2_c, k1_c, jJ_e, xlg, xls, xla, xpd, ppush, zw_m1, zw_m2, zw_m3, gf_10_2, pf_10_2, tg_10_2, gv_213_2, xD1, xD2, xD3, xD4, xD5, xD6, xb1_0, en, e2, c, c', pp] at h
        exact ⟨H, 1, s, LFw_refl, Or.inr (Or.inr ⟨rfl, ho, hd, hT⟩), h⟩
set_option maxRecDepth 100000 in
theorem sp_X4_takeSum (w sz d : Int) (T : Int → Int) (f : LwS → Option LwS) (hw : KW w) (hf : thG (pPr f T sz) sz) (hP : PCE 46 w sz T d (pPr f T sz)) : PCE 45 w sz T d (sSm f T sz) := by
  intro s H hT hg hK E n res h
  have h := call_runP 6 vm_X4_takeSum h
  have h := xw_top (hd := [10]) 5 xD6_ok xc_X4_takeSum xa_X4_takeSum (t := 0) rfl h
  simp (maxDischargeDepth := 12) -implicitDefEqProofs [vb_X4_takeSum_0, vb_X4_takeSum_10, vb_X4_takeSum_67, xI_0, xI_1, xI_3, xI_6, xI_7, xI_8, xI_14, xI_25, xI_33, xI_36, xI_37, xI_46, xI_49, xI_50, xI_60, xI_61, xI_62, xw_X4_takeSum_0, xw_X4_takeSum_10, xw_X4_takeSum_67, zw_lit, xB_c, xB_s, xB_n, i1_c, j2_c, k1_c, jJ_e, xlg, xls, xla, xpd, ppush, zw_m1, zw_m2, zw_m3, gf_10_2, pf_10_2, tg_10_2, gv_213_2, xD1, xD2, xD3, xD4, xD5, xD6, xb1_0] at h
  obtain ⟨r, H1, ⟨v1, s2, rfl, l1, r1⟩, g⟩ := xc_use h (hP s H hT hg hK)
  simp (maxDischargeDepth := 12) -implicitDefEqProofs [vb_X4_takeSum_0, vb_X4_takeSum_10, vb_X4_takeSum_67, xI_0, xI_1, xI_3, xI_6, xI_7, xI_8, xI_14, xI_25, xI_33, xI_36, xI_37, xI_46, xI_49, xI_50, xI_60, xI_61, xI_62, xw_X4_takeSum_0, xw_X4_takeSum_10, xw_X4_takeSum_67, zw_lit, xB_c, xB_s, xB_n, i1_c, j2_c, k1_c, jJ_e, xlg, xls, xla, xpd, ppush, zw_m1, zw_m2, zw_m3, gf_10_2, pf_10_2, tg_10_2, gv_213_2, xD1, xD2, xD3, xD4, xD5, xD6, xb1_0] at g
  obtain ⟨m, hm, g⟩ := g
  have eo : (sSm f T sz) s = (match (pPr f T sz) s with
    | none => none
    | some s1 => sLp f T sz 30 s1) := rfl
  have nx : INVl w sz T (sLp f T sz) ((sSm f T sz) s) v1 0 s2 H1 := by
    rcases r1 with ⟨rfl, f1, t1, t2, t3⟩ | ⟨rfl, f1⟩ | ⟨rfl, f1, t1, t2⟩
    · obtain ⟨y1, ⟨y2, y3, y4⟩, y5⟩ := hf s s2 hg f1
      have := hg.2.2.1
      have := hg.2.2.2.2
      exact Or.inl ⟨rfl, t1, by omega, by omega, by rw [eo, f1]; rfl, t2, t3⟩
    · exact Or.inr (Or.inl ⟨rfl, by rw [eo, f1]⟩)
    · exact Or.inr (Or.inr ⟨rfl, by rw [eo, f1], t1, t2⟩)
  obtain ⟨H', u, s', k1, k2, k3⟩ := lp_X4_takeSum w sz d T f hw hf hP _ m 0 v1 _ s2 H1 (by omega) (by omega) nx g
  exact ⟨_, H', k3, u, s', rfl, LFw_trans l1 k1, k2⟩
