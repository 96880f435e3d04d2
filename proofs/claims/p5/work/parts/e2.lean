theorem gf_1_14 : gfOK 1 14 = true := by decide +kernel
def xm_X11_cure : List xbT := [(0, vb_X11_cure_0, some 42), (42, vb_X11_cure_42, some 44), (44, vb_X11_cure_44, some 60), (60, vb_X11_cure_60, some 88), (88, vb_X11_cure_88, some 98), (98, vb_X11_cure_98, some 121), (121, vb_X11_cure_121, some 127), (127, vb_X11_cure_127, none)]
theorem xc_X11_cure : xOK kd_X11_cure xm_X11_cure := ⟨ve_X11_cure_0, ve_X11_cure_42, ve_X11_cure_44, ve_X11_cure_60, ve_X11_cure_88, ve_X11_cure_98, ve_X11_cure_121, ve_X11_cure_127, trivial⟩
theorem xa_X11_cure : xm_X11_cure.all (fun q => aOKb q.2.1 && !q.2.1.isEmpty) = true := by decide +kernel
theorem xw_X11_cure_0 {E : xE} {res : xR} {N : Nat} {hd : List Nat} {C : xCT} {k : Nat} {L : List Int} {st : List pv} {H : PH} : xW E res N kd_X11_cure xm_X11_cure hd C (k + 1) 0 L st H = xB (fun t L st H => if t ∈ hd then xJ E res N kd_X11_cure t L st H else xW E res N kd_X11_cure xm_X11_cure hd C k t L st H) (REPR E res) C (some 42) vb_X11_cure_0 0 L st H := Eq.trans rfl rfl
theorem xw_X11_cure_42 {E : xE} {res : xR} {N : Nat} {hd : List Nat} {C : xCT} {k : Nat} {L : List Int} {st : List pv} {H : PH} : xW E res N kd_X11_cure xm_X11_cure hd C (k + 1) 42 L st H = xB (fun t L st H => if t ∈ hd then xJ E res N kd_X11_cure t L st H else xW E res N kd_X11_cure xm_X11_cure hd C k t L st H) (REPR E res) C (some 44) vb_X11_cure_42 42 L st H := Eq.trans rfl rfl
theorem xw_X11_cure_44 {E : xE} {res : xR} {N : Nat} {hd : List Nat} {C : xCT} {k : Nat} {L : List Int} {st : List pv} {H : PH} : xW E res N kd_X11_cure xm_X11_cure hd C (k + 1) 44 L st H = xB (fun t L st H => if t ∈ hd then xJ E res N kd_X11_cure t L st H else xW E res N kd_X11_cure xm_X11_cure hd C k t L st H) (REPR E res) C (some 60) vb_X11_cure_44 44 L st H := Eq.trans rfl rfl
theorem xw_X11_cure_60 {E : xE} {res : xR} {N : Nat} {hd : List Nat} {C : xCT} {k : Nat} {L : List Int} {st : List pv} {H : PH} : xW E res N kd_X11_cure xm_X11_cure hd C (k + 1) 60 L st H = xB (fun t L st H => if t ∈ hd then xJ E res N kd_X11_cure t L st H else xW E res N kd_X11_cure xm_X11_cure hd C k t L st H) (REPR E res) C (some 88) vb_X11_cure_60 60 L st H := Eq.trans rfl rfl
theorem xw_X11_cure_88 {E : xE} {res : xR} {N : Nat} {hd : List Nat} {C : xCT} {k : Nat} {L : List Int} {st : List pv} {H : PH} : xW E res N kd_X11_cure xm_X11_cure hd C (k + 1) 88 L st H = xB (fun t L st H => if t ∈ hd then xJ E res N kd_X11_cure t L st H else xW E res N kd_X11_cure xm_X11_cure hd C k t L st H) (REPR E res) C (some 98) vb_X11_cure_88 88 L st H := Eq.trans rfl rfl
theorem xw_X11_cure_98 {E : xE} {res : xR} {N : Nat} {hd : List Nat} {C : xCT} {k : Nat} {L : List Int} {st : List pv} {H : PH} : xW E res N kd_X11_cure xm_X11_cure hd C (k + 1) 98 L st H = xB (fun t L st H => if t ∈ hd then xJ E res N kd_X11_cure t L st H else xW E res N kd_X11_cure xm_X11_cure hd C k t L st H) (REPR E res) C (some 121) vb_X11_cure_98 98 L st H := Eq.trans rfl rfl
theorem xw_X11_cure_121 {E : xE} {res : xR} {N : Nat} {hd : List Nat} {C : xCT} {k : Nat} {L : List Int} {st : List pv} {H : PH} : xW E res N kd_X11_cure xm_X11_cure hd C (k + 1) 121 L st H = xB (fun t L st H => if t ∈ hd then xJ E res N kd_X11_cure t L st H else xW E res N kd_X11_cure xm_X11_cure hd C k t L st H) (REPR E res) C (some 127) vb_X11_cure_121 121 L st H := Eq.trans rfl rfl
theorem xw_X11_cure_127 {E : xE} {res : xR} {N : Nat} {hd : List Nat} {C : xCT} {k : Nat} {L : List Int} {st : List pv} {H : PH} : xW E res N kd_X11_cure xm_X11_cure hd C (k + 1) 127 L st H = xB (fun t L st H => if t ∈ hd then xJ E res N kd_X11_cure t L st H else xW E res N kd_X11_cure xm_X11_cure hd C k t L st H) (REPR E res) C (none) vb_X11_cure_127 127 L st H := Eq.trans rfl rfl
def xm_X1_cureFor : List xbT := [(0, vb_X1_cureFor_0, some 2), (2, vb_X1_cureFor_2, some 37), (37, vb_X1_cureFor_37, some 43), (43, vb_X1_cureFor_43, none)]
theorem xc_X1_cureFor : xOK kd_X1_cureFor xm_X1_cureFor := ⟨ve_X1_cureFor_0, ve_X1_cureFor_2, ve_X1_cureFor_37, ve_X1_cureFor_43, trivial⟩
theorem xa_X1_cureFor : xm_X1_cureFor.all (fun q => aOKb q.2.1 && !q.2.1.isEmpty) = true := by decide +kernel
theorem xw_X1_cureFor_0 {E : xE} {res : xR} {N : Nat} {hd : List Nat} {C : xCT} {k : Nat} {L : List Int} {st : List pv} {H : PH} : xW E res N kd_X1_cureFor xm_X1_cureFor hd C (k + 1) 0 L st H = xB (fun t L st H => if t ∈ hd then xJ E res N kd_X1_cureFor t L st H else xW E res N kd_X1_cureFor xm_X1_cureFor hd C k t L st H) (REPR E res) C (some 2) vb_X1_cureFor_0 0 L st H := Eq.trans rfl rfl
theorem xw_X1_cureFor_2 {E : xE} {res : xR} {N : Nat} {hd : List Nat} {C : xCT} {k : Nat} {L : List Int} {st : List pv} {H : PH} : xW E res N kd_X1_cureFor xm_X1_cureFor hd C (k + 1) 2 L st H = xB (fun t L st H => if t ∈ hd then xJ E res N kd_X1_cureFor t L st H else xW E res N kd_X1_cureFor xm_X1_cureFor hd C k t L st H) (REPR E res) C (some 37) vb_X1_cureFor_2 2 L st H := Eq.trans rfl rfl
theorem xw_X1_cureFor_37 {E : xE} {res : xR} {N : Nat} {hd : List Nat} {C : xCT} {k : Nat} {L : List Int} {st : List pv} {H : PH} : xW E res N kd_X1_cureFor xm_X1_cureFor hd C (k + 1) 37 L st H = xB (fun t L st H => if t ∈ hd then xJ E res N kd_X1_cureFor t L st H else xW E res N kd_X1_cureFor xm_X1_cureFor hd C k t L st H) (REPR E res) C (some 43) vb_X1_cureFor_37 37 L st H := Eq.trans rfl rfl
theorem xw_X1_cureFor_43 {E : xE} {res : xR} {N : Nat} {hd : List Nat} {C : xCT} {k : Nat} {L : List Int} {st : List pv} {H : PH} : xW E res N kd_X1_cureFor xm_X1_cureFor hd C (k + 1) 43 L st H = xB (fun t L st H => if t ∈ hd then xJ E res N kd_X1_cureFor t L st H else xW E res N kd_X1_cureFor xm_X1_cureFor hd C k t L st H) (REPR E res) C (none) vb_X1_cureFor_43 43 L st H := Eq.trans rfl rfl
def xm_X1_isCure : List xbT := [(0, vb_X1_isCure_0, some 42), (42, vb_X1_isCure_42, some 98), (98, vb_X1_isCure_98, some 119), (119, vb_X1_isCure_119, some 125), (125, vb_X1_isCure_125, some 159), (159, vb_X1_isCure_159, some 160), (160, vb_X1_isCure_160, none)]
theorem xc_X1_isCure : xOK kd_X1_isCure xm_X1_isCure := ⟨ve_X1_isCure_0, ve_X1_isCure_42, ve_X1_isCure_98, ve_X1_isCure_119, ve_X1_isCure_125, ve_X1_isCure_159, ve_X1_isCure_160, trivial⟩
theorem xa_X1_isCure : xm_X1_isCure.all (fun q => aOKb q.2.1 && !q.2.1.isEmpty) = true := by decide +kernel
theorem xw_X1_isCure_0 {E : xE} {res : xR} {N : Nat} {hd : List Nat} {C : xCT} {k : Nat} {L : List Int} {st : List pv} {H : PH} : xW E res N kd_X1_isCure xm_X1_isCure hd C (k + 1) 0 L st H = xB (fun t L st H => if t ∈ hd then xJ E res N kd_X1_isCure t L st H else xW E res N kd_X1_isCure xm_X1_isCure hd C k t L st H) (REPR E res) C (some 42) vb_X1_isCure_0 0 L st H := Eq.trans rfl rfl
theorem xw_X1_isCure_42 {E : xE} {res : xR} {N : Nat} {hd : List Nat} {C : xCT} {k : Nat} {L : List Int} {st : List pv} {H : PH} : xW E res N kd_X1_isCure xm_X1_isCure hd C (k + 1) 42 L st H = xB (fun t L st H => if t ∈ hd then xJ E res N kd_X1_isCure t L st H else xW E res N kd_X1_isCure xm_X1_isCure hd C k t L st H) (REPR E res) C (some 98) vb_X1_isCure_42 42 L st H := Eq.trans rfl rfl
theorem xw_X1_isCure_98 {E : xE} {res : xR} {N : Nat} {hd : List Nat} {C : xCT} {k : Nat} {L : List Int} {st : List pv} {H : PH} : xW E res N kd_X1_isCure xm_X1_isCure hd C (k + 1) 98 L st H = xB (fun t L st H => if t ∈ hd then xJ E res N kd_X1_isCure t L st H else xW E res N kd_X1_isCure xm_X1_isCure hd C k t L st H) (REPR E res) C (some 119) vb_X1_isCure_98 98 L st H := Eq.trans rfl rfl
theorem xw_X1_isCure_119 {E : xE} {res : xR} {N : Nat} {hd : List Nat} {C : xCT} {k : Nat} {L : List Int} {st : List pv} {H : PH} : xW E res N kd_X1_isCure xm_X1_isCure hd C (k + 1) 119 L st H = xB (fun t L st H => if t ∈ hd then xJ E res N kd_X1_isCure t L st H else xW E res N kd_X1_isCure xm_X1_isCure hd C k t L st H) (REPR E res) C (some 125) vb_X1_isCure_119 119 L st H := Eq.trans rfl rfl
theorem xw_X1_isCure_125 {E : xE} {res : xR} {N : Nat} {hd : List Nat} {C : xCT} {k : Nat} {L : List Int} {st : List pv} {H : PH} : xW E res N kd_X1_isCure xm_X1_isCure hd C (k + 1) 125 L st H = xB (fun t L st H => if t ∈ hd then xJ E res N kd_X1_isCure t L st H else xW E res N kd_X1_isCure xm_X1_isCure hd C k t L st H) (REPR E res) C (some 159) vb_X1_isCure_125 125 L st H := Eq.trans rfl rfl
theorem xw_X1_isCure_159 {E : xE} {res : xR} {N : Nat} {hd : List Nat} {C : xCT} {k : Nat} {L : List Int} {st : List pv} {H : PH} : xW E res N kd_X1_isCure xm_X1_isCure hd C (k + 1) 159 L st H = xB (fun t L st H => if t ∈ hd then xJ E res N kd_X1_isCure t L st H else xW E res N kd_X1_isCure xm_X1_isCure hd C k t L st H) (REPR E res) C (some 160) vb_X1_isCure_159 159 L st H := Eq.trans rfl rfl
theorem xw_X1_isCure_160 {E : xE} {res : xR} {N : Nat} {hd : List Nat} {C : xCT} {k : Nat} {L : List Int} {st : List pv} {H : PH} : xW E res N kd_X1_isCure xm_X1_isCure hd C (k + 1) 160 L st H = xB (fun t L st H => if t ∈ hd then xJ E res N kd_X1_isCure t L st H else xW E res N kd_X1_isCure xm_X1_isCure hd C k t L st H) (REPR E res) C (none) vb_X1_isCure_160 160 L st H := Eq.trans rfl rfl
def xm_X8_has : List xbT := [(0, vb_X8_has_0, some 2), (2, vb_X8_has_2, some 21), (21, vb_X8_has_21, some 27), (27, vb_X8_has_27, none)]
theorem xc_X8_has : xOK kd_X8_has xm_X8_has := ⟨ve_X8_has_0, ve_X8_has_2, ve_X8_has_21, ve_X8_has_27, trivial⟩
theorem xa_X8_has : xm_X8_has.all (fun q => aOKb q.2.1 && !q.2.1.isEmpty) = true := by decide +kernel
theorem xw_X8_has_0 {E : xE} {res : xR} {N : Nat} {hd : List Nat} {C : xCT} {k : Nat} {L : List Int} {st : List pv} {H : PH} : xW E res N kd_X8_has xm_X8_has hd C (k + 1) 0 L st H = xB (fun t L st H => if t ∈ hd then xJ E res N kd_X8_has t L st H else xW E res N kd_X8_has xm_X8_has hd C k t L st H) (REPR E res) C (some 2) vb_X8_has_0 0 L st H := Eq.trans rfl rfl
theorem xw_X8_has_2 {E : xE} {res : xR} {N : Nat} {hd : List Nat} {C : xCT} {k : Nat} {L : List Int} {st : List pv} {H : PH} : xW E res N kd_X8_has xm_X8_has hd C (k + 1) 2 L st H = xB (fun t L st H => if t ∈ hd then xJ E res N kd_X8_has t L st H else xW E res N kd_X8_has xm_X8_has hd C k t L st H) (REPR E res) C (some 21) vb_X8_has_2 2 L st H := Eq.trans rfl rfl
theorem xw_X8_has_21 {E : xE} {res : xR} {N : Nat} {hd : List Nat} {C : xCT} {k : Nat} {L : List Int} {st : List pv} {H : PH} : xW E res N kd_X8_has xm_X8_has hd C (k + 1) 21 L st H = xB (fun t L st H => if t ∈ hd then xJ E res N kd_X8_has t L st H else xW E res N kd_X8_has xm_X8_has hd C k t L st H) (REPR E res) C (some 27) vb_X8_has_21 21 L st H := Eq.trans rfl rfl
theorem xw_X8_has_27 {E : xE} {res : xR} {N : Nat} {hd : List Nat} {C : xCT} {k : Nat} {L : List Int} {st : List pv} {H : PH} : xW E res N kd_X8_has xm_X8_has hd C (k + 1) 27 L st H = xB (fun t L st H => if t ∈ hd then xJ E res N kd_X8_has t L st H else xW E res N kd_X8_has xm_X8_has hd C k t L st H) (REPR E res) C (none) vb_X8_has_27 27 L st H := Eq.trans rfl rfl
/-! ===== cure: what the class leaves as it is ===== -/
theorem CQ_54 {H H1 H' : PH} {S : Int → Int → Int} {n : Int} (h : CQ H H1 S n) (f : ∀ c, ¬ c = 44 → ¬ c = 45 → ¬ c = 54 → H' c = H1 c) : CQ H H' S n := by
  obtain ⟨r, m, o, t, e⟩ := h
  have ok := RC_sz r
  have ld := r.2.2.1
  have kq : ∀ q, KL q → H' q = H1 q ∧ H' (q + 1) = H1 (q + 1) := fun q hq => by
    have := KL_in hq
    exact ⟨f q (by omega) (by omega) (by omega), f _ (by omega) (by omega) (by omega)⟩
  have kw : ∀ w, KW w → (H' w 2 = H1 w 2 ∧ H' w 3 = H1 w 3) ∧ H' (w + 1) = H1 (w + 1) := fun w hw => by
    have := KWz hw
    rw [f w (by omega) (by omega) (by omega)]
    exact ⟨⟨rfl, rfl⟩, f _ (by omega) (by omega) (by omega)⟩
  have ci := CI_fr ok.1 r.1 (fun c hc => f c (by omega) (by omega) (by omega)) kq kw
  have gl : GFL H1 H' := GFL_of ld (by rw [f 0 (by decide) (by decide) (by decide)]; exact ⟨rfl, rfl⟩) (f 47 (by decide) (by decide) (by decide)) (by rw [f 1 (by decide) (by decide) (by decide)]; exact ⟨rfl, rfl⟩) (fun l l0 l1 => f _ (by omega) (by omega) (by omega)) kw (fun q hq _ => kq q hq)
  exact ⟨RC_fr r ci (CPr_fr (f 42 (by decide) (by decide) (by decide)) (f 43 (by decide) (by decide) (by decide)) r.2.1) gl, MCC_fr (fun c c0 c1 => f c (by omega) (by omega) (by omega)) m, OF_trans o ⟨fun c hc => f c (by omega) (by omega) (by omega), ⟨by rw [f 0 (by decide) (by decide) (by decide)], f 589 (by decide) (by decide) (by decide)⟩, f 214 (by decide) (by decide) (by decide)⟩, by rw [f 213 (by decide) (by decide) (by decide)]; exact t, by rw [f 372 (by decide) (by decide) (by decide)]; exact e⟩
theorem likA_comm {A : Int → Int} {x y : Int} (h0 : 0 ≤ A 1) : likA A x y = true ↔ likA A y x = true := by
  unfold likA
  rw [lkA_iff, lkA_iff]
  constructor
  · rintro ⟨j, a, b, c⟩
    exact ⟨j, a, b, c.symm⟩
  · rintro ⟨j, a, b, c⟩
    exact ⟨j, a, b, c.symm⟩
set_option maxRecDepth 100000 in
theorem lp_has (m c : Int) (H : PH) {E : xE} {res : xR} : ∀ (n : Nat) (i : Int), RUN E res n kd_X8_has (zget kd_X8_has 2) 2 [m, 0, c, i] [] H → ∃ v, REPR E res (some (0, v)) H := by
  intro n
  induction n using Nat.strongRecOn with
  | _ n ih =>
    intro i h
    have h := xw_top (hd := [2]) 6 xD6_ok xc_X8_has xa_X8_has (t := 2) rfl h
    simp (maxDischargeDepth := 12) -implicitDefEqProofs [vb_X8_has_0, vb_X8_has_2, vb_X8_has_21, vb_X8_has_27, xI_1, xI_2, xI_3, xI_6, xI_7, xI_36, xI_44, xI_46, xI_60, xI_62, xw_X8_has_0, xw_X8_has_2, xw_X8_has_21, xw_X8_has_27, zw_lit, xB_c, xB_s, xB_n, i1_c, j2_c, k1_c, jJ_e, xlg, xls, xla, xpd, ppush, zw_m1, zw_m2, zw_m3, xD1, xD2, xD3, xD4, xD5, xD6, xb1_0] at h
    repeat' (first | (refine Or.elim h ?_ ?_ <;> clear h <;> intro h) | (refine And.elim ?_ h; clear h; intro _ h))
    all_goals first | exact ⟨_, h⟩ | (obtain ⟨k, hk, h⟩ := h; exact ih k hk _ h)
theorem sf_has (m c : Int) (H : PH) : SPEC 78 [(1, m), (0, c)] H (fun r H' => (∃ v, r = some (0, v)) ∧ H' = H) := by
  intro E n res h
  have h := call_runP 4 vm_X8_has h
  have h := xw_top (hd := [2]) 6 xD6_ok xc_X8_has xa_X8_has (t := 0) rfl h
  simp (maxDischargeDepth := 12) -implicitDefEqProofs [vb_X8_has_0, vb_X8_has_2, vb_X8_has_21, vb_X8_has_27, xI_1, xI_2, xI_3, xI_6, xI_7, xI_36, xI_44, xI_46, xI_60, xI_62, xw_X8_has_0, xw_X8_has_2, xw_X8_has_21, xw_X8_has_27, zw_lit, xB_c, xB_s, xB_n, i1_c, j2_c, k1_c, jJ_e, xlg, xls, xla, xpd, ppush, zw_m1, zw_m2, zw_m3, xD1, xD2, xD3, xD4, xD5, xD6, xb1_0] at h
  obtain ⟨k, hk, h⟩ := h
  obtain ⟨v, g⟩ := lp_has m c H k 0 h
  exact ⟨_, _, g, ⟨v, rfl⟩, rfl⟩
set_option maxRecDepth 100000 in
theorem lp_isc (k s o g sm both : Int) (S : Int → Int → Int) (N : Int) (X : PH) (hX : RC X S N) (hs : ∃ l f, VM sm l f) (hg : 0 ≤ g) {E : xE} {res : xR} : ∀ (n : Nat) (b ch x y : Int) (H : PH), 0 ≤ b → (∀ c, ¬ c = 44 → ¬ c = 45 → ¬ c = 54 → H c = pup (pup X (4 + s) o 1) (4 + o) s 1 c) → ((1 ≤ s ∧ s ≤ 36) ∧ (1 ≤ o ∧ o ≤ 36)) → RUN E res n kd_X1_isCure (zget kd_X1_isCure 42) 42 [1, k, s, o, g, sm, 0, both, ch, b, x, y] [] H → ∃ (H' : PH) (b' ch' x' y' : Int), (∀ c, ¬ c = 44 → ¬ c = 45 → ¬ c = 54 → H' c = pup (pup X (4 + s) o 1) (4 + o) s 1 c) ∧ xJ E res n kd_X1_isCure 125 [1, k, s, o, g, sm, 0, both, ch', b', x', y'] [] H' := by
  intro n
  induction n using Nat.strongRecOn with
  | _ n ih =>
    intro b ch x y H b0 hF hso h
    have ok := RC_sz hX
    have a0 := ok.1.1
    have e2 : H 1 2 = S 0 0 := by
      rw [hF 1 (by decide) (by decide) (by decide), xp_ne (by omega), xp_ne (by omega)]
      exact hX.1.1.1.1.symm
    by_cases c : b < S 0 0
    · have c' : ¬ S 0 0 ≤ b := by omega
      have z1 : zw (b + 1) = b + 1 := zw_lit (by omega) (by omega)
      have g46 : ∀ Y : PH, gv Y 46 b = 57 + 3 * b := fun Y => gv46 b0 (by omega)
      have kb : ∀ Y : PH, gv Y (57 + 3 * b) 0 = Y (57 + 3 * b) 0 := (KB_f (KB_of (b := b) b0 (by omega))).2.2.1
      have hm : H (57 + 3 * b) 0 = X (57 + 3 * b) 0 := by
        rw [hF _ (by omega) (by omega) (by omega), xp_ne (by omega), xp_ne (by omega)]
      have vb := (hX.1.1.2.1 b b0 c).1
      obtain ⟨l, f, vs⟩ := hs
      have nx : ∀ (Y : PH) (ch' x' y' : Int), (∀ c, ¬ c = 44 → ¬ c = 45 → ¬ c = 54 → Y c = pup (pup X (4 + s) o 1) (4 + o) s 1 c) → xJ E res n kd_X1_isCure 42 [1, k, s, o, g, sm, 0, both, ch', b + 1, x', y'] [] Y → ∃ (H' : PH) (b' ch' x' y' : Int), (∀ c, ¬ c = 44 → ¬ c = 45 → ¬ c = 54 → H' c = pup (pup X (4 + s) o 1) (4 + o) s 1 c) ∧ xJ E res n kd_X1_isCure 125 [1, k, s, o, g, sm, 0, both, ch', b', x', y'] [] H' := by
        rintro Y ch' x' y' hY ⟨m, hm, q⟩
        obtain ⟨H', b', c'', x'', y'', j1, j2⟩ := ih m hm (b + 1) ch' x' y' Y (by omega) hY hso q
        exact ⟨H', b', c'', x'', y'', j1, xJ_up j2 (by omega)⟩
      have i54 : (0 : Int) ≤ 54 := by decide
      have h := xw_top (hd := [42, 125]) 9 xD6_ok xc_X1_isCure xa_X1_isCure (t := 42) rfl h
      simp (maxDischargeDepth := 12) -implicitDefEqProofs [vb_X1_isCure_0, vb_X1_isCure_42, vb_X1_isCure_98, vb_X1_isCure_119, vb_X1_isCure_125, vb_X1_isCure_159, vb_X1_isCure_160, xI_0, xI_1, xI_2, xI_3, xI_4, xI_5, xI_6, xI_7, xI_36, xI_37, xI_38, xI_39, xI_46, xI_49, xI_51, xI_52, xI_53, xI_60, xI_61, xI_62, xw_X1_isCure_0, xw_X1_isCure_42, xw_X1_isCure_98, xw_X1_isCure_119, xw_X1_isCure_125, xw_X1_isCure_159, xw_X1_isCure_160, zw_lit, xB_c, xB_s, xB_n, i1_c, j2_c, k1_c, jJ_e, xlg, xls, xla, xpd, ppush, zw_m1, zw_m2, zw_m3, gf_0_0, gf_1_0, gf_1_1, gf_1_2, gf_1_3, gf_1_7, gf_1_14, gf_5_3, tg_0_0, tg_1_0, tg_1_1, tg_1_14, tg_1_2, tg_1_3, tg_1_7, tg_5_3, gv_1_0, gv_1_1, gv_1_2, gv_1_3, gv_1_7, gv_1_14, xD1, xD2, xD3, xD4, xD5, xD6, xb1_0, e2, c, c', g46, kb, hg, xp_ne] at h
      have hH : ∀ d, ¬ d = 44 → ¬ d = 45 → ¬ d = 54 → pup H 54 b (H g b) d = pup (pup X (4 + s) o 1) (4 + o) s 1 d := fun d d1 d2 d3 => by rw [xp_ne d3]; exact hF d d1 d2 d3
      have gapU : ∀ (Y Z : PH) (u : Int), (∀ d, ¬ d = 44 → ¬ d = 45 → ¬ d = 54 → Y d = pup (pup X (4 + s) o 1) (4 + o) s 1 d) → (∀ d, ¬ d = 44 → ¬ d = 45 → Z d = Y d) → ∀ d, ¬ d = 44 → ¬ d = 45 → ¬ d = 54 → pup Z 54 b u d = pup (pup X (4 + s) o 1) (4 + o) s 1 d := fun Y Z u hY hZ d d1 d2 d3 => by rw [xp_ne d3, hZ d d1 d2]; exact hY d d1 d2 d3
      have v1 : 0 ≤ szf sm ∧ szf sm ≤ 8 := by have := vs.1; have := vs.2.1; omega
      have v2 : 0 ≤ szf (H (57 + 3 * b) 0) ∧ szf (H (57 + 3 * b) 0) ≤ 8 := by rw [hm]; have := vb.1; have := vb.2.1; omega
      have v3 : ∀ i, 0 ≤ i → i < szf sm → 0 ≤ sgf sm i ∧ sgf sm i < 38 := fun i i0 i1 => by
        have := vs.2.2.1 i i0 (by rw [← vs.1]; exact i1)
        omega
      obtain ⟨r1, H1, ⟨⟨u1, rfl⟩, rfl⟩, g1⟩ := xc_use h (sf_has (H (57 + 3 * b) 0) o _)
      simp (maxDischargeDepth := 12) -implicitDefEqProofs [vb_X1_isCure_0, vb_X1_isCure_42, vb_X1_isCure_98, vb_X1_isCure_119, vb_X1_isCure_125, vb_X1_isCure_159, vb_X1_isCure_160, xI_0, xI_1, xI_2, xI_3, xI_4, xI_5, xI_6, xI_7, xI_36, xI_37, xI_38, xI_39, xI_46, xI_49, xI_51, xI_52, xI_53, xI_60, xI_61, xI_62, xw_X1_isCure_0, xw_X1_isCure_42, xw_X1_isCure_98, xw_X1_isCure_119, xw_X1_isCure_125, xw_X1_isCure_159, xw_X1_isCure_160, zw_lit, xB_c, xB_s, xB_n, i1_c, j2_c, k1_c, jJ_e, xlg, xls, xla, xpd, ppush, zw_m1, zw_m2, zw_m3, gf_0_0, gf_1_0, gf_1_1, gf_1_2, gf_1_3, gf_1_7, gf_1_14, gf_5_3, tg_0_0, tg_1_0, tg_1_1, tg_1_14, tg_1_2, tg_1_3, tg_1_7, tg_5_3, gv_1_0, gv_1_1, gv_1_2, gv_1_3, gv_1_7, gv_1_14, xD1, xD2, xD3, xD4, xD5, xD6, xb1_0] at g1
      by_cases q1 : u1 = 0
      · have g1 := (g1.resolve_left (fun w => w.1 q1)).2
        rcases g1 with ⟨_, g1⟩ | ⟨_, g1⟩
        · rw [z1] at g1
          exact nx _ _ _ _ hH g1
        · obtain ⟨r2, H2, ⟨⟨u2, rfl⟩, rfl⟩, g2⟩ := xc_use g1 (sf_has (H (57 + 3 * b) 0) s _)
          simp (maxDischargeDepth := 12) -implicitDefEqProofs [vb_X1_isCure_0, vb_X1_isCure_42, vb_X1_isCure_98, vb_X1_isCure_119, vb_X1_isCure_125, vb_X1_isCure_159, vb_X1_isCure_160, xI_0, xI_1, xI_2, xI_3, xI_4, xI_5, xI_6, xI_7, xI_36, xI_37, xI_38, xI_39, xI_46, xI_49, xI_51, xI_52, xI_53, xI_60, xI_61, xI_62, xw_X1_isCure_0, xw_X1_isCure_42, xw_X1_isCure_98, xw_X1_isCure_119, xw_X1_isCure_125, xw_X1_isCure_159, xw_X1_isCure_160, zw_lit, xB_c, xB_s, xB_n, i1_c, j2_c, k1_c, jJ_e, xlg, xls, xla, xpd, ppush, zw_m1, zw_m2, zw_m3, gf_0_0, gf_1_0, gf_1_1, gf_1_2, gf_1_3, gf_1_7, gf_1_14, gf_5_3, tg_0_0, tg_1_0, tg_1_1, tg_1_14, tg_1_2, tg_1_3, tg_1_7, tg_5_3, gv_1_0, gv_1_1, gv_1_2, gv_1_3, gv_1_7, gv_1_14, xD1, xD2, xD3, xD4, xD5, xD6, xb1_0, z1] at g2
          rcases g2 with ⟨_, g2⟩ | ⟨_, g2⟩
          · exact nx _ _ _ _ hH g2
          · obtain ⟨r3, H3, ⟨rfl, fr⟩, g3⟩ := xc_use g2 (sp_X8_gap sm (H (57 + 3 * b) 0) _ v1 v2 v3)
            simp (maxDischargeDepth := 12) -implicitDefEqProofs [vb_X1_isCure_0, vb_X1_isCure_42, vb_X1_isCure_98, vb_X1_isCure_119, vb_X1_isCure_125, vb_X1_isCure_159, vb_X1_isCure_160, xI_0, xI_1, xI_2, xI_3, xI_4, xI_5, xI_6, xI_7, xI_36, xI_37, xI_38, xI_39, xI_46, xI_49, xI_51, xI_52, xI_53, xI_60, xI_61, xI_62, xw_X1_isCure_0, xw_X1_isCure_42, xw_X1_isCure_98, xw_X1_isCure_119, xw_X1_isCure_125, xw_X1_isCure_159, xw_X1_isCure_160, zw_lit, xB_c, xB_s, xB_n, i1_c, j2_c, k1_c, jJ_e, xlg, xls, xla, xpd, ppush, zw_m1, zw_m2, zw_m3, gf_0_0, gf_1_0, gf_1_1, gf_1_2, gf_1_3, gf_1_7, gf_1_14, gf_5_3, tg_0_0, tg_1_0, tg_1_1, tg_1_14, tg_1_2, tg_1_3, tg_1_7, tg_5_3, gv_1_0, gv_1_1, gv_1_2, gv_1_3, gv_1_7, gv_1_14, xD1, xD2, xD3, xD4, xD5, xD6, xb1_0] at g3
            exact nx _ _ _ _ (gapU _ H3 _ hH fr) g3
      · have g1 := (g1.resolve_right (fun w => q1 w.1)).2
        obtain ⟨r3, H3, ⟨rfl, fr⟩, g3⟩ := xc_use g1 (sp_X8_gap sm (H (57 + 3 * b) 0) _ v1 v2 v3)
        simp (maxDischargeDepth := 12) -implicitDefEqProofs [vb_X1_isCure_0, vb_X1_isCure_42, vb_X1_isCure_98, vb_X1_isCure_119, vb_X1_isCure_125, vb_X1_isCure_159, vb_X1_isCure_160, xI_0, xI_1, xI_2, xI_3, xI_4, xI_5, xI_6, xI_7, xI_36, xI_37, xI_38, xI_39, xI_46, xI_49, xI_51, xI_52, xI_53, xI_60, xI_61, xI_62, xw_X1_isCure_0, xw_X1_isCure_42, xw_X1_isCure_98, xw_X1_isCure_119, xw_X1_isCure_125, xw_X1_isCure_159, xw_X1_isCure_160, zw_lit, xB_c, xB_s, xB_n, i1_c, j2_c, k1_c, jJ_e, xlg, xls, xla, xpd, ppush, zw_m1, zw_m2, zw_m3, gf_0_0, gf_1_0, gf_1_1, gf_1_2, gf_1_3, gf_1_7, gf_1_14, gf_5_3, tg_0_0, tg_1_0, tg_1_1, tg_1_14, tg_1_2, tg_1_3, tg_1_7, tg_5_3, gv_1_0, gv_1_1, gv_1_2, gv_1_3, gv_1_7, gv_1_14, xD1, xD2, xD3, xD4, xD5, xD6, xb1_0, z1] at g3
        exact nx _ _ _ _ (gapU _ H3 _ hH fr) g3
    · have c' : S 0 0 ≤ b := by omega
      have h := xw_top (hd := [42, 125]) 9 xD6_ok xc_X1_isCure xa_X1_isCure (t := 42) rfl h
      simp (maxDischargeDepth := 12) -implicitDefEqProofs [vb_X1_isCure_0, vb_X1_isCure_42, vb_X1_isCure_98, vb_X1_isCure_119, vb_X1_isCure_125, vb_X1_isCure_159, vb_X1_isCure_160, xI_0, xI_1, xI_2, xI_3, xI_4, xI_5, xI_6, xI_7, xI_36, xI_37, xI_38, xI_39, xI_46, xI_49, xI_51, xI_52, xI_53, xI_60, xI_61, xI_62, xw_X1_isCure_0, xw_X1_isCure_42, xw_X1_isCure_98, xw_X1_isCure_119, xw_X1_isCure_125, xw_X1_isCure_159, xw_X1_isCure_160, zw_lit, xB_c, xB_s, xB_n, i1_c, j2_c, k1_c, jJ_e, xlg, xls, xla, xpd, ppush, zw_m1, zw_m2, zw_m3, gf_0_0, gf_1_0, gf_1_1, gf_1_2, gf_1_3, gf_1_7, gf_1_14, gf_5_3, tg_0_0, tg_1_0, tg_1_1, tg_1_14, tg_1_2, tg_1_3, tg_1_7, tg_5_3, gv_1_0, gv_1_1, gv_1_2, gv_1_3, gv_1_7, gv_1_14, xD1, xD2, xD3, xD4, xD5, xD6, xb1_0, e2, c, c'] at h
      exact ⟨H, b, ch, x, y, hF, h⟩
set_option maxRecDepth 100000 in
theorem sf_isCure (k s o : Int) (S : Int → Int → Int) (n : Int) (H : PH) (hR : RC H S n) (hM : MCC (S 0) H) (hk : 0 ≤ k ∧ k < S 0 2) (hso : ((1 ≤ s ∧ s ≤ 36) ∧ (1 ≤ o ∧ o ≤ 36)) ∧ ¬ o = s) (h3 : ¬ H (4 + s) o = 1) : SPEC 19 [(2, 1), (0, k), (0, s), (0, o)] H (fun r H' => (∃ v, r = some (0, v)) ∧ CQ H H' S n) := by
  intro E n' res h
  have ok := RC_sz hR
  have a2 := ok.1.2.2.1
  have a0 := ok.1.1
  obtain ⟨⟨s1, s2⟩, s3⟩ := hso
  -- the costs that are set are three both ways
  have cm := hR.1.1.2.2.2.1
  have c1 := cm s o (by omega) (by omega) (by omega) (by omega)
  have c2 := cm o s (by omega) (by omega) (by omega) (by omega)
  have ne : ¬ ocF s = ocF o := fun e => s3 (ocF_inj (by omega) (by omega) e).symm
  have n46 : ∀ c : Int, 1 ≤ c → c ≤ 36 → ¬ ocF c = 46 := fun c h1 h2 => by
    unfold ocF
    rw [if_neg (by omega)]
    split <;> omega
  have lk : ¬ likA (S 0) (ocF s) (ocF o) = true := fun w => h3 (by
    rw [c1]
    unfold chA
    rw [if_neg ne, if_pos (Or.inr (Or.inr w))])
  have e3 : H (4 + s) o = 3 := by
    rw [c1]
    unfold chA
    rw [if_neg ne, if_neg]
    rintro (w | w | w)
    · exact n46 s (by omega) (by omega) w
    · exact n46 o (by omega) (by omega) w
    · exact lk w
  have e4 : H (4 + o) s = 3 := by
    rw [c2]
    unfold chA
    rw [if_neg (fun w => ne w.symm), if_neg]
    rintro (w | w | w)
    · exact n46 o (by omega) (by omega) w
    · exact n46 s (by omega) (by omega) w
    · exact lk ((likA_comm ok.1.2.1.1).mp w)
  have h := call_runP 12 vm_X1_isCure h
  have h := xw_top (hd := [42, 125]) 9 xD6_ok xc_X1_isCure xa_X1_isCure (t := 0) rfl h
  simp (maxDischargeDepth := 12) -implicitDefEqProofs [vb_X1_isCure_0, vb_X1_isCure_42, vb_X1_isCure_98, vb_X1_isCure_119, vb_X1_isCure_125, vb_X1_isCure_159, vb_X1_isCure_160, xI_0, xI_1, xI_2, xI_3, xI_4, xI_5, xI_6, xI_7, xI_36, xI_37, xI_38, xI_39, xI_46, xI_49, xI_51, xI_52, xI_53, xI_60, xI_61, xI_62, xw_X1_isCure_0, xw_X1_isCure_42, xw_X1_isCure_98, xw_X1_isCure_119, xw_X1_isCure_125, xw_X1_isCure_159, xw_X1_isCure_160, zw_lit, xB_c, xB_s, xB_n, i1_c, j2_c, k1_c, jJ_e, xlg, xls, xla, xpd, ppush, zw_m1, zw_m2, zw_m3, gf_0_0, gf_1_0, gf_1_1, gf_1_2, gf_1_3, gf_1_7, gf_1_14, gf_5_3, tg_0_0, tg_1_0, tg_1_1, tg_1_14, tg_1_2, tg_1_3, tg_1_7, tg_5_3, gv_1_0, gv_1_1, gv_1_2, gv_1_3, gv_1_7, gv_1_14, xD1, xD2, xD3, xD4, xD5, xD6, xb1_0] at h
  obtain ⟨r, X0, ⟨rfl, cq, g4, gg, gb, gc⟩, g⟩ := xc_use h (sp_c_gaps k S n H hR hM hk)
  have ld := cq.1.2.2.1
  have kq := ld.1.1 k hk.1 (by omega)
  have kin := KL_in kq
  have g3 : ∀ Y : PH, gv Y (X0 47 k) 3 = Y (X0 47 k) 3 := (KL_f kq).2.2.2.2.1
  have vk := (cq.1.1.1.2.2.1 k hk.1 hk.2).2.2.2
  have x3 : X0 (4 + s) o = 3 ∧ X0 (4 + o) s = 3 := by
    have cm := cq.1.1.1.2.2.2.1
    rw [cm s o (by omega) (by omega) (by omega) (by omega), cm o s (by omega) (by omega) (by omega) (by omega), ← c1, ← c2]
    exact ⟨e3, e4⟩
  simp (maxDischargeDepth := 12) -implicitDefEqProofs [vb_X1_isCure_0, vb_X1_isCure_42, vb_X1_isCure_98, vb_X1_isCure_119, vb_X1_isCure_125, vb_X1_isCure_159, vb_X1_isCure_160, xI_0, xI_1, xI_2, xI_3, xI_4, xI_5, xI_6, xI_7, xI_36, xI_37, xI_38, xI_39, xI_46, xI_49, xI_51, xI_52, xI_53, xI_60, xI_61, xI_62, xw_X1_isCure_0, xw_X1_isCure_42, xw_X1_isCure_98, xw_X1_isCure_119, xw_X1_isCure_125, xw_X1_isCure_159, xw_X1_isCure_160, zw_lit, xB_c, xB_s, xB_n, i1_c, j2_c, k1_c, jJ_e, xlg, xls, xla, xpd, ppush, zw_m1, zw_m2, zw_m3, gf_0_0, gf_1_0, gf_1_1, gf_1_2, gf_1_3, gf_1_7, gf_1_14, gf_5_3, tg_0_0, tg_1_0, tg_1_1, tg_1_14, tg_1_2, tg_1_3, tg_1_7, tg_5_3, gv_1_0, gv_1_1, gv_1_2, gv_1_3, gv_1_7, gv_1_14, xD1, xD2, xD3, xD4, xD5, xD6, xb1_0, gv47, g3] at g
  obtain ⟨r, X, ⟨⟨u1, rfl⟩, rfl⟩, g1⟩ := xc_use g (sf_has (X0 (X0 47 k) 3) o X0)
  simp (maxDischargeDepth := 12) -implicitDefEqProofs [vb_X1_isCure_0, vb_X1_isCure_42, vb_X1_isCure_98, vb_X1_isCure_119, vb_X1_isCure_125, vb_X1_isCure_159, vb_X1_isCure_160, xI_0, xI_1, xI_2, xI_3, xI_4, xI_5, xI_6, xI_7, xI_36, xI_37, xI_38, xI_39, xI_46, xI_49, xI_51, xI_52, xI_53, xI_60, xI_61, xI_62, xw_X1_isCure_0, xw_X1_isCure_42, xw_X1_isCure_98, xw_X1_isCure_119, xw_X1_isCure_125, xw_X1_isCure_159, xw_X1_isCure_160, zw_lit, xB_c, xB_s, xB_n, i1_c, j2_c, k1_c, jJ_e, xlg, xls, xla, xpd, ppush, zw_m1, zw_m2, zw_m3, gf_0_0, gf_1_0, gf_1_1, gf_1_2, gf_1_3, gf_1_7, gf_1_14, gf_5_3, tg_0_0, tg_1_0, tg_1_1, tg_1_14, tg_1_2, tg_1_3, tg_1_7, tg_5_3, gv_1_0, gv_1_1, gv_1_2, gv_1_3, gv_1_7, gv_1_14, xD1, xD2, xD3, xD4, xD5, xD6, xb1_0] at g1
  obtain ⟨r, H2, ⟨rfl, rfl⟩, g2⟩ := xc_use g1 (sp_X8_setCost s o 1 _ (by omega) (by omega))
  simp (maxDischargeDepth := 12) -implicitDefEqProofs [vb_X1_isCure_0, vb_X1_isCure_42, vb_X1_isCure_98, vb_X1_isCure_119, vb_X1_isCure_125, vb_X1_isCure_159, vb_X1_isCure_160, xI_0, xI_1, xI_2, xI_3, xI_4, xI_5, xI_6, xI_7, xI_36, xI_37, xI_38, xI_39, xI_46, xI_49, xI_51, xI_52, xI_53, xI_60, xI_61, xI_62, xw_X1_isCure_0, xw_X1_isCure_42, xw_X1_isCure_98, xw_X1_isCure_119, xw_X1_isCure_125, xw_X1_isCure_159, xw_X1_isCure_160, zw_lit, xB_c, xB_s, xB_n, i1_c, j2_c, k1_c, jJ_e, xlg, xls, xla, xpd, ppush, zw_m1, zw_m2, zw_m3, gf_0_0, gf_1_0, gf_1_1, gf_1_2, gf_1_3, gf_1_7, gf_1_14, gf_5_3, tg_0_0, tg_1_0, tg_1_1, tg_1_14, tg_1_2, tg_1_3, tg_1_7, tg_5_3, gv_1_0, gv_1_1, gv_1_2, gv_1_3, gv_1_7, gv_1_14, xD1, xD2, xD3, xD4, xD5, xD6, xb1_0] at g2
  obtain ⟨m, hm, g2⟩ := g2
  obtain ⟨H3, b', ch', x', y', j1, m2, hm2, j2⟩ := lp_isc k s o _ _ u1 S n X cq.1 ⟨_, _, vk⟩ (by omega) m 0 0 _ _ _ (by omega) (fun c _ _ _ => rfl) ⟨s1, s2⟩ g2
  have j2 := xw_top (hd := [42, 125]) 9 xD6_ok xc_X1_isCure xa_X1_isCure (t := 125) rfl j2
  simp (maxDischargeDepth := 12) -implicitDefEqProofs [vb_X1_isCure_0, vb_X1_isCure_42, vb_X1_isCure_98, vb_X1_isCure_119, vb_X1_isCure_125, vb_X1_isCure_159, vb_X1_isCure_160, xI_0, xI_1, xI_2, xI_3, xI_4, xI_5, xI_6, xI_7, xI_36, xI_37, xI_38, xI_39, xI_46, xI_49, xI_51, xI_52, xI_53, xI_60, xI_61, xI_62, xw_X1_isCure_0, xw_X1_isCure_42, xw_X1_isCure_98, xw_X1_isCure_119, xw_X1_isCure_125, xw_X1_isCure_159, xw_X1_isCure_160, zw_lit, xB_c, xB_s, xB_n, i1_c, j2_c, k1_c, jJ_e, xlg, xls, xla, xpd, ppush, zw_m1, zw_m2, zw_m3, gf_0_0, gf_1_0, gf_1_1, gf_1_2, gf_1_3, gf_1_7, gf_1_14, gf_5_3, tg_0_0, tg_1_0, tg_1_1, tg_1_14, tg_1_2, tg_1_3, tg_1_7, tg_5_3, gv_1_0, gv_1_1, gv_1_2, gv_1_3, gv_1_7, gv_1_14, xD1, xD2, xD3, xD4, xD5, xD6, xb1_0] at j2
  obtain ⟨r, H4, ⟨rfl, rfl⟩, g5⟩ := xc_use j2 (sp_X8_setCost s o 3 H3 (by omega) (by omega))
  have back : ∀ c, ¬ c = 44 → ¬ c = 45 → ¬ c = 54 → pup (pup H3 (4 + s) o 3) (4 + o) s 3 c = X c := fun c d1 d2 d3 => by
    funext i
    by_cases p1 : c = 4 + o
    · rw [p1, xp_at]
      by_cases p2 : i = s
      · rw [if_pos p2, p2, x3.2]
      · rw [if_neg p2, xp_ne (by omega), j1 _ (by omega) (by omega) (by omega), xp_at, if_neg p2, xp_ne (by omega)]
    · rw [xp_ne p1]
      by_cases p3 : c = 4 + s
      · rw [p3, xp_at]
        by_cases p2 : i = o
        · rw [if_pos p2, p2, x3.1]
        · rw [if_neg p2, j1 _ (by omega) (by omega) (by omega), xp_ne (by omega), xp_at, if_neg p2]
      · rw [xp_ne p3, j1 c d1 d2 d3, xp_ne p1, xp_ne p3]
  have c5 := CQ_54 cq back
  simp (maxDischargeDepth := 12) -implicitDefEqProofs [vb_X1_isCure_0, vb_X1_isCure_42, vb_X1_isCure_98, vb_X1_isCure_119, vb_X1_isCure_125, vb_X1_isCure_159, vb_X1_isCure_160, xI_0, xI_1, xI_2, xI_3, xI_4, xI_5, xI_6, xI_7, xI_36, xI_37, xI_38, xI_39, xI_46, xI_49, xI_51, xI_52, xI_53, xI_60, xI_61, xI_62, xw_X1_isCure_0, xw_X1_isCure_42, xw_X1_isCure_98, xw_X1_isCure_119, xw_X1_isCure_125, xw_X1_isCure_159, xw_X1_isCure_160, zw_lit, xB_c, xB_s, xB_n, i1_c, j2_c, k1_c, jJ_e, xlg, xls, xla, xpd, ppush, zw_m1, zw_m2, zw_m3, gf_0_0, gf_1_0, gf_1_1, gf_1_2, gf_1_3, gf_1_7, gf_1_14, gf_5_3, tg_0_0, tg_1_0, tg_1_1, tg_1_14, tg_1_2, tg_1_3, tg_1_7, tg_5_3, gv_1_0, gv_1_1, gv_1_2, gv_1_3, gv_1_7, gv_1_14, xD1, xD2, xD3, xD4, xD5, xD6, xb1_0] at g5
  have sN := cq.1.1.1.1
  have s3 := sN.2.2.2.1
  have e12 : ∀ Y : PH, (∀ c, ¬ c = 44 → ¬ c = 45 → ¬ c = 54 → Y c = X c) → Y 1 2 = S 0 0 ∧ Y 1 7 = S 0 3 := fun Y e => by
    rw [e 1 (by decide) (by decide) (by decide)]
    exact ⟨sN.1.symm, s3.symm⟩
  obtain ⟨e12, e17⟩ := e12 _ back
  have o3 := ok.2.2.1.1
  rcases g5 with ⟨_, g5⟩ | ⟨_, g5⟩
  · exact ⟨_, _, g5, ⟨_, rfl⟩, c5⟩
  · obtain ⟨r, H5, ⟨rfl, rfl⟩, g6⟩ := xc_use g5 (sp_X1_readBy 54 _ _ (by decide) (by rw [e12]; omega) (by rw [e17]; omega))
    simp (maxDischargeDepth := 12) -implicitDefEqProofs [vb_X1_isCure_0, vb_X1_isCure_42, vb_X1_isCure_98, vb_X1_isCure_119, vb_X1_isCure_125, vb_X1_isCure_159, vb_X1_isCure_160, xI_0, xI_1, xI_2, xI_3, xI_4, xI_5, xI_6, xI_7, xI_36, xI_37, xI_38, xI_39, xI_46, xI_49, xI_51, xI_52, xI_53, xI_60, xI_61, xI_62, xw_X1_isCure_0, xw_X1_isCure_42, xw_X1_isCure_98, xw_X1_isCure_119, xw_X1_isCure_125, xw_X1_isCure_159, xw_X1_isCure_160, zw_lit, xB_c, xB_s, xB_n, i1_c, j2_c, k1_c, jJ_e, xlg, xls, xla, xpd, ppush, zw_m1, zw_m2, zw_m3, gf_0_0, gf_1_0, gf_1_1, gf_1_2, gf_1_3, gf_1_7, gf_1_14, gf_5_3, tg_0_0, tg_1_0, tg_1_1, tg_1_14, tg_1_2, tg_1_3, tg_1_7, tg_5_3, gv_1_0, gv_1_1, gv_1_2, gv_1_3, gv_1_7, gv_1_14, xD1, xD2, xD3, xD4, xD5, xD6, xb1_0] at g6
    rcases g6 with ⟨_, g6⟩ | ⟨_, g6⟩ <;> exact ⟨_, _, g6, ⟨_, rfl⟩, c5⟩
set_option maxRecDepth 100000 in
theorem lp_cf (k s : Int) (S : Int → Int → Int) (N : Int) (H0 : PH) (hk : 0 ≤ k ∧ k < S 0 2) (hs : 1 ≤ s ∧ s ≤ 36) {E : xE} {res : xR} : ∀ (n : Nat) (o : Int) (H : PH), 1 ≤ o → CQ H0 H S N → RUN E res n kd_X1_cureFor (zget kd_X1_cureFor 2) 2 [1, k, s, o] [] H → ∃ v H', CQ H0 H' S N ∧ REPR E res (some (0, v)) H' := by
  intro n
  induction n using Nat.strongRecOn with
  | _ n ih =>
    intro o H o1 hQ h
    have h := xw_top (hd := [2]) 6 xD6_ok xc_X1_cureFor xa_X1_cureFor (t := 2) rfl h
    simp (maxDischargeDepth := 12) -implicitDefEqProofs [vb_X1_cureFor_0, vb_X1_cureFor_2, vb_X1_cureFor_37, vb_X1_cureFor_43, xI_0, xI_1, xI_3, xI_6, xI_7, xI_8, xI_36, xI_37, xI_38, xI_43, xI_47, xI_49, xI_61, xI_62, xw_X1_cureFor_0, xw_X1_cureFor_2, xw_X1_cureFor_37, xw_X1_cureFor_43, zw_lit, xB_c, xB_s, xB_n, i1_c, j2_c, k1_c, jJ_e, xlg, xls, xla, xpd, ppush, zw_m1, zw_m2, zw_m3, gf_1_0, tg_1_0, gv_1_0, xD1, xD2, xD3, xD4, xD5, xD6, xb1_0] at h
    rcases h with ⟨_, h⟩ | ⟨o36, h⟩
    · exact ⟨_, H, hQ, h⟩
    · have z1 : zw (o + 1) = o + 1 := zw_lit (by omega) (by omega)
      rcases h with ⟨_, m, hm, h⟩ | ⟨os, h⟩
      · rw [z1] at h
        exact ih m hm _ H (by omega) hQ h
      · obtain ⟨r1, H1, ⟨rfl, rfl⟩, g⟩ := xc_use h (sp_X8_areLike s o H (by omega))
        by_cases q : H1 (4 + s) o = 1
        · simp (maxDischargeDepth := 12) -implicitDefEqProofs [vb_X1_cureFor_0, vb_X1_cureFor_2, vb_X1_cureFor_37, vb_X1_cureFor_43, xI_0, xI_1, xI_3, xI_6, xI_7, xI_8, xI_36, xI_37, xI_38, xI_43, xI_47, xI_49, xI_61, xI_62, xw_X1_cureFor_0, xw_X1_cureFor_2, xw_X1_cureFor_37, xw_X1_cureFor_43, zw_lit, xB_c, xB_s, xB_n, i1_c, j2_c, k1_c, jJ_e, xlg, xls, xla, xpd, ppush, zw_m1, zw_m2, zw_m3, gf_1_0, tg_1_0, gv_1_0, xD1, xD2, xD3, xD4, xD5, xD6, xb1_0, q] at g
          obtain ⟨m, hm, g⟩ := g
          rw [z1] at g
          exact ih m hm _ H1 (by omega) hQ g
        · simp (maxDischargeDepth := 12) -implicitDefEqProofs [vb_X1_cureFor_0, vb_X1_cureFor_2, vb_X1_cureFor_37, vb_X1_cureFor_43, xI_0, xI_1, xI_3, xI_6, xI_7, xI_8, xI_36, xI_37, xI_38, xI_43, xI_47, xI_49, xI_61, xI_62, xw_X1_cureFor_0, xw_X1_cureFor_2, xw_X1_cureFor_37, xw_X1_cureFor_43, zw_lit, xB_c, xB_s, xB_n, i1_c, j2_c, k1_c, jJ_e, xlg, xls, xla, xpd, ppush, zw_m1, zw_m2, zw_m3, gf_1_0, tg_1_0, gv_1_0, xD1, xD2, xD3, xD4, xD5, xD6, xb1_0, q] at g
          obtain ⟨r2, H2, ⟨⟨v2, rfl⟩, q2⟩, g2⟩ := xc_use g (sf_isCure k s o S N H1 hQ.1 hQ.2.1 hk ⟨⟨hs, by omega, by omega⟩, os⟩ q)
          simp (maxDischargeDepth := 12) -implicitDefEqProofs [vb_X1_cureFor_0, vb_X1_cureFor_2, vb_X1_cureFor_37, vb_X1_cureFor_43, xI_0, xI_1, xI_3, xI_6, xI_7, xI_8, xI_36, xI_37, xI_38, xI_43, xI_47, xI_49, xI_61, xI_62, xw_X1_cureFor_0, xw_X1_cureFor_2, xw_X1_cureFor_37, xw_X1_cureFor_43, zw_lit, xB_c, xB_s, xB_n, i1_c, j2_c, k1_c, jJ_e, xlg, xls, xla, xpd, ppush, zw_m1, zw_m2, zw_m3, gf_1_0, tg_1_0, gv_1_0, xD1, xD2, xD3, xD4, xD5, xD6, xb1_0] at g2
          rcases g2 with ⟨_, m, hm, g2⟩ | ⟨_, g2⟩
          · rw [z1] at g2
            exact ih m hm _ H2 (by omega) (CQ_trans hQ q2) g2
          · exact ⟨_, H2, CQ_trans hQ q2, g2⟩
set_option maxRecDepth 100000 in
theorem sf_cureFor (k s : Int) (S : Int → Int → Int) (n : Int) (H : PH) (hR : RC H S n) (hM : MCC (S 0) H) (hk : 0 ≤ k ∧ k < S 0 2) (hs : 1 ≤ s ∧ s ≤ 36) : SPEC 18 [(2, 1), (0, k), (0, s)] H (fun r H' => (∃ v, r = some (0, v)) ∧ CQ H H' S n) := by
  intro E n' res h
  have h := call_runP 4 vm_X1_cureFor h
  have h := xw_top (hd := [2]) 6 xD6_ok xc_X1_cureFor xa_X1_cureFor (t := 0) rfl h
  simp (maxDischargeDepth := 12) -implicitDefEqProofs [vb_X1_cureFor_0, vb_X1_cureFor_2, vb_X1_cureFor_37, vb_X1_cureFor_43, xI_0, xI_1, xI_3, xI_6, xI_7, xI_8, xI_36, xI_37, xI_38, xI_43, xI_47, xI_49, xI_61, xI_62, xw_X1_cureFor_0, xw_X1_cureFor_2, xw_X1_cureFor_37, xw_X1_cureFor_43, zw_lit, xB_c, xB_s, xB_n, i1_c, j2_c, k1_c, jJ_e, xlg, xls, xla, xpd, ppush, zw_m1, zw_m2, zw_m3, gf_1_0, tg_1_0, gv_1_0, xD1, xD2, xD3, xD4, xD5, xD6, xb1_0] at h
  obtain ⟨m, hm, h⟩ := h
  obtain ⟨v, H1, q, g⟩ := lp_cf k s S n H hk hs m 1 H (by omega) (CQ_refl hR hM) h
  exact ⟨_, H1, g, ⟨v, rfl⟩, q⟩
set_option maxRecDepth 100000 in
theorem lp_cure (k m : Int) (S : Int → Int → Int) (N : Int) (H0 : PH) (hk : 0 ≤ k ∧ k < S 0 2) (hm : ∃ l f, VM m l f) {E : xE} {res : xR} : ∀ (n : Nat) (i x y : Int) (H : PH), 0 ≤ i → CQ H0 H S N → RUN E res n kd_X11_cure (zget kd_X11_cure 60) 60 [0, k, m, 0, i, x, y] [] H → ∃ v H', CQ H0 H' S N ∧ REPR E res (some (0, v)) H' := by
  intro n
  induction n using Nat.strongRecOn with
  | _ n ih =>
    intro i x y H i1 hQ h
    obtain ⟨l, f, vm⟩ := id hm
    have h := xw_top (hd := [60]) 10 xD6_ok xc_X11_cure xa_X11_cure (t := 60) rfl h
    simp (maxDischargeDepth := 12) -implicitDefEqProofs [vb_X11_cure_0, vb_X11_cure_42, vb_X11_cure_44, vb_X11_cure_60, vb_X11_cure_88, vb_X11_cure_98, vb_X11_cure_121, vb_X11_cure_127, xI_0, xI_1, xI_2, xI_3, xI_5, xI_6, xI_7, xI_8, xI_9, xI_14, xI_16, xI_36, xI_37, xI_40, xI_44, xI_45, xI_46, xI_49, xI_51, xI_53, xI_60, xI_61, xI_62, xw_X11_cure_0, xw_X11_cure_42, xw_X11_cure_44, xw_X11_cure_60, xw_X11_cure_88, xw_X11_cure_98, xw_X11_cure_121, xw_X11_cure_127, zw_lit, xB_c, xB_s, xB_n, i1_c, j2_c, k1_c, jJ_e, xlg, xls, xla, xpd, ppush, zw_m1, zw_m2, zw_m3, gf_1_0, gf_1_3, gf_5_3, gf_8_3, gf_9_2, gf_11_0, gf_11_2, tg_11_0, tg_11_2, tg_1_0, tg_1_3, tg_5_3, tg_8_3, tg_9_2, gv_1_0, gv_1_3, gv_2_3, gv_215_2, gv_0_0, gv_0_2, xD1, xD2, xD3, xD4, xD5, xD6, xb1_0] at h
    rcases h with ⟨_, h⟩ | ⟨is, h⟩
    · exact ⟨_, H, hQ, h⟩
    · have v1 := vm.1
      have v2 := vm.2.1
      have v3 := vm.2.2.1 i i1 (by rw [← v1]; exact is)
      have z1 : zw (i + 1) = i + 1 := zw_lit (by omega) (by omega)
      rw [z1] at h
      rcases h with ⟨nw, h⟩ | ⟨_, j, hj, h⟩
      · obtain ⟨r1, H1, ⟨⟨v, rfl⟩, q1⟩, g⟩ := xc_use h (sf_cureFor k (sgf m i) S N H hQ.1 hQ.2.1 hk (by omega))
        simp only [i1_c] at g
        rcases g with ⟨_, j, hj, g⟩ | ⟨_, g⟩
        · exact ih j hj _ _ _ H1 (by omega) (CQ_trans hQ q1) g
        · exact ⟨_, H1, CQ_trans hQ q1, g⟩
      · exact ih j hj _ _ _ H (by omega) hQ h
set_option maxRecDepth 100000 in
theorem sf_cure (k : Int) (S : Int → Int → Int) (n : Int) (H : PH) (hR : RC H S n) (hM : MCC (S 0) H) : SPEC 140 [(2, 0), (0, k)] H (fun r H' => (∃ v, r = some (0, v)) ∧ CQ H H' S n) := by
  intro E n' res h
  obtain ⟨e0, e2, z0, z2, a0, a2⟩ := RC_12 hR
  have h := call_runP 7 vm_X11_cure h
  have h := xw_top (hd := [60]) 10 xD6_ok xc_X11_cure xa_X11_cure (t := 0) rfl h
  simp (maxDischargeDepth := 12) -implicitDefEqProofs [vb_X11_cure_0, vb_X11_cure_42, vb_X11_cure_44, vb_X11_cure_60, vb_X11_cure_88, vb_X11_cure_98, vb_X11_cure_121, vb_X11_cure_127, xI_0, xI_1, xI_2, xI_3, xI_5, xI_6, xI_7, xI_8, xI_9, xI_14, xI_16, xI_36, xI_37, xI_40, xI_44, xI_45, xI_46, xI_49, xI_51, xI_53, xI_60, xI_61, xI_62, xw_X11_cure_0, xw_X11_cure_42, xw_X11_cure_44, xw_X11_cure_60, xw_X11_cure_88, xw_X11_cure_98, xw_X11_cure_121, xw_X11_cure_127, zw_lit, xB_c, xB_s, xB_n, i1_c, j2_c, k1_c, jJ_e, xlg, xls, xla, xpd, ppush, zw_m1, zw_m2, zw_m3, gf_1_0, gf_1_3, gf_5_3, gf_8_3, gf_9_2, gf_11_0, gf_11_2, tg_11_0, tg_11_2, tg_1_0, tg_1_3, tg_5_3, tg_8_3, tg_9_2, gv_1_0, gv_1_3, gv_2_3, gv_215_2, gv_0_0, gv_0_2, xD1, xD2, xD3, xD4, xD5, xD6, xb1_0] at h
  obtain ⟨r, H1, ⟨rfl, cq, t⟩, g⟩ := xc_use h (sp_c_refresh S n H hR hM)
  simp (maxDischargeDepth := 12) -implicitDefEqProofs [vb_X11_cure_0, vb_X11_cure_42, vb_X11_cure_44, vb_X11_cure_60, vb_X11_cure_88, vb_X11_cure_98, vb_X11_cure_121, vb_X11_cure_127, xI_0, xI_1, xI_2, xI_3, xI_5, xI_6, xI_7, xI_8, xI_9, xI_14, xI_16, xI_36, xI_37, xI_40, xI_44, xI_45, xI_46, xI_49, xI_51, xI_53, xI_60, xI_61, xI_62, xw_X11_cure_0, xw_X11_cure_42, xw_X11_cure_44, xw_X11_cure_60, xw_X11_cure_88, xw_X11_cure_98, xw_X11_cure_121, xw_X11_cure_127, zw_lit, xB_c, xB_s, xB_n, i1_c, j2_c, k1_c, jJ_e, xlg, xls, xla, xpd, ppush, zw_m1, zw_m2, zw_m3, gf_1_0, gf_1_3, gf_5_3, gf_8_3, gf_9_2, gf_11_0, gf_11_2, tg_11_0, tg_11_2, tg_1_0, tg_1_3, tg_5_3, tg_8_3, tg_9_2, gv_1_0, gv_1_3, gv_2_3, gv_215_2, gv_0_0, gv_0_2, xD1, xD2, xD3, xD4, xD5, xD6, xb1_0] at g
  have e14 : H1 1 4 = S 0 2 := cq.1.1.1.1.2.2.1.symm
  have zz : zw (H1 1 4 - 1) = H1 1 4 - 1 := zw_lit (by omega) (by omega)
  rw [zz, e14] at g
  rcases g with ⟨_, g⟩ | ⟨hk, g⟩
  · exact ⟨_, H1, g, ⟨_, rfl⟩, cq⟩
  · rcases g with ⟨_, g⟩ | ⟨_, g⟩
    · exact ⟨_, H1, g, ⟨_, rfl⟩, cq⟩
    · rcases g with ⟨_, m, hm, g⟩ | ⟨_, g⟩
      · have kq := cq.1.2.2.1.1.1 k hk.1 (by omega)
        have g3 : gv H1 (H1 47 k) 3 = H1 (H1 47 k) 3 := (KL_f kq).2.2.2.2.1 _
        have vk := (cq.1.1.1.2.2.1 k hk.1 (by omega)).2.2.2
        rw [gv47, g3] at g
        obtain ⟨v, H2, q, g⟩ := lp_cure k _ S n H1 ⟨hk.1, by omega⟩ ⟨_, _, vk⟩ m 0 0 0 H1 (by omega) (CQ_refl cq.1 cq.2.1) g
        exact ⟨_, H2, g, ⟨v, rfl⟩, CQ_trans cq q⟩
      · exact ⟨_, H1, g, ⟨_, rfl⟩, cq⟩
