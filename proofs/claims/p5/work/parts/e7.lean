def xm_X10_add : List xbT := [(0, vb_X10_add_0, some 3), (3, vb_X10_add_3, some 43), (43, vb_X10_add_43, some 49), (49, vb_X10_add_49, none)]
theorem xc_X10_add : xOK kd_X10_add xm_X10_add := ⟨ve_X10_add_0, ve_X10_add_3, ve_X10_add_43, ve_X10_add_49, trivial⟩
theorem xa_X10_add : xm_X10_add.all (fun q => aOKb q.2.1 && !q.2.1.isEmpty) = true := by decide +kernel
theorem xw_X10_add_0 {E : xE} {res : xR} {N : Nat} {hd : List Nat} {C : xCT} {k : Nat} {L : List Int} {st : List pv} {H : PH} : xW E res N kd_X10_add xm_X10_add hd C (k + 1) 0 L st H = xB (fun t L st H => if t ∈ hd then xJ E res N kd_X10_add t L st H else xW E res N kd_X10_add xm_X10_add hd C k t L st H) (REPR E res) C (some 3) vb_X10_add_0 0 L st H := Eq.trans rfl rfl
theorem xw_X10_add_3 {E : xE} {res : xR} {N : Nat} {hd : List Nat} {C : xCT} {k : Nat} {L : List Int} {st : List pv} {H : PH} : xW E res N kd_X10_add xm_X10_add hd C (k + 1) 3 L st H = xB (fun t L st H => if t ∈ hd then xJ E res N kd_X10_add t L st H else xW E res N kd_X10_add xm_X10_add hd C k t L st H) (REPR E res) C (some 43) vb_X10_add_3 3 L st H := Eq.trans rfl rfl
theorem xw_X10_add_43 {E : xE} {res : xR} {N : Nat} {hd : List Nat} {C : xCT} {k : Nat} {L : List Int} {st : List pv} {H : PH} : xW E res N kd_X10_add xm_X10_add hd C (k + 1) 43 L st H = xB (fun t L st H => if t ∈ hd then xJ E res N kd_X10_add t L st H else xW E res N kd_X10_add xm_X10_add hd C k t L st H) (REPR E res) C (some 49) vb_X10_add_43 43 L st H := Eq.trans rfl rfl
theorem xw_X10_add_49 {E : xE} {res : xR} {N : Nat} {hd : List Nat} {C : xCT} {k : Nat} {L : List Int} {st : List pv} {H : PH} : xW E res N kd_X10_add xm_X10_add hd C (k + 1) 49 L st H = xB (fun t L st H => if t ∈ hd then xJ E res N kd_X10_add t L st H else xW E res N kd_X10_add xm_X10_add hd C k t L st H) (REPR E res) C (none) vb_X10_add_49 49 L st H := Eq.trans rfl rfl
def xm_X11_feed : List xbT := [(0, vb_X11_feed_0, some 18), (18, vb_X11_feed_18, none)]
theorem xc_X11_feed : xOK kd_X11_feed xm_X11_feed := ⟨ve_X11_feed_0, ve_X11_feed_18, trivial⟩
theorem xa_X11_feed : xm_X11_feed.all (fun q => aOKb q.2.1 && !q.2.1.isEmpty) = true := by decide +kernel
theorem xw_X11_feed_0 {E : xE} {res : xR} {N : Nat} {hd : List Nat} {C : xCT} {k : Nat} {L : List Int} {st : List pv} {H : PH} : xW E res N kd_X11_feed xm_X11_feed hd C (k + 1) 0 L st H = xB (fun t L st H => if t ∈ hd then xJ E res N kd_X11_feed t L st H else xW E res N kd_X11_feed xm_X11_feed hd C k t L st H) (REPR E res) C (some 18) vb_X11_feed_0 0 L st H := Eq.trans rfl rfl
theorem xw_X11_feed_18 {E : xE} {res : xR} {N : Nat} {hd : List Nat} {C : xCT} {k : Nat} {L : List Int} {st : List pv} {H : PH} : xW E res N kd_X11_feed xm_X11_feed hd C (k + 1) 18 L st H = xB (fun t L st H => if t ∈ hd then xJ E res N kd_X11_feed t L st H else xW E res N kd_X11_feed xm_X11_feed hd C k t L st H) (REPR E res) C (none) vb_X11_feed_18 18 L st H := Eq.trans rfl rfl
def xm_X11_end : List xbT := [(0, vb_X11_end_0, some 17), (17, vb_X11_end_17, none)]
theorem xc_X11_end : xOK kd_X11_end xm_X11_end := ⟨ve_X11_end_0, ve_X11_end_17, trivial⟩
theorem xa_X11_end : xm_X11_end.all (fun q => aOKb q.2.1 && !q.2.1.isEmpty) = true := by decide +kernel
theorem xw_X11_end_0 {E : xE} {res : xR} {N : Nat} {hd : List Nat} {C : xCT} {k : Nat} {L : List Int} {st : List pv} {H : PH} : xW E res N kd_X11_end xm_X11_end hd C (k + 1) 0 L st H = xB (fun t L st H => if t ∈ hd then xJ E res N kd_X11_end t L st H else xW E res N kd_X11_end xm_X11_end hd C k t L st H) (REPR E res) C (some 17) vb_X11_end_0 0 L st H := Eq.trans rfl rfl
theorem xw_X11_end_17 {E : xE} {res : xR} {N : Nat} {hd : List Nat} {C : xCT} {k : Nat} {L : List Int} {st : List pv} {H : PH} : xW E res N kd_X11_end xm_X11_end hd C (k + 1) 17 L st H = xB (fun t L st H => if t ∈ hd then xJ E res N kd_X11_end t L st H else xW E res N kd_X11_end xm_X11_end hd C k t L st H) (REPR E res) C (none) vb_X11_end_17 17 L st H := Eq.trans rfl rfl
def xm_X12_four : List xbT := [(0, vb_X12_four_0, some 3), (3, vb_X12_four_3, some 36), (36, vb_X12_four_36, none)]
theorem xc_X12_four : xOK kd_X12_four xm_X12_four := ⟨ve_X12_four_0, ve_X12_four_3, ve_X12_four_36, trivial⟩
theorem xa_X12_four : xm_X12_four.all (fun q => aOKb q.2.1 && !q.2.1.isEmpty) = true := by decide +kernel
theorem xw_X12_four_0 {E : xE} {res : xR} {N : Nat} {hd : List Nat} {C : xCT} {k : Nat} {L : List Int} {st : List pv} {H : PH} : xW E res N kd_X12_four xm_X12_four hd C (k + 1) 0 L st H = xB (fun t L st H => if t ∈ hd then xJ E res N kd_X12_four t L st H else xW E res N kd_X12_four xm_X12_four hd C k t L st H) (REPR E res) C (some 3) vb_X12_four_0 0 L st H := Eq.trans rfl rfl
theorem xw_X12_four_3 {E : xE} {res : xR} {N : Nat} {hd : List Nat} {C : xCT} {k : Nat} {L : List Int} {st : List pv} {H : PH} : xW E res N kd_X12_four xm_X12_four hd C (k + 1) 3 L st H = xB (fun t L st H => if t ∈ hd then xJ E res N kd_X12_four t L st H else xW E res N kd_X12_four xm_X12_four hd C k t L st H) (REPR E res) C (some 36) vb_X12_four_3 3 L st H := Eq.trans rfl rfl
theorem xw_X12_four_36 {E : xE} {res : xR} {N : Nat} {hd : List Nat} {C : xCT} {k : Nat} {L : List Int} {st : List pv} {H : PH} : xW E res N kd_X12_four xm_X12_four hd C (k + 1) 36 L st H = xB (fun t L st H => if t ∈ hd then xJ E res N kd_X12_four t L st H else xW E res N kd_X12_four xm_X12_four hd C k t L st H) (REPR E res) C (none) vb_X12_four_36 36 L st H := Eq.trans rfl rfl
def xm_X12_feed : List xbT := [(0, vb_X12_feed_0, some 15), (15, vb_X12_feed_15, none)]
theorem xc_X12_feed : xOK kd_X12_feed xm_X12_feed := ⟨ve_X12_feed_0, ve_X12_feed_15, trivial⟩
theorem xa_X12_feed : xm_X12_feed.all (fun q => aOKb q.2.1 && !q.2.1.isEmpty) = true := by decide +kernel
theorem xw_X12_feed_0 {E : xE} {res : xR} {N : Nat} {hd : List Nat} {C : xCT} {k : Nat} {L : List Int} {st : List pv} {H : PH} : xW E res N kd_X12_feed xm_X12_feed hd C (k + 1) 0 L st H = xB (fun t L st H => if t ∈ hd then xJ E res N kd_X12_feed t L st H else xW E res N kd_X12_feed xm_X12_feed hd C k t L st H) (REPR E res) C (some 15) vb_X12_feed_0 0 L st H := Eq.trans rfl rfl
theorem xw_X12_feed_15 {E : xE} {res : xR} {N : Nat} {hd : List Nat} {C : xCT} {k : Nat} {L : List Int} {st : List pv} {H : PH} : xW E res N kd_X12_feed xm_X12_feed hd C (k + 1) 15 L st H = xB (fun t L st H => if t ∈ hd then xJ E res N kd_X12_feed t L st H else xW E res N kd_X12_feed xm_X12_feed hd C k t L st H) (REPR E res) C (none) vb_X12_feed_15 15 L st H := Eq.trans rfl rfl
def xm_X12_end : List xbT := [(0, vb_X12_end_0, some 14), (14, vb_X12_end_14, none)]
theorem xc_X12_end : xOK kd_X12_end xm_X12_end := ⟨ve_X12_end_0, ve_X12_end_14, trivial⟩
theorem xa_X12_end : xm_X12_end.all (fun q => aOKb q.2.1 && !q.2.1.isEmpty) = true := by decide +kernel
theorem xw_X12_end_0 {E : xE} {res : xR} {N : Nat} {hd : List Nat} {C : xCT} {k : Nat} {L : List Int} {st : List pv} {H : PH} : xW E res N kd_X12_end xm_X12_end hd C (k + 1) 0 L st H = xB (fun t L st H => if t ∈ hd then xJ E res N kd_X12_end t L st H else xW E res N kd_X12_end xm_X12_end hd C k t L st H) (REPR E res) C (some 14) vb_X12_end_0 0 L st H := Eq.trans rfl rfl
theorem xw_X12_end_14 {E : xE} {res : xR} {N : Nat} {hd : List Nat} {C : xCT} {k : Nat} {L : List Int} {st : List pv} {H : PH} : xW E res N kd_X12_end xm_X12_end hd C (k + 1) 14 L st H = xB (fun t L st H => if t ∈ hd then xJ E res N kd_X12_end t L st H else xW E res N kd_X12_end xm_X12_end hd C k t L st H) (REPR E res) C (none) vb_X12_end_14 14 L st H := Eq.trans rfl rfl
/-! ===== bytes fed to both ===== -/
theorem m8 : ∀ i : Fin 32, ¬ i.val < 8 → (Int32.toBitVec 255).getLsbD i.val = false := by decide
theorem byS (x : Int32) (k : Nat) (hk : k ≤ 24) (a : Int32) (b : UInt32) (ha : a.toBitVec = BitVec.ofNat 32 k) (hs : ((BitVec.ofNat 32 k).smod 32#32).toNat = k) (hb : b.toBitVec = BitVec.ofNat 32 k) : ((x >>> a).toInt8.toInt32 &&& 255) = ((x.toUInt32 >>> b).toInt32 &&& 255) := by
  rw [← Int32.toBitVec_inj]
  rw [Int32.toBitVec_and, Int32.toBitVec_and]
  apply BitVec.eq_of_getLsbD_eq
  intro i hi
  simp only [BitVec.getLsbD_and]
  by_cases h8 : i < 8
  · have e1 : (x >>> a).toInt8.toInt32.toBitVec.getLsbD i = x.toBitVec.getLsbD (k + i) := by
      simp only [Int32.toBitVec_shiftRight, ha, Int8.toBitVec_toInt32, Int32.toBitVec_toInt8, BitVec.getLsbD_signExtend]
      simp [h8, hi]
      rw [hs, ← BitVec.getLsbD_eq_getElem, BitVec.getLsbD_sshiftRight]
      simp [hi, show k + i < 32 by omega]
    have e2 : (x.toUInt32 >>> b).toInt32.toBitVec.getLsbD i = x.toBitVec.getLsbD (k + i) := by
      simp [UInt32.toBitVec_shiftRight, hb]
      rw [Nat.mod_eq_of_lt (by omega)]
    rw [e1, e2]
  · rw [m8 ⟨i, hi⟩ h8]
    simp
theorem zI_t (i : Int32) : zI (zu i.toInt) = i := Int32.toInt_inj.mp (zI_zu ⟨Int32.le_toInt i, Int32.toInt_lt i⟩)
/-- a byte of a number, as the class takes it, and as the model does -/
def byC (x s : Int) : Int := q2 (· &&& ·) (q2 (fun x y => (x.toUInt32 >>> (y.toUInt32 &&& Int32.toUInt32 31)).toInt32) x s) 255
def byM (x s : Int) : Int := q1 (fun x => x.toInt8.toInt32) (q2 (fun x y => x >>> (y &&& 31)) x s)
theorem by_M (x : Int) {s : Int} (hs : s = 24 ∨ s = 16 ∨ s = 8 ∨ s = 0) : q2 (· &&& ·) (byM x s) 255 = byC x s := by
  unfold byM byC q1 q2
  rw [zI_t, zI_t, zI_t]
  rcases hs with rfl | rfl | rfl | rfl
  · exact congrArg Int32.toInt (byS (zI (zu x)) 24 (by decide) _ _ (by decide) (by decide) (by decide))
  · exact congrArg Int32.toInt (byS (zI (zu x)) 16 (by decide) _ _ (by decide) (by decide) (by decide))
  · exact congrArg Int32.toInt (byS (zI (zu x)) 8 (by decide) _ _ (by decide) (by decide) (by decide))
  · exact congrArg Int32.toInt (byS (zI (zu x)) 0 (by decide) _ _ (by decide) (by decide) (by decide))
theorem qb_M {x s : Int} : qb (zSh 593).fst (byM x s) = byM x s := by
  rw [sh_593]
  unfold qb
  rw [if_pos rfl]
  unfold byM q1
  rw [zI_t]
  exact congrArg Int32.toInt (congrArg Int8.toInt32 (Int8.toInt8_toInt32 _))
/-- four bytes of a number at a place -/
def f4 (b : Int → Int) (t : Int) (w : Int → Int) (m : Int) : Int → Int := fun i => if t ≤ i ∧ i < t + m then b (24 - 8 * (i - t)) else w i
theorem f4_up {b : Int → Int} {t m : Int} {w : Int → Int} (h : 0 ≤ m) : xup (f4 b t w m) (t + m) (b (24 - 8 * m)) = f4 b t w (m + 1) := by
  funext i
  unfold xup f4
  by_cases e : i = t + m
  · rw [if_pos e, if_pos (by omega), show i - t = m by omega]
  · rw [if_neg e]
    by_cases q : t ≤ i ∧ i < t + m
    · rw [if_pos q, if_pos (by omega)]
    · rw [if_neg q, if_neg (by omega)]
theorem f4_0 {b : Int → Int} {t : Int} {w : Int → Int} : f4 b t w 0 = w := by
  funext i
  unfold f4
  rw [if_neg (by omega)]
set_option maxRecDepth 100000 in
theorem lp_add (a t : Int) (H0 : PH) (ht : 0 ≤ t ∧ t ≤ 596) (h0 : H0 213 1 = t) {E : xE} {res : xR} : ∀ (n : Nat) (m : Int) (H : PH), 0 ≤ m → m ≤ 4 → (∀ c, ¬ c = 213 → ¬ c = 214 → H c = H0 c) → H 213 = xup (H0 213) 1 (t + m) → H 214 = f4 (byC a) t (H0 214) m → RUN E res n kd_X10_add (zget kd_X10_add 3) 3 [213, a, 24 - 8 * m] [] H → ∃ H', ((∀ c, ¬ c = 213 → ¬ c = 214 → H' c = H0 c) ∧ H' 213 = xup (H0 213) 1 (t + 4) ∧ H' 214 = f4 (byC a) t (H0 214) 4) ∧ REPR E res none H' := by
  intro n
  induction n using Nat.strongRecOn with
  | _ n ih =>
    intro m H m0 m4 hF h1 h2 h
    have e1 : H 213 1 = t + m := by rw [h1]; exact if_pos rfl
    by_cases c : m < 4
    · have c1 : 0 ≤ 24 - 8 * m := by omega
      have c2 : ¬ 24 - 8 * m < 0 := by omega
      have c3 : t + m < 600 := by omega
      have c4 : ¬ 600 ≤ t + m := by omega
      have z1 : zw (t + m + 1) = t + m + 1 := zw_lit (by omega) (by omega)
      have z2 : zw (24 - 8 * m + 4294967288) = 24 - 8 * (m + 1) := by
        unfold zw
        omega
      have z3 : 24 - 8 * m - 8 = 24 - 8 * (m + 1) := by omega
      have n3 : ¬ (213 : Int) = 214 := by decide
      have h := xw_top (hd := [3]) 6 xD6_ok xc_X10_add xa_X10_add (t := 3) rfl h
      simp (maxDischargeDepth := 12) -implicitDefEqProofs [vb_X10_add_0, vb_X10_add_3, vb_X10_add_43, vb_X10_add_49, xI_0, xI_1, xI_3, xI_6, xI_7, xI_8, xI_9, xI_14, xI_19, xI_24, xI_33, xI_36, xI_39, xI_46, xI_49, xI_50, xI_52, xI_65, xw_X10_add_0, xw_X10_add_3, xw_X10_add_43, xw_X10_add_49, zw_lit, xB_c, xB_s, xB_n, i1_c, j2_c, k1_c, jJ_e, xlg, xls, xla, xpd, ppush, zw_m1, zw_m2, zw_m3, gf_10_0, gf_10_1, pf_10_1, tg_10_0, tg_10_1, gv_213_0, gv_213_1, xD1, xD2, xD3, xD4, xD5, xD6, xb1_0, e1, c1, c2, c3, c4, z1, z2, z3, n3] at h
      obtain ⟨_, m', hm', h⟩ := h
      rw [xp_ne (show ¬ (213 : Int) = 214 by decide), e1, z1] at h
      refine ih m' hm' (m + 1) _ (by omega) (by omega) (fun c q1 q2 => by rw [xp_ne q1, xp_ne q2]; exact hF c q1 q2) ?_ ?_ h
      · rw [pupC, xp_ne (by decide), h1]
        funext i
        unfold xup
        split
        · omega
        · rfl
      · rw [xp_ne (by decide), pupC, h2]
        exact f4_up m0
    · have e : m = 4 := by omega
      subst e
      have c1 : ¬ (0 : Int) ≤ 24 - 8 * 4 := by decide
      have c2 : (24 : Int) - 8 * 4 < 0 := by decide
      have h := xw_top (hd := [3]) 6 xD6_ok xc_X10_add xa_X10_add (t := 3) rfl h
      simp (maxDischargeDepth := 12) -implicitDefEqProofs [vb_X10_add_0, vb_X10_add_3, vb_X10_add_43, vb_X10_add_49, xI_0, xI_1, xI_3, xI_6, xI_7, xI_8, xI_9, xI_14, xI_19, xI_24, xI_33, xI_36, xI_39, xI_46, xI_49, xI_50, xI_52, xI_65, xw_X10_add_0, xw_X10_add_3, xw_X10_add_43, xw_X10_add_49, zw_lit, xB_c, xB_s, xB_n, i1_c, j2_c, k1_c, jJ_e, xlg, xls, xla, xpd, ppush, zw_m1, zw_m2, zw_m3, gf_10_0, gf_10_1, pf_10_1, tg_10_0, tg_10_1, gv_213_0, gv_213_1, xD1, xD2, xD3, xD4, xD5, xD6, xb1_0, c1, c2] at h
      exact ⟨H, ⟨hF, h1, h2⟩, h⟩
theorem sp_X10_add (a t : Int) (H : PH) (ht : 0 ≤ t ∧ t ≤ 596) (h0 : H 213 1 = t) : SPEC 93 [(2, 213), (0, a)] H (fun r H' => r = none ∧ (∀ c, ¬ c = 213 → ¬ c = 214 → H' c = H c) ∧ H' 213 = xup (H 213) 1 (t + 4) ∧ H' 214 = f4 (byC a) t (H 214) 4) := by
  intro E n res h
  have h := call_runP 3 vm_X10_add h
  have h := xw_top (hd := [3]) 6 xD6_ok xc_X10_add xa_X10_add (t := 0) rfl h
  simp (maxDischargeDepth := 12) -implicitDefEqProofs [vb_X10_add_0, vb_X10_add_3, vb_X10_add_43, vb_X10_add_49, xI_0, xI_1, xI_3, xI_6, xI_7, xI_8, xI_9, xI_14, xI_19, xI_24, xI_33, xI_36, xI_39, xI_46, xI_49, xI_50, xI_52, xI_65, xw_X10_add_0, xw_X10_add_3, xw_X10_add_43, xw_X10_add_49, zw_lit, xB_c, xB_s, xB_n, i1_c, j2_c, k1_c, jJ_e, xlg, xls, xla, xpd, ppush, zw_m1, zw_m2, zw_m3, gf_10_0, gf_10_1, pf_10_1, tg_10_0, tg_10_1, gv_213_0, gv_213_1, xD1, xD2, xD3, xD4, xD5, xD6, xb1_0] at h
  obtain ⟨m, hm, h⟩ := h
  obtain ⟨H', p, g⟩ := lp_add a t H ht h0 m 0 H (by decide) (by decide) (fun _ _ _ => rfl) (by funext i; unfold xup; split <;> simp_all) f4_0.symm h
  exact ⟨_, H', g, rfl, p⟩
set_option maxRecDepth 100000 in
theorem lp_four (a t : Int) (H0 : PH) (ht : 0 ≤ t ∧ t ≤ 596) (h0 : H0 590 4 = t) {E : xE} {res : xR} : ∀ (n : Nat) (m : Int) (H : PH), 0 ≤ m → m ≤ 4 → (∀ c, ¬ c = 590 → ¬ c = 593 → H c = H0 c) → H 590 = xup (H0 590) 4 (t + m) → H 593 = f4 (byM a) t (H0 593) m → RUN E res n kd_X12_four (zget kd_X12_four 3) 3 [590, a, 24 - 8 * m] [] H → ∃ H', ((∀ c, ¬ c = 590 → ¬ c = 593 → H' c = H0 c) ∧ H' 590 = xup (H0 590) 4 (t + 4) ∧ H' 593 = f4 (byM a) t (H0 593) 4) ∧ REPR E res none H' := by
  intro n
  induction n using Nat.strongRecOn with
  | _ n ih =>
    intro m H m0 m4 hF h1 h2 h
    have e1 : H 590 4 = t + m := by rw [h1]; exact if_pos rfl
    by_cases c : m < 4
    · have c1 : 0 ≤ 24 - 8 * m := by omega
      have c2 : ¬ 24 - 8 * m < 0 := by omega
      have z1 : zw (t + m + 1) = t + m + 1 := zw_lit (by omega) (by omega)
      have z3 : 24 - 8 * m - 8 = 24 - 8 * (m + 1) := by omega
      have n3 : ¬ (590 : Int) = 593 := by decide
      have h := xw_top (hd := [3]) 5 xD6_ok xc_X12_four xa_X12_four (t := 3) rfl h
      simp (maxDischargeDepth := 12) -implicitDefEqProofs [vb_X12_four_0, vb_X12_four_3, vb_X12_four_36, xI_0, xI_1, xI_3, xI_6, xI_7, xI_8, xI_14, xI_23, xI_26, xI_33, xI_36, xI_39, xI_49, xI_50, xI_58, xI_65, xw_X12_four_0, xw_X12_four_3, xw_X12_four_36, zw_lit, xB_c, xB_s, xB_n, i1_c, j2_c, k1_c, jJ_e, xlg, xls, xla, xpd, ppush, zw_m1, zw_m2, zw_m3, gf_12_3, gf_12_4, pf_12_4, tg_12_3, tg_12_4, gv_590_3, gv_590_4, xD1, xD2, xD3, xD4, xD5, xD6, xb1_0, e1, c1, c2, z1, z3, n3] at h
      obtain ⟨_, m', hm', h⟩ := h
      rw [show zw (24 - 8 * m + 4294967288) = 24 - 8 * (m + 1) by unfold zw; omega, xp_ne (show ¬ (590 : Int) = 593 by decide), e1, z1] at h
      have qm : qb (zSh 593).fst (q1 (fun x => x.toInt8.toInt32) (q2 (fun x y => x >>> (y &&& 31)) a (24 - 8 * m))) = byM a (24 - 8 * m) := qb_M
      rw [qm] at h
      refine ih m' hm' (m + 1) _ (by omega) (by omega) (fun c q1 q2 => by rw [xp_ne q1, xp_ne q2]; exact hF c q1 q2) ?_ ?_ h
      · rw [pupC, xp_ne (by decide), h1]
        funext i
        unfold xup
        split
        · omega
        · rfl
      · rw [xp_ne (by decide), pupC, h2]
        exact f4_up m0
    · have e : m = 4 := by omega
      subst e
      have c1 : ¬ (0 : Int) ≤ 24 - 8 * 4 := by decide
      have c2 : (24 : Int) - 8 * 4 < 0 := by decide
      have h := xw_top (hd := [3]) 5 xD6_ok xc_X12_four xa_X12_four (t := 3) rfl h
      simp (maxDischargeDepth := 12) -implicitDefEqProofs [vb_X12_four_0, vb_X12_four_3, vb_X12_four_36, xI_0, xI_1, xI_3, xI_6, xI_7, xI_8, xI_14, xI_23, xI_26, xI_33, xI_36, xI_39, xI_49, xI_50, xI_58, xI_65, xw_X12_four_0, xw_X12_four_3, xw_X12_four_36, zw_lit, xB_c, xB_s, xB_n, i1_c, j2_c, k1_c, jJ_e, xlg, xls, xla, xpd, ppush, zw_m1, zw_m2, zw_m3, gf_12_3, gf_12_4, pf_12_4, tg_12_3, tg_12_4, gv_590_3, gv_590_4, xD1, xD2, xD3, xD4, xD5, xD6, xb1_0, c1, c2] at h
      exact ⟨H, ⟨hF, h1, h2⟩, h⟩
theorem sp_X12_four (a t : Int) (H : PH) (ht : 0 ≤ t ∧ t ≤ 596) (h0 : H 590 4 = t) : SPEC 160 [(2, 590), (0, a)] H (fun r H' => r = none ∧ (∀ c, ¬ c = 590 → ¬ c = 593 → H' c = H c) ∧ H' 590 = xup (H 590) 4 (t + 4) ∧ H' 593 = f4 (byM a) t (H 593) 4) := by
  intro E n res h
  have h := call_runP 3 vm_X12_four h
  have h := xw_top (hd := [3]) 5 xD6_ok xc_X12_four xa_X12_four (t := 0) rfl h
  simp (maxDischargeDepth := 12) -implicitDefEqProofs [vb_X12_four_0, vb_X12_four_3, vb_X12_four_36, xI_0, xI_1, xI_3, xI_6, xI_7, xI_8, xI_14, xI_23, xI_26, xI_33, xI_36, xI_39, xI_49, xI_50, xI_58, xI_65, xw_X12_four_0, xw_X12_four_3, xw_X12_four_36, zw_lit, xB_c, xB_s, xB_n, i1_c, j2_c, k1_c, jJ_e, xlg, xls, xla, xpd, ppush, zw_m1, zw_m2, zw_m3, gf_12_3, gf_12_4, pf_12_4, tg_12_3, tg_12_4, gv_590_3, gv_590_4, xD1, xD2, xD3, xD4, xD5, xD6, xb1_0] at h
  obtain ⟨m, hm, h⟩ := h
  obtain ⟨H', p, g⟩ := lp_four a t H ht h0 m 0 H (by decide) (by decide) (fun _ _ _ => rfl) (by funext i; unfold xup; split <;> simp_all) f4_0.symm h
  exact ⟨_, H', g, rfl, p⟩
/-- a tape of both, with what is fed -/
def TP2 (H : PH) (sz : Int) : Prop := H 213 1 = sz ∧ H 590 4 = sz ∧ (∀ i, 0 ≤ i → i < sz → 0 ≤ H 214 i ∧ H 214 i ≤ 255) ∧ ∀ i, 0 ≤ i → i < sz → q2 (· &&& ·) (H 593 i) 255 = H 214 i
theorem byC_in (x s : Int) : 0 ≤ byC x s ∧ byC x s ≤ 255 := q2_and (by decide) (by decide)
/-- five numbers -/
def f20 (b : Int → Int → Int) (a0 a1 a2 a3 a4 t : Int) (w : Int → Int) : Int → Int := f4 (b a4) (t + 16) (f4 (b a3) (t + 12) (f4 (b a2) (t + 8) (f4 (b a1) (t + 4) (f4 (b a0) t w 4) 4) 4) 4) 4
set_option maxRecDepth 100000 in
theorem sp_c_feed (a0 a1 a2 a3 a4 t : Int) (H : PH) (ht : 0 ≤ t ∧ t ≤ 600) (h0 : H 213 1 = t) : SPEC 105 [(2, 0), (0, a0), (0, a1), (0, a2), (0, a3), (0, a4)] H (fun r H' => (t ≤ 580 ∧ r = some (0, t + 20) ∧ (∀ c, ¬ c = 213 → ¬ c = 214 → H' c = H c) ∧ H' 213 = xup (H 213) 1 (t + 20) ∧ H' 214 = f20 byC a0 a1 a2 a3 a4 t (H 214)) ∨ (580 < t ∧ r = some (0, -1) ∧ H' = H)) := by
  intro E n res h
  have z1 : zw (t + 20) = t + 20 := zw_lit (by omega) (by omega)
  by_cases c : t ≤ 580
  · have c1 : t + 20 ≤ 600 := by omega
    have c2 : ¬ 600 < t + 20 := by omega
    have h := call_runP 6 vm_X11_feed h
    have h := xw_top (hd := []) 4 xD6_ok xc_X11_feed xa_X11_feed (t := 0) rfl h
    simp (maxDischargeDepth := 12) -implicitDefEqProofs [vb_X11_feed_0, vb_X11_feed_18, xI_0, xI_1, xI_7, xI_8, xI_9, xI_14, xI_48, xI_49, xI_61, xI_62, xw_X11_feed_0, xw_X11_feed_18, zw_lit, xB_c, xB_s, xB_n, i1_c, j2_c, k1_c, jJ_e, xlg, xls, xla, xpd, ppush, zw_m1, zw_m2, zw_m3, gf_10_1, gf_11_1, tg_10_1, tg_11_1, gv_213_1, gv_0_1, xD1, xD2, xD3, xD4, xD5, xD6, xb1_0, h0, z1, c1, c2] at h
    obtain ⟨r, H1, ⟨rfl, f1, g1, w1⟩, h⟩ := xc_use h (sp_X10_add a0 t H (by omega) h0)
    obtain ⟨r, H2, ⟨rfl, f2, g2, w2⟩, h⟩ := xc_use h (sp_X10_add a1 (t + 4) H1 (by omega) (by rw [g1]; exact if_pos rfl))
    obtain ⟨r, H3, ⟨rfl, f3, g3, w3⟩, h⟩ := xc_use h (sp_X10_add a2 (t + 8) H2 (by omega) (by rw [g2]; exact (if_pos rfl).trans (by omega)))
    obtain ⟨r, H4, ⟨rfl, f4, g4, w4⟩, h⟩ := xc_use h (sp_X10_add a3 (t + 12) H3 (by omega) (by rw [g3]; exact (if_pos rfl).trans (by omega)))
    obtain ⟨r, H5, ⟨rfl, f5, g5, w5⟩, h⟩ := xc_use h (sp_X10_add a4 (t + 16) H4 (by omega) (by rw [g4]; exact (if_pos rfl).trans (by omega)))
    have e5 : H5 213 = xup (H 213) 1 (t + 20) := by
      rw [g5, g4, g3, g2, g1, xup_xup, xup_xup, xup_xup, xup_xup, show t + 16 + 4 = t + 20 by omega]
    have e6 : H5 213 1 = t + 20 := by
      rw [e5]
      exact if_pos rfl
    refine ⟨_, H5, h, Or.inl ⟨c, by rw [e6], fun c q1 q2 => by rw [f5 c q1 q2, f4 c q1 q2, f3 c q1 q2, f2 c q1 q2, f1 c q1 q2], e5, ?_⟩⟩
    rw [w5, w4, w3, w2, w1]
    rfl
  · have c1 : ¬ t + 20 ≤ 600 := by omega
    have c2 : 600 < t + 20 := by omega
    have h := call_runP 6 vm_X11_feed h
    have h := xw_top (hd := []) 4 xD6_ok xc_X11_feed xa_X11_feed (t := 0) rfl h
    simp (maxDischargeDepth := 12) -implicitDefEqProofs [vb_X11_feed_0, vb_X11_feed_18, xI_0, xI_1, xI_7, xI_8, xI_9, xI_14, xI_48, xI_49, xI_61, xI_62, xw_X11_feed_0, xw_X11_feed_18, zw_lit, xB_c, xB_s, xB_n, i1_c, j2_c, k1_c, jJ_e, xlg, xls, xla, xpd, ppush, zw_m1, zw_m2, zw_m3, gf_10_1, gf_11_1, tg_10_1, tg_11_1, gv_213_1, gv_0_1, xD1, xD2, xD3, xD4, xD5, xD6, xb1_0, h0, z1, c1, c2] at h
    exact ⟨_, H, h, Or.inr ⟨by omega, rfl, rfl⟩⟩
set_option maxRecDepth 100000 in
theorem sp_m_feed (a0 a1 a2 a3 a4 t : Int) (H : PH) (ht : 0 ≤ t ∧ t ≤ 600) (h0 : H 590 4 = t) : SPEC 161 [(2, 590), (0, a0), (0, a1), (0, a2), (0, a3), (0, a4)] H (fun r H' => (t ≤ 580 ∧ r = some (0, t + 20) ∧ (∀ c, ¬ c = 590 → ¬ c = 593 → H' c = H c) ∧ H' 590 = xup (H 590) 4 (t + 20) ∧ H' 593 = f20 byM a0 a1 a2 a3 a4 t (H 593)) ∨ (580 < t ∧ r = some (0, -1) ∧ H' = H)) := by
  intro E n res h
  have z1 : zw (t + 20) = t + 20 := zw_lit (by omega) (by omega)
  by_cases c : t ≤ 580
  · have c1 : t + 20 ≤ 600 := by omega
    have c2 : ¬ 600 < t + 20 := by omega
    have h := call_runP 6 vm_X12_feed h
    have h := xw_top (hd := []) 4 xD6_ok xc_X12_feed xa_X12_feed (t := 0) rfl h
    simp (maxDischargeDepth := 12) -implicitDefEqProofs [vb_X12_feed_0, vb_X12_feed_15, xI_0, xI_1, xI_7, xI_8, xI_9, xI_14, xI_48, xI_49, xI_61, xI_62, xw_X12_feed_0, xw_X12_feed_15, zw_lit, xB_c, xB_s, xB_n, i1_c, j2_c, k1_c, jJ_e, xlg, xls, xla, xpd, ppush, zw_m1, zw_m2, zw_m3, gf_12_4, tg_12_4, gv_590_4, xD1, xD2, xD3, xD4, xD5, xD6, xb1_0, h0, z1, c1, c2] at h
    obtain ⟨r, H1, ⟨rfl, f1, g1, w1⟩, h⟩ := xc_use h (sp_X12_four a0 t H (by omega) h0)
    obtain ⟨r, H2, ⟨rfl, f2, g2, w2⟩, h⟩ := xc_use h (sp_X12_four a1 (t + 4) H1 (by omega) (by rw [g1]; exact if_pos rfl))
    obtain ⟨r, H3, ⟨rfl, f3, g3, w3⟩, h⟩ := xc_use h (sp_X12_four a2 (t + 8) H2 (by omega) (by rw [g2]; exact (if_pos rfl).trans (by omega)))
    obtain ⟨r, H4, ⟨rfl, f4, g4, w4⟩, h⟩ := xc_use h (sp_X12_four a3 (t + 12) H3 (by omega) (by rw [g3]; exact (if_pos rfl).trans (by omega)))
    obtain ⟨r, H5, ⟨rfl, f5, g5, w5⟩, h⟩ := xc_use h (sp_X12_four a4 (t + 16) H4 (by omega) (by rw [g4]; exact (if_pos rfl).trans (by omega)))
    have e5 : H5 590 = xup (H 590) 4 (t + 20) := by
      rw [g5, g4, g3, g2, g1, xup_xup, xup_xup, xup_xup, xup_xup, show t + 16 + 4 = t + 20 by omega]
    have e6 : H5 590 4 = t + 20 := by
      rw [e5]
      exact if_pos rfl
    refine ⟨_, H5, h, Or.inl ⟨c, by rw [e6], fun c q1 q2 => by rw [f5 c q1 q2, f4 c q1 q2, f3 c q1 q2, f2 c q1 q2, f1 c q1 q2], e5, ?_⟩⟩
    rw [w5, w4, w3, w2, w1]
    rfl
  · have c1 : ¬ t + 20 ≤ 600 := by omega
    have c2 : 600 < t + 20 := by omega
    have h := call_runP 6 vm_X12_feed h
    have h := xw_top (hd := []) 4 xD6_ok xc_X12_feed xa_X12_feed (t := 0) rfl h
    simp (maxDischargeDepth := 12) -implicitDefEqProofs [vb_X12_feed_0, vb_X12_feed_15, xI_0, xI_1, xI_7, xI_8, xI_9, xI_14, xI_48, xI_49, xI_61, xI_62, xw_X12_feed_0, xw_X12_feed_15, zw_lit, xB_c, xB_s, xB_n, i1_c, j2_c, k1_c, jJ_e, xlg, xls, xla, xpd, ppush, zw_m1, zw_m2, zw_m3, gf_12_4, tg_12_4, gv_590_4, xD1, xD2, xD3, xD4, xD5, xD6, xb1_0, h0, z1, c1, c2] at h
    exact ⟨_, H, h, Or.inr ⟨by omega, rfl, rfl⟩⟩
def BYT (w m : Int → Int) (t : Int) : Prop := ∀ i, 0 ≤ i → i < t → (0 ≤ w i ∧ w i ≤ 255) ∧ q2 (· &&& ·) (m i) 255 = w i
theorem BYT_f4 {w m : Int → Int} {a t : Int} (h : BYT w m t) : BYT (f4 (byC a) t w 4) (f4 (byM a) t m 4) (t + 4) := fun i i0 i1 => by
  unfold f4
  by_cases q : t ≤ i ∧ i < t + 4
  · rw [if_pos q, if_pos q]
    exact ⟨byC_in _ _, by_M a (by omega)⟩
  · rw [if_neg q, if_neg q]
    exact h i i0 (by omega)
theorem BYT_f20 {w m : Int → Int} {a0 a1 a2 a3 a4 t : Int} (h : BYT w m t) : BYT (f20 byC a0 a1 a2 a3 a4 t w) (f20 byM a0 a1 a2 a3 a4 t m) (t + 20) := by
  have q1 := BYT_f4 (a := a0) h
  have q2 := BYT_f4 (a := a1) q1
  rw [show t + 4 + 4 = t + 8 by omega] at q2
  have q3 := BYT_f4 (a := a2) q2
  rw [show t + 8 + 4 = t + 12 by omega] at q3
  have q4 := BYT_f4 (a := a3) q3
  rw [show t + 12 + 4 = t + 16 by omega] at q4
  have q5 := BYT_f4 (a := a4) q4
  rw [show t + 16 + 4 = t + 20 by omega] at q5
  exact q5
theorem RL_tape {H H' : PH} {S : Int → Int → Int} {n : Int} (r : RLn H S n) (f : ∀ c, c < 589 → ¬ c = 213 → ¬ c = 214 → H' c = H c) (e1 : H' 591 = H 591) (e2 : H' 592 = H 592) (e4 : H' 590 2 = H 590 2) : RLn H' S n := by
  obtain ⟨r1, r2, r3, r4, r5⟩ := r
  exact ⟨by rw [e1]; exact r1, RC_lo2 r2 (fun c c0 _ _ _ _ _ c6 => f c c0 (by omega) (by omega)) (by rw [f 0 (by decide) (by decide) (by decide)]; exact ⟨rfl, rfl⟩), MCC_fr (fun c _ _ => f c (by omega) (by omega) (by omega)) r3, by rw [e4]; exact r4, KPr_cell r5 e2⟩
theorem pr_feed (a0 a1 a2 a3 a4 : Int) (H : PH) (h : REL H) : PAIR 105 [(2, 0), (0, a0), (0, a1), (0, a2), (0, a3), (0, a4)] 161 [(2, 590), (0, a0), (0, a1), (0, a2), (0, a3), (0, a4)] H := by
  obtain ⟨⟨S, n, rl⟩, sz, w, t1, t2, t3, t4, t5, t6⟩ := h
  intro E N res hh
  obtain ⟨r, H1, g, p⟩ := sp_c_feed a0 a1 a2 a3 a4 sz H t4 t1 E N res hh
  refine ⟨r, H1, g, ?_⟩
  rcases p with ⟨q, rfl, f1, f2, f3⟩ | ⟨q, rfl, rfl⟩
  · refine ⟨⟨_, rfl⟩, ?_⟩
    intro E N res hh
    obtain ⟨r', H2, g', p'⟩ := sp_m_feed a0 a1 a2 a3 a4 sz H1 t4 (by rw [f1 590 (by decide) (by decide)]; exact t3) E N res hh
    refine ⟨r', H2, g', ?_⟩
    rcases p' with ⟨_, rfl, m1, m2, m3⟩ | ⟨q', _⟩
    · have by0 : BYT (H 214) (H 593) sz := fun i i0 i1 => by
        rw [t2]
        exact ⟨t5 i i0 i1, t6 i i0 i1⟩
      have b := BYT_f20 (a0 := a0) (a1 := a1) (a2 := a2) (a3 := a3) (a4 := a4) by0
      refine ⟨rfl, ⟨S, n, RL_tape rl (fun c c0 c1 c2 => by rw [m1 c (by omega) (by omega), f1 c c1 c2]) (by rw [m1 591 (by decide) (by decide), f1 591 (by decide) (by decide)]) (by rw [m1 592 (by decide) (by decide), f1 592 (by decide) (by decide)]) (by rw [m2, f1 590 (by decide) (by decide)]; exact if_neg (by decide))⟩, sz + 20, f20 byC a0 a1 a2 a3 a4 sz (H 214), ?_, ?_, ?_, by omega, fun i i0 i1 => (b i i0 i1).1, fun i i0 i1 => ?_⟩
      · rw [m1 213 (by decide) (by decide), f2]
        exact if_pos rfl
      · rw [m1 214 (by decide) (by decide), f3]
      · rw [m2]
        exact if_pos rfl
      · rw [m3, f1 593 (by decide) (by decide)]
        exact (b i i0 i1).2
    · omega
  · refine ⟨⟨_, rfl⟩, ?_⟩
    intro E N res hh
    obtain ⟨r', H2, g', p'⟩ := sp_m_feed a0 a1 a2 a3 a4 sz H1 t4 t3 E N res hh
    refine ⟨r', H2, g', ?_⟩
    rcases p' with ⟨q', _⟩ | ⟨_, rfl, rfl⟩
    · omega
    · exact ⟨rfl, ⟨S, n, rl⟩, sz, w, t1, t2, t3, t4, t5, t6⟩
set_option maxRecDepth 100000 in
theorem sp_c_end (v : Int) (H : PH) : SPEC 106 [(2, 0), (0, v)] H (fun r H' => ((0 ≤ v ∧ v ≤ H 213 1) ∧ r = some (0, v) ∧ H' = pup H 213 1 v) ∨ (¬ (0 ≤ v ∧ v ≤ H 213 1) ∧ r = some (0, -1) ∧ H' = H)) := by
  intro E n res h
  by_cases c : 0 ≤ v ∧ v ≤ H 213 1
  · have h := call_runP 2 vm_X11_end h
    have h := xw_top (hd := []) 4 xD6_ok xc_X11_end xa_X11_end (t := 0) rfl h
    simp (maxDischargeDepth := 12) -implicitDefEqProofs [vb_X11_end_0, vb_X11_end_17, xI_0, xI_1, xI_7, xI_38, xI_49, xI_50, xI_60, xI_62, xw_X11_end_0, xw_X11_end_17, zw_lit, xB_c, xB_s, xB_n, i1_c, j2_c, k1_c, jJ_e, xlg, xls, xla, xpd, ppush, zw_m1, zw_m2, zw_m3, gf_10_1, gf_11_1, pf_10_1, tg_10_1, tg_11_1, gv_213_1, gv_0_1, xD1, xD2, xD3, xD4, xD5, xD6, xb1_0, c] at h
    rcases h with h | ⟨q, _⟩
    · exact ⟨_, _, h, Or.inl ⟨c, rfl, rfl⟩⟩
    · omega
  · have h := call_runP 2 vm_X11_end h
    have h := xw_top (hd := []) 4 xD6_ok xc_X11_end xa_X11_end (t := 0) rfl h
    simp (maxDischargeDepth := 12) -implicitDefEqProofs [vb_X11_end_0, vb_X11_end_17, xI_0, xI_1, xI_7, xI_38, xI_49, xI_50, xI_60, xI_62, xw_X11_end_0, xw_X11_end_17, zw_lit, xB_c, xB_s, xB_n, i1_c, j2_c, k1_c, jJ_e, xlg, xls, xla, xpd, ppush, zw_m1, zw_m2, zw_m3, gf_10_1, gf_11_1, pf_10_1, tg_10_1, tg_11_1, gv_213_1, gv_0_1, xD1, xD2, xD3, xD4, xD5, xD6, xb1_0, c] at h
    exact ⟨_, _, h.2, Or.inr ⟨c, rfl, rfl⟩⟩
set_option maxRecDepth 100000 in
theorem sp_m_end (v : Int) (H : PH) : SPEC 162 [(2, 590), (0, v)] H (fun r H' => ((0 ≤ v ∧ v ≤ H 590 4) ∧ r = some (0, v) ∧ H' = pup H 590 4 v) ∨ (¬ (0 ≤ v ∧ v ≤ H 590 4) ∧ r = some (0, -1) ∧ H' = H)) := by
  intro E n res h
  by_cases c : 0 ≤ v ∧ v ≤ H 590 4
  · have h := call_runP 2 vm_X12_end h
    have h := xw_top (hd := []) 4 xD6_ok xc_X12_end xa_X12_end (t := 0) rfl h
    simp (maxDischargeDepth := 12) -implicitDefEqProofs [vb_X12_end_0, vb_X12_end_14, xI_0, xI_1, xI_7, xI_38, xI_49, xI_50, xI_60, xI_62, xw_X12_end_0, xw_X12_end_14, zw_lit, xB_c, xB_s, xB_n, i1_c, j2_c, k1_c, jJ_e, xlg, xls, xla, xpd, ppush, zw_m1, zw_m2, zw_m3, gf_12_4, pf_12_4, tg_12_4, gv_590_4, xD1, xD2, xD3, xD4, xD5, xD6, xb1_0, c] at h
    rcases h with h | ⟨q, _⟩
    · exact ⟨_, _, h, Or.inl ⟨c, rfl, rfl⟩⟩
    · omega
  · have h := call_runP 2 vm_X12_end h
    have h := xw_top (hd := []) 4 xD6_ok xc_X12_end xa_X12_end (t := 0) rfl h
    simp (maxDischargeDepth := 12) -implicitDefEqProofs [vb_X12_end_0, vb_X12_end_14, xI_0, xI_1, xI_7, xI_38, xI_49, xI_50, xI_60, xI_62, xw_X12_end_0, xw_X12_end_14, zw_lit, xB_c, xB_s, xB_n, i1_c, j2_c, k1_c, jJ_e, xlg, xls, xla, xpd, ppush, zw_m1, zw_m2, zw_m3, gf_12_4, pf_12_4, tg_12_4, gv_590_4, xD1, xD2, xD3, xD4, xD5, xD6, xb1_0, c] at h
    exact ⟨_, _, h.2, Or.inr ⟨c, rfl, rfl⟩⟩
theorem pr_end (v : Int) (H : PH) (h : REL H) : PAIR 106 [(2, 0), (0, v)] 162 [(2, 590), (0, v)] H := by
  obtain ⟨⟨S, n, rl⟩, sz, w, t1, t2, t3, t4, t5, t6⟩ := h
  intro E N res hh
  obtain ⟨r, H1, g, p⟩ := sp_c_end v H E N res hh
  refine ⟨r, H1, g, ?_⟩
  rcases p with ⟨q, rfl, e⟩ | ⟨q, rfl, rfl⟩
  · refine ⟨⟨_, rfl⟩, ?_⟩
    intro E N res hh
    obtain ⟨r', H2, g', p'⟩ := sp_m_end v H1 E N res hh
    refine ⟨r', H2, g', ?_⟩
    have e4 : H1 590 4 = sz := by rw [e, xp_ne (by decide)]; exact t3
    rw [e4] at p'
    rw [t1] at q
    rcases p' with ⟨_, rfl, e2⟩ | ⟨q', _⟩
    · have f : ∀ c, ¬ c = 213 → ¬ c = 590 → H2 c = H c := fun c c1 c2 => by rw [e2, xp_ne c2, e, xp_ne c1]
      refine ⟨rfl, ⟨S, n, RL_tape rl (fun c c0 c1 c2 => f c c1 (by omega)) (f 591 (by decide) (by decide)) (f 592 (by decide) (by decide)) (by rw [e2, pupC, e, xp_ne (by decide)]; exact if_neg (by decide))⟩, v, w, ?_, ?_, ?_, by omega, fun i i0 i1 => t5 i i0 (by omega), fun i i0 i1 => ?_⟩
      · rw [e2, xp_ne (by decide), e, pupC]
        exact if_pos rfl
      · rw [f 214 (by decide) (by decide)]
        exact t2
      · rw [e2, pupC]
        exact if_pos rfl
      · rw [f 593 (by decide) (by decide)]
        exact t6 i i0 (by omega)
    · exact absurd q q'
  · refine ⟨⟨_, rfl⟩, ?_⟩
    intro E N res hh
    obtain ⟨r', H2, g', p'⟩ := sp_m_end v H1 E N res hh
    refine ⟨r', H2, g', ?_⟩
    rw [t3] at p'
    rw [t1] at q
    rcases p' with ⟨q', _⟩ | ⟨_, rfl, rfl⟩
    · exact absurd q' q
    · exact ⟨rfl, ⟨S, n, rl⟩, sz, w, t1, t2, t3, t4, t5, t6⟩
