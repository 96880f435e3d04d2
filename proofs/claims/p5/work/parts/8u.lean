theorem gf_0_5 : gfOK 0 5 = true := by decide +kernel
theorem gf_0_6 : gfOK 0 6 = true := by decide +kernel
theorem gf_0_7 : gfOK 0 7 = true := by decide +kernel
theorem gf_11_2 : gfOK 11 2 = true := by decide +kernel
theorem gf_11_3 : gfOK 11 3 = true := by decide +kernel
def xm_X0_dueBales : List xbT := [(0, vb_X0_dueBales_0, some 7), (7, vb_X0_dueBales_7, some 33), (33, vb_X0_dueBales_33, some 39), (39, vb_X0_dueBales_39, none)]
theorem xc_X0_dueBales : xOK kd_X0_dueBales xm_X0_dueBales := ⟨ve_X0_dueBales_0, ve_X0_dueBales_7, ve_X0_dueBales_33, ve_X0_dueBales_39, trivial⟩
theorem xa_X0_dueBales : xm_X0_dueBales.all (fun q => aOKb q.2.1 && !q.2.1.isEmpty) = true := by decide +kernel
theorem xw_X0_dueBales_0 {E : xE} {res : xR} {N : Nat} {hd : List Nat} {C : xCT} {k : Nat} {L : List Int} {st : List pv} {H : PH} : xW E res N kd_X0_dueBales xm_X0_dueBales hd C (k + 1) 0 L st H = xB (fun t L st H => if t ∈ hd then xJ E res N kd_X0_dueBales t L st H else xW E res N kd_X0_dueBales xm_X0_dueBales hd C k t L st H) (REPR E res) C (some 7) vb_X0_dueBales_0 0 L st H := Eq.trans rfl rfl
theorem xw_X0_dueBales_7 {E : xE} {res : xR} {N : Nat} {hd : List Nat} {C : xCT} {k : Nat} {L : List Int} {st : List pv} {H : PH} : xW E res N kd_X0_dueBales xm_X0_dueBales hd C (k + 1) 7 L st H = xB (fun t L st H => if t ∈ hd then xJ E res N kd_X0_dueBales t L st H else xW E res N kd_X0_dueBales xm_X0_dueBales hd C k t L st H) (REPR E res) C (some 33) vb_X0_dueBales_7 7 L st H := Eq.trans rfl rfl
theorem xw_X0_dueBales_33 {E : xE} {res : xR} {N : Nat} {hd : List Nat} {C : xCT} {k : Nat} {L : List Int} {st : List pv} {H : PH} : xW E res N kd_X0_dueBales xm_X0_dueBales hd C (k + 1) 33 L st H = xB (fun t L st H => if t ∈ hd then xJ E res N kd_X0_dueBales t L st H else xW E res N kd_X0_dueBales xm_X0_dueBales hd C k t L st H) (REPR E res) C (some 39) vb_X0_dueBales_33 33 L st H := Eq.trans rfl rfl
theorem xw_X0_dueBales_39 {E : xE} {res : xR} {N : Nat} {hd : List Nat} {C : xCT} {k : Nat} {L : List Int} {st : List pv} {H : PH} : xW E res N kd_X0_dueBales xm_X0_dueBales hd C (k + 1) 39 L st H = xB (fun t L st H => if t ∈ hd then xJ E res N kd_X0_dueBales t L st H else xW E res N kd_X0_dueBales xm_X0_dueBales hd C k t L st H) (REPR E res) C (none) vb_X0_dueBales_39 39 L st H := Eq.trans rfl rfl
def xm_X11_matchAll : List xbT := [(0, vb_X11_matchAll_0, none)]
theorem xc_X11_matchAll : xOK kd_X11_matchAll xm_X11_matchAll := ⟨ve_X11_matchAll_0, trivial⟩
theorem xa_X11_matchAll : xm_X11_matchAll.all (fun q => aOKb q.2.1 && !q.2.1.isEmpty) = true := by decide +kernel
theorem xw_X11_matchAll_0 {E : xE} {res : xR} {N : Nat} {hd : List Nat} {C : xCT} {k : Nat} {L : List Int} {st : List pv} {H : PH} : xW E res N kd_X11_matchAll xm_X11_matchAll hd C (k + 1) 0 L st H = xB (fun t L st H => if t ∈ hd then xJ E res N kd_X11_matchAll t L st H else xW E res N kd_X11_matchAll xm_X11_matchAll hd C k t L st H) (REPR E res) C (none) vb_X11_matchAll_0 0 L st H := Eq.trans rfl rfl
/-- the class's tallies when they are fresh -/
def TCf (A : Int → Int) (H : PH) : Prop := TC (tlZ A) H ∧ (0 ≤ (tlZ A).1 ∧ (tlZ A).1 ≤ 60) ∧ (∀ x, 0 ≤ x → x < A 2 → H 216 x = rdL A x) ∧ (∀ x, 0 ≤ x → x < 12 + (tlZ A).1 → H 220 x = agdA A x)
/-- a law's working leaves the state as it is -/
theorem CI_ag {H H' : PH} {A : Int → Int} {w : Int} (hB : MB A) (hw : KW w) (h : CI H A) (g : ∀ d, ¬ d = w + 2 → H' d = H d) : CI H' A := by
  obtain ⟨a, b, c⟩ := h
  have hA2 := hB.2.2.1
  have k : ∀ c : Int, (zSh c.toNat).1 ≠ 4 → ¬ w = c := fun c hc e => hc (e ▸ hw.2.2)
  have q16 : (List.range 622).all (fun c => !Nat.beq (zSh c).1 4 || (Nat.beq (zSh (c + 2)).1 16 && Nat.beq (zSh (c + 1)).1 16)) = true := by decide +kernel
  have w16 : (zSh (w + 2).toNat).1 = 16 ∧ (zSh (w + 1).toNat).1 = 16 := by
    have h0 := hw.1
    have h1 := hw.2.1
    have g := List.all_eq_true.mp q16 w.toNat (List.mem_range.mpr (by omega))
    rw [hw.2.2] at g
    simp only [Nat.beq_refl, Bool.not_true, Bool.false_or, Bool.and_eq_true] at g
    rw [show (w + 2).toNat = w.toNat + 2 by omega, show (w + 1).toNat = w.toNat + 1 by omega]
    exact ⟨Nat.eq_of_beq_eq_true g.1, Nat.eq_of_beq_eq_true g.2⟩
  have nz := KZ (Or.inl hw)
  have lo : ∀ c : Int, c ≤ 92 → ¬ c = 50 → ¬ c = 53 → H' c = H c := fun c h1 h2 h3 => g c (fun e => by
    have g48 : (List.range 93).all (fun c => !Nat.beq (zSh c).1 4 || (Nat.beq c 48 || Nat.beq c 51)) = true := by decide +kernel
    have h0 := hw.1
    have := List.all_eq_true.mp g48 w.toNat (List.mem_range.mpr (by omega))
    rw [hw.2.2] at this
    simp only [Nat.beq_refl, Bool.not_true, Bool.false_or, Bool.or_eq_true] at this
    rcases this with q | q
    · have := Nat.eq_of_beq_eq_true q
      omega
    · have := Nat.eq_of_beq_eq_true q
      omega)
  have hq : ∀ q, KL q → H' q = H q := fun q h1 => g q (fun e => by
    have := h1.2.2
    rw [e] at this
    omega)
  have hq1 : ∀ q, KL q → H' (q + 1) = H (q + 1) := fun q h1 => g _ (fun e => by
    have g5 : (List.range 622).all (fun c => !Nat.beq (zSh c).1 4 || !Nat.beq (zSh (c + 1)).1 5) = true := by decide +kernel
    have := List.all_eq_true.mp g5 w.toNat (List.mem_range.mpr (by have := hw.1; have := hw.2.1; omega))
    rw [hw.2.2] at this
    have h2 := h1.2.2
    rw [show q = w + 1 by omega, show (w + 1).toNat = w.toNat + 1 by have := hw.1; omega] at h2
    rw [h2] at this
    cases this)
  have e47 : H' 47 = H 47 := lo 47 (by decide) (by decide) (by decide)
  refine ⟨CR_eq hB c a (fun x x1 _ _ x4 x5 => lo x x1 x4 x5) (fun q h1 i _ => by rw [hq q h1]) (fun v hv => ⟨g v (fun e => ?_), g _ (fun e => ?_)⟩), fun j j0 j1 => ?_, ?_⟩
  · have := hv.2.2
    rw [e] at this
    omega
  · have e2 : v = w + 1 := by omega
    have := hv.2.2
    rw [e2] at this
    omega
  · have kj := c.1 j j0 (by omega)
    rw [e47, hq _ kj, hq1 _ kj]
    exact b j j0 j1
  · unfold LDi
    rw [e47]
    exact c
theorem lp_tr0 {E : xE} {res : xR} : ∀ (n : Nat) (i v : Int) (H : PH), 0 ≤ i → i ≤ 72 → (∀ x, 0 ≤ x → x < i → H 218 x = 0 ∧ H 219 x = 0) → RUN E res n kd_X9_refresh (zget kd_X9_refresh 20) 20 [215, i, v] [] H → ∃ H' : PH, (∀ x, 0 ≤ x → x < 72 → H' 218 x = 0 ∧ H' 219 x = 0) ∧ (∀ c, ¬ c = 218 → ¬ c = 219 → H' c = H c) ∧ xJ E res n kd_X9_refresh 48 [215, 0, v] [] H' := by
  intro n
  induction n using Nat.strongRecOn with
  | _ n ih =>
    intro i v H hi0 hi1 hz h
    have z1 : zw (i + 1) = i + 1 := zw_lit (by omega) (by omega)
    have h := xw_top (hd := [20, 48]) 12 xD6_ok xc_X9_refresh xa_X9_refresh (t := 20) rfl h
    simp (maxDischargeDepth := 12) -implicitDefEqProofs [vb_X9_refresh_0, vb_X9_refresh_8, vb_X9_refresh_20, vb_X9_refresh_46, vb_X9_refresh_48, vb_X9_refresh_70, vb_X9_refresh_72, vb_X9_refresh_109, vb_X9_refresh_110, vb_X9_refresh_146, xI_0, xI_1, xI_3, xI_6, xI_7, xI_8, xI_14, xI_36, xI_37, xI_46, xI_49, xI_50, xI_51, xI_52, xI_53, xI_61, xI_65, xw_X9_refresh_0, xw_X9_refresh_8, xw_X9_refresh_20, xw_X9_refresh_46, xw_X9_refresh_48, xw_X9_refresh_70, xw_X9_refresh_72, xw_X9_refresh_109, xw_X9_refresh_110, xw_X9_refresh_146, zw_lit, xB_c, xB_s, xB_n, i1_c, j2_c, k1_c, jJ_e, xlg, xls, xla, xpd, ppush, zw_m1, zw_m2, zw_m3, gf_0_1, gf_1_1, gf_1_2, gf_1_4, gf_1_5, gf_9_0, gf_9_1, gf_9_4, gf_9_5, gf_9_6, gf_9_7, pf_9_4, pf_9_129, tg_0_1, tg_1_1, tg_1_2, tg_1_4, tg_1_5, tg_9_0, tg_9_1, tg_9_4, tg_9_5, tg_9_6, tg_9_7, gv_1_1, gv_1_2, gv_1_4, gv_1_5, gv_215_0, gv_215_1, gv_215_4, gv_215_5, gv_215_6, gv_215_7, xD1, xD2, xD3, xD4, xD5, xD6, xb1_0, z1] at h
    rcases h with ⟨q, h⟩ | ⟨q, m, hm, h⟩
    · exact ⟨H, fun x x0 x1 => hz x x0 (by omega), fun _ _ _ => rfl, h⟩
    · obtain ⟨H', g1, g2, g3⟩ := ih m hm (i + 1) v _ (by omega) (by omega) (fun x x0 x1 => by
        have := hz x x0
        rw [xp_ne (by decide), xp_at, xp_at, xp_ne (by decide)]
        split
        · exact ⟨rfl, rfl⟩
        · exact this (by omega)) h
      exact ⟨H', g1, fun c a b => by rw [g2 c a b, xp_ne b, xp_ne a], xJ_up g3 (by omega)⟩
theorem lp_tr1 (A : Int → Int) (hB : MB A) (h3 : 0 ≤ A 3 ∧ A 3 ≤ 20) {E : xE} {res : xR} : ∀ (n : Nat) (k v : Int) (t : tS) (H : PH), 0 ≤ k → k ≤ A 2 → CI H A → (0 ≤ t.1 ∧ t.1 ≤ k) → (∀ h, 0 ≤ h → h < t.1 → 0 ≤ t.2.1 h ∧ t.2.1 h < A 2) → TC t H → (∀ x, 0 ≤ x → x < k → H 216 x = rdL A x) → RUN E res n kd_X9_refresh (zget kd_X9_refresh 48) 48 [215, k, v] [] H → ∃ (H' : PH) (u : Int), CI H' A ∧ TC (tlF A (A 2 - k).toNat k t) H' ∧ (0 ≤ (tlF A (A 2 - k).toNat k t).1 ∧ (tlF A (A 2 - k).toNat k t).1 ≤ 60) ∧ (∀ x, 0 ≤ x → x < A 2 → H' 216 x = rdL A x) ∧ TF H H' ∧ xJ E res n kd_X9_refresh 72 [215, 0, u] [] H' := by
  have hA2 := hB.2.2.1
  intro n
  induction n using Nat.strongRecOn with
  | _ n ih =>
    intro k v t H hk0 hk1 ci ht hf hT hR h
    have a2 : A 2 = H 1 4 := ci.1.1.2.2.1
    have z1 : zw (k + 1) = k + 1 := zw_lit (by omega) (by omega)
    by_cases q : A 2 ≤ k
    · have h := xw_top (hd := [48, 72]) 12 xD6_ok xc_X9_refresh xa_X9_refresh (t := 48) rfl h
      simp (maxDischargeDepth := 12) -implicitDefEqProofs [vb_X9_refresh_0, vb_X9_refresh_8, vb_X9_refresh_20, vb_X9_refresh_46, vb_X9_refresh_48, vb_X9_refresh_70, vb_X9_refresh_72, vb_X9_refresh_109, vb_X9_refresh_110, vb_X9_refresh_146, xI_0, xI_1, xI_3, xI_6, xI_7, xI_8, xI_14, xI_36, xI_37, xI_46, xI_49, xI_50, xI_51, xI_52, xI_53, xI_61, xI_65, xw_X9_refresh_0, xw_X9_refresh_8, xw_X9_refresh_20, xw_X9_refresh_46, xw_X9_refresh_48, xw_X9_refresh_70, xw_X9_refresh_72, xw_X9_refresh_109, xw_X9_refresh_110, xw_X9_refresh_146, zw_lit, xB_c, xB_s, xB_n, i1_c, j2_c, k1_c, jJ_e, xlg, xls, xla, xpd, ppush, zw_m1, zw_m2, zw_m3, gf_0_1, gf_1_1, gf_1_2, gf_1_4, gf_1_5, gf_9_0, gf_9_1, gf_9_4, gf_9_5, gf_9_6, gf_9_7, pf_9_4, pf_9_129, tg_0_1, tg_1_1, tg_1_2, tg_1_4, tg_1_5, tg_9_0, tg_9_1, tg_9_4, tg_9_5, tg_9_6, tg_9_7, gv_1_1, gv_1_2, gv_1_4, gv_1_5, gv_215_0, gv_215_1, gv_215_4, gv_215_5, gv_215_6, gv_215_7, xD1, xD2, xD3, xD4, xD5, xD6, xb1_0, ← a2] at h
      have h := (h.resolve_right (by omega)).2
      rw [show (A 2 - k).toNat = 0 by omega]
      exact ⟨H, _, ci, hT, ⟨ht.1, by show t.1 ≤ 60; omega⟩, fun x x0 x1 => hR x x0 (by omega), TF_refl, h⟩
    · have h := xw_top (hd := [48, 72]) 12 xD6_ok xc_X9_refresh xa_X9_refresh (t := 48) rfl h
      simp (maxDischargeDepth := 12) -implicitDefEqProofs [vb_X9_refresh_0, vb_X9_refresh_8, vb_X9_refresh_20, vb_X9_refresh_46, vb_X9_refresh_48, vb_X9_refresh_70, vb_X9_refresh_72, vb_X9_refresh_109, vb_X9_refresh_110, vb_X9_refresh_146, xI_0, xI_1, xI_3, xI_6, xI_7, xI_8, xI_14, xI_36, xI_37, xI_46, xI_49, xI_50, xI_51, xI_52, xI_53, xI_61, xI_65, xw_X9_refresh_0, xw_X9_refresh_8, xw_X9_refresh_20, xw_X9_refresh_46, xw_X9_refresh_48, xw_X9_refresh_70, xw_X9_refresh_72, xw_X9_refresh_109, xw_X9_refresh_110, xw_X9_refresh_146, zw_lit, xB_c, xB_s, xB_n, i1_c, j2_c, k1_c, jJ_e, xlg, xls, xla, xpd, ppush, zw_m1, zw_m2, zw_m3, gf_0_1, gf_1_1, gf_1_2, gf_1_4, gf_1_5, gf_9_0, gf_9_1, gf_9_4, gf_9_5, gf_9_6, gf_9_7, pf_9_4, pf_9_129, tg_0_1, tg_1_1, tg_1_2, tg_1_4, tg_1_5, tg_9_0, tg_9_1, tg_9_4, tg_9_5, tg_9_6, tg_9_7, gv_1_1, gv_1_2, gv_1_4, gv_1_5, gv_215_0, gv_215_1, gv_215_4, gv_215_5, gv_215_6, gv_215_7, xD1, xD2, xD3, xD4, xD5, xD6, xb1_0, ← a2] at h
      have h := (h.resolve_left (by omega)).2
      obtain ⟨r, H1, ⟨rfl, g1, g2, g3, g4⟩, h⟩ := xc_use h (sp_X9_count k A H hB h3 ⟨hk0, by omega⟩ ci t ht hf hT hR)
      simp (maxDischargeDepth := 12) -implicitDefEqProofs [vb_X9_refresh_0, vb_X9_refresh_8, vb_X9_refresh_20, vb_X9_refresh_46, vb_X9_refresh_48, vb_X9_refresh_70, vb_X9_refresh_72, vb_X9_refresh_109, vb_X9_refresh_110, vb_X9_refresh_146, xI_0, xI_1, xI_3, xI_6, xI_7, xI_8, xI_14, xI_36, xI_37, xI_46, xI_49, xI_50, xI_51, xI_52, xI_53, xI_61, xI_65, xw_X9_refresh_0, xw_X9_refresh_8, xw_X9_refresh_20, xw_X9_refresh_46, xw_X9_refresh_48, xw_X9_refresh_70, xw_X9_refresh_72, xw_X9_refresh_109, xw_X9_refresh_110, xw_X9_refresh_146, zw_lit, xB_c, xB_s, xB_n, i1_c, j2_c, k1_c, jJ_e, xlg, xls, xla, xpd, ppush, zw_m1, zw_m2, zw_m3, gf_0_1, gf_1_1, gf_1_2, gf_1_4, gf_1_5, gf_9_0, gf_9_1, gf_9_4, gf_9_5, gf_9_6, gf_9_7, pf_9_4, pf_9_129, tg_0_1, tg_1_1, tg_1_2, tg_1_4, tg_1_5, tg_9_0, tg_9_1, tg_9_4, tg_9_5, tg_9_6, tg_9_7, gv_1_1, gv_1_2, gv_1_4, gv_1_5, gv_215_0, gv_215_1, gv_215_4, gv_215_5, gv_215_6, gv_215_7, xD1, xD2, xD3, xD4, xD5, xD6, xb1_0, z1] at h
      obtain ⟨m, hm, h⟩ := h
      obtain ⟨i1, _⟩ := tlS_in (A := A) (k := k) ⟨hk0, by omega⟩ ht (fun h h0 h1 => by have := hf h h0 h1; omega)
      obtain ⟨H', u, k1, k2, k3, k4, k5, k6⟩ := ih m hm (k + 1) v _ H1 (by omega) (by omega) g1 i1 (tlS_inN ⟨hk0, by omega⟩ ht.1 hf) g2 g3 h
      rw [show (A 2 - k).toNat = (A 2 - (k + 1)).toNat + 1 by omega]
      exact ⟨H', u, k1, k2, k3, k4, TF_trans g4 k5, xJ_up k6 (by omega)⟩
theorem agA_C {A : Int → Int} {H : PH} (hL : ML A) (hC : CR H A) (a b c : Int) : KW (H 1 5) ∧ (∀ k, 0 ≤ k → k < H (H 1 5) 2 → VC (H (H 1 5 + 1) k)) ∧ WFL (fun k => enC (H (H 1 5 + 1) k)) (H (H 1 5) 2) ∧ (if H (H 1 5) 2 = 0 then min a b else agV (fun k => enC (H (H 1 5 + 1) k)) (H (H 1 5) 2) a b c) = agA A a b c := by
  obtain ⟨w0, w1, w2, w3⟩ := hC.2.2.2.2
  have he : ∀ k : Nat, (k : Int) < A 11 → A (12 + (k : Int)) = enC (H (H 1 5 + 1) k) := fun k hk => (w3 k (by omega) (by omega)).2
  have hd : ∀ k : Nat, (k : Int) ≤ A 11 → dpF (fun k => A (12 + k)) k = dpF (fun k => enC (H (H 1 5 + 1) k)) k := by
    intro k
    induction k with
    | zero => intro _; rfl
    | succ k ih =>
      intro hk
      have e := he k (by omega)
      show (if A (12 + (k : Int)) < 11000 then _ else _) = (if enC (H (H 1 5 + 1) k) < 11000 then _ else _)
      rw [e, ih (by omega)]
  refine ⟨w0, fun k k0 k1 => (w3 k k0 k1).1, ⟨by rw [← w2]; exact hL.1.1, by rw [← w2]; exact hL.1.2.1, fun k hk => ?_⟩, ?_⟩
  · rw [← w2] at hk
    have := hL.1.2.2 k hk
    have e := he k hk
    have e2 := hd k (by omega)
    show -1000000 < enC (H (H 1 5 + 1) k) ∧ enC (H (H 1 5 + 1) k) < 1000000 ∧ (enC (H (H 1 5 + 1) k) < 11000 → dpF (fun k => enC (H (H 1 5 + 1) k)) k ≤ 29) ∧ (¬ enC (H (H 1 5 + 1) k) < 11000 → 2 ≤ dpF (fun k => enC (H (H 1 5 + 1) k)) k)
    rw [← e, ← e2]
    exact this
  · unfold agA
    rw [← w2]
    by_cases q : A 10 = 0
    · rw [if_pos q, if_pos (hL.2.mp q)]
    · have q2 : ¬ A 11 = 0 := fun e => q (hL.2.mpr e)
      rw [if_neg q, if_neg q2]
      unfold agV
      have h0 := hL.1.1
      obtain ⟨g1, g2, g3⟩ := agF_eq a b c hL.1 (w' := fun k => enC (H (H 1 5 + 1) k)) he (A 11).toNat 0 (0, fun _ => 0) (0, fun _ => 0) (by omega) rfl rfl (fun _ _ _ => rfl)
      have hp := (dpF_pos hL.1 (A 11).toNat (by omega)).2.2 (by omega)
      rw [g3 0 (Int.le_refl _) (by rw [g2, show 0 + (A 11).toNat = (A 11).toNat by omega]; omega)]
