theorem gf_0_0 : gfOK 0 0 = true := by decide +kernel
theorem gf_1_0 : gfOK 1 0 = true := by decide +kernel
theorem gf_1_1 : gfOK 1 1 = true := by decide +kernel
theorem gf_1_3 : gfOK 1 3 = true := by decide +kernel
theorem gf_5_3 : gfOK 5 3 = true := by decide +kernel
theorem gf_5_4 : gfOK 5 4 = true := by decide +kernel
theorem gf_5_5 : gfOK 5 5 = true := by decide +kernel
theorem pf_5_4 : pfOK 5 4 = true := by decide +kernel
def xm_X1_gapsOf : List xbT := [(0, vb_X1_gapsOf_0, some 12), (12, vb_X1_gapsOf_12, some 52), (52, vb_X1_gapsOf_52, none)]
theorem xc_X1_gapsOf : xOK kd_X1_gapsOf xm_X1_gapsOf := ⟨ve_X1_gapsOf_0, ve_X1_gapsOf_12, ve_X1_gapsOf_52, trivial⟩
theorem xa_X1_gapsOf : xm_X1_gapsOf.all (fun q => aOKb q.2.1 && !q.2.1.isEmpty) = true := by decide +kernel
theorem xw_X1_gapsOf_0 {E : xE} {res : xR} {N : Nat} {hd : List Nat} {C : xCT} {k : Nat} {L : List Int} {st : List pv} {H : PH} : xW E res N kd_X1_gapsOf xm_X1_gapsOf hd C (k + 1) 0 L st H = xB (fun t L st H => if t ∈ hd then xJ E res N kd_X1_gapsOf t L st H else xW E res N kd_X1_gapsOf xm_X1_gapsOf hd C k t L st H) (REPR E res) C (some 12) vb_X1_gapsOf_0 0 L st H := Eq.trans rfl rfl
theorem xw_X1_gapsOf_12 {E : xE} {res : xR} {N : Nat} {hd : List Nat} {C : xCT} {k : Nat} {L : List Int} {st : List pv} {H : PH} : xW E res N kd_X1_gapsOf xm_X1_gapsOf hd C (k + 1) 12 L st H = xB (fun t L st H => if t ∈ hd then xJ E res N kd_X1_gapsOf t L st H else xW E res N kd_X1_gapsOf xm_X1_gapsOf hd C k t L st H) (REPR E res) C (some 52) vb_X1_gapsOf_12 12 L st H := Eq.trans rfl rfl
theorem xw_X1_gapsOf_52 {E : xE} {res : xR} {N : Nat} {hd : List Nat} {C : xCT} {k : Nat} {L : List Int} {st : List pv} {H : PH} : xW E res N kd_X1_gapsOf xm_X1_gapsOf hd C (k + 1) 52 L st H = xB (fun t L st H => if t ∈ hd then xJ E res N kd_X1_gapsOf t L st H else xW E res N kd_X1_gapsOf xm_X1_gapsOf hd C k t L st H) (REPR E res) C (none) vb_X1_gapsOf_52 52 L st H := Eq.trans rfl rfl
def xm_X1_readBy : List xbT := [(0, vb_X1_readBy_0, some 11), (11, vb_X1_readBy_11, some 41), (41, vb_X1_readBy_41, some 59), (59, vb_X1_readBy_59, some 65), (65, vb_X1_readBy_65, none)]
theorem xc_X1_readBy : xOK kd_X1_readBy xm_X1_readBy := ⟨ve_X1_readBy_0, ve_X1_readBy_11, ve_X1_readBy_41, ve_X1_readBy_59, ve_X1_readBy_65, trivial⟩
theorem xa_X1_readBy : xm_X1_readBy.all (fun q => aOKb q.2.1 && !q.2.1.isEmpty) = true := by decide +kernel
theorem xw_X1_readBy_0 {E : xE} {res : xR} {N : Nat} {hd : List Nat} {C : xCT} {k : Nat} {L : List Int} {st : List pv} {H : PH} : xW E res N kd_X1_readBy xm_X1_readBy hd C (k + 1) 0 L st H = xB (fun t L st H => if t ∈ hd then xJ E res N kd_X1_readBy t L st H else xW E res N kd_X1_readBy xm_X1_readBy hd C k t L st H) (REPR E res) C (some 11) vb_X1_readBy_0 0 L st H := Eq.trans rfl rfl
theorem xw_X1_readBy_11 {E : xE} {res : xR} {N : Nat} {hd : List Nat} {C : xCT} {k : Nat} {L : List Int} {st : List pv} {H : PH} : xW E res N kd_X1_readBy xm_X1_readBy hd C (k + 1) 11 L st H = xB (fun t L st H => if t ∈ hd then xJ E res N kd_X1_readBy t L st H else xW E res N kd_X1_readBy xm_X1_readBy hd C k t L st H) (REPR E res) C (some 41) vb_X1_readBy_11 11 L st H := Eq.trans rfl rfl
theorem xw_X1_readBy_41 {E : xE} {res : xR} {N : Nat} {hd : List Nat} {C : xCT} {k : Nat} {L : List Int} {st : List pv} {H : PH} : xW E res N kd_X1_readBy xm_X1_readBy hd C (k + 1) 41 L st H = xB (fun t L st H => if t ∈ hd then xJ E res N kd_X1_readBy t L st H else xW E res N kd_X1_readBy xm_X1_readBy hd C k t L st H) (REPR E res) C (some 59) vb_X1_readBy_41 41 L st H := Eq.trans rfl rfl
theorem xw_X1_readBy_59 {E : xE} {res : xR} {N : Nat} {hd : List Nat} {C : xCT} {k : Nat} {L : List Int} {st : List pv} {H : PH} : xW E res N kd_X1_readBy xm_X1_readBy hd C (k + 1) 59 L st H = xB (fun t L st H => if t ∈ hd then xJ E res N kd_X1_readBy t L st H else xW E res N kd_X1_readBy xm_X1_readBy hd C k t L st H) (REPR E res) C (some 65) vb_X1_readBy_59 59 L st H := Eq.trans rfl rfl
theorem xw_X1_readBy_65 {E : xE} {res : xR} {N : Nat} {hd : List Nat} {C : xCT} {k : Nat} {L : List Int} {st : List pv} {H : PH} : xW E res N kd_X1_readBy xm_X1_readBy hd C (k + 1) 65 L st H = xB (fun t L st H => if t ∈ hd then xJ E res N kd_X1_readBy t L st H else xW E res N kd_X1_readBy xm_X1_readBy hd C k t L st H) (REPR E res) C (none) vb_X1_readBy_65 65 L st H := Eq.trans rfl rfl
theorem xv_X1_gapsOf : zget zM 15 = some ((15, 1, false, cX1_gapsOf, 4, (some (.array .int))), kd_X1_gapsOf) := rfl
/-! the class's state and the model's row -/
def ocF (c : Int) : Int := if c = 37 then 46 else if c ≤ 26 then c + 64 else c + 21
def mkS (g : Int → Int) : Nat → Int
  | 0 => 0
  | k + 1 => mkS g k + g k * 64 ^ k
/-- a mark of n signs, f tells them as octets -/
def VM (m n : Int) (f : Int → Int) : Prop := szf m = n ∧ (1 ≤ n ∧ n ≤ 8) ∧ (∀ i, 0 ≤ i → i < n → 1 ≤ sgf m i ∧ sgf m i ≤ 37 ∧ f i = ocF (sgf m i)) ∧ m = mkS (sgf m) n.toNat + n * 281474976710656
theorem mkS_eq {g g' : Int → Int} : ∀ n : Nat, (∀ i : Nat, i < n → g i = g' i) → mkS g n = mkS g' n
  | 0, _ => rfl
  | n + 1, h => by
    unfold mkS
    rw [mkS_eq n (fun i hi => h i (by omega)), h n (by omega)]
theorem ocF_inj {a b : Int} (ha : 1 ≤ a ∧ a ≤ 37) (hb : 1 ≤ b ∧ b ≤ 37) (h : ocF a = ocF b) : a = b := by
  unfold ocF at h
  omega
theorem VM_inj {m m' n n' : Int} {f f' : Int → Int} (h : VM m n f) (h' : VM m' n' f') : m = m' ↔ n = n' ∧ ∀ i, 0 ≤ i → i < n → f i = f' i := by
  obtain ⟨a1, a2, a3, a4⟩ := h
  obtain ⟨b1, b2, b3, b4⟩ := h'
  constructor
  · intro e
    subst e
    have en : n = n' := a1.symm.trans b1
    subst en
    exact ⟨rfl, fun i i0 i1 => (a3 i i0 i1).2.2.trans (b3 i i0 i1).2.2.symm⟩
  · rintro ⟨e, g⟩
    subst e
    rw [a4, b4, mkS_eq n.toNat (fun i hi => ?_)]
    have x := a3 i (by omega) (by omega)
    have y := b3 i (by omega) (by omega)
    have z := g i (by omega) (by omega)
    exact ocF_inj ⟨x.1, x.2.1⟩ ⟨y.1, y.2.1⟩ (by rw [← x.2.2, ← y.2.2, z])
def BRr (c : Int) (H : PH) (A : Int → Int) (x : Int) : Prop := VM (H c 0) (A x) (fun i => A (x + 1 + i)) ∧ A (x + 9) = H c 1 ∧ A (x + 10) = H c 2 ∧ A (x + 11) = H c 3 ∧ A (x + 12) = H c 4 ∧ A (x + 13) = H c 5 ∧ ∀ i, 0 ≤ i → i < H c 5 → A (x + 14 + 2 * i) = H (c + 1) i ∧ A (x + 14 + 2 * i + 1) = H (c + 2) i
def LNr (q : Int) (H : PH) (A : Int → Int) (x : Int) : Prop := A x = H q 0 ∧ A (x + 1) = H q 1 ∧ A (x + 2) = H q 2 ∧ VM (H q 3) (A (x + 3)) (fun i => A (x + 4 + i))
def LWr (w : Int) (H : PH) (A : Int → Int) : Prop := KW w ∧ A 10 = H w 3 ∧ A 11 = H w 2 ∧ ∀ k, 0 ≤ k → k < H w 2 → VC (H (w + 1) k) ∧ A (12 + k) = enC (H (w + 1) k)
def CR (H : PH) (A : Int → Int) : Prop := (A 0 = H 1 2 ∧ A 1 = H 2 3 ∧ A 2 = H 1 4 ∧ A 3 = H 1 7 ∧ A 4 = H 1 8 ∧ A 5 = H 1 9 ∧ A 6 = H 1 11 ∧ A 7 = H 1 12 ∧ A 8 = H 1 10 ∧ A 9 = H 1 13) ∧ (∀ b, 0 ≤ b → b < A 0 → BRr (57 + 3 * b) H A (92 + 26 * b)) ∧ (∀ k, 0 ≤ k → k < A 2 → LNr (H 47 k) H A (404 + 12 * k)) ∧ (∀ a b, 1 ≤ a → a ≤ 37 → 1 ≤ b → b ≤ 37 → H (4 + a) b = chA A (ocF a) (ocF b)) ∧ LWr (H 1 5) H A
/-- the cells of lines, each another -/
def LDi (H : PH) : Prop := (∀ k, 0 ≤ k → k < 60 → KL (H 47 k)) ∧ ∀ k l, 0 ≤ k → k < 60 → 0 ≤ l → l < 60 → H 47 k = H 47 l → k = l
/-- what was measured holds -/
def GCr (H : PH) (A : Int → Int) : Prop := ∀ k, 0 ≤ k → k < A 2 → (0 ≤ H (H 47 k) 4 ∧ H (H 47 k) 4 ≤ A 0) ∧ ∀ b, 0 ≤ b → b < H (H 47 k) 4 → b < A 0 → H (H 47 k + 1) b = lapA A k b
theorem KL_b : (List.range 622).all (fun c => !Nat.beq (zSh c).1 5 || (Nat.ble 93 c && Nat.blt c 590 && Nat.beq (zSh (c + 1)).1 16 && !(Nat.ble 204 c && Nat.ble c 300 && Nat.ble 213 c))) = true := by decide +kernel
theorem KL_in {q : Int} (h : KL q) : 93 ≤ q ∧ q < 590 ∧ ¬ KL (q + 1) ∧ ¬ (213 ≤ q ∧ q ≤ 300) ∧ ¬ q + 1 = 213 := by
  obtain ⟨h0, h1, h2⟩ := h
  have g := List.all_eq_true.mp KL_b q.toNat (List.mem_range.mpr (by omega))
  rw [h2] at g
  simp only [Nat.beq_refl, Bool.not_true, Bool.false_or, Bool.and_eq_true, Nat.blt_eq] at g
  obtain ⟨⟨⟨g1, g2⟩, g3⟩, g4⟩ := g
  have g1 := Nat.le_of_ble_eq_true g1
  have g3 := Nat.eq_of_beq_eq_true g3
  have g5 : ¬ (213 ≤ q ∧ q ≤ 300) := by
    intro w
    have e1 : Nat.ble 204 q.toNat = true := Nat.ble_eq_true_of_le (by omega)
    have e2 : Nat.ble q.toNat 300 = true := Nat.ble_eq_true_of_le (by omega)
    have e3 : Nat.ble 213 q.toNat = true := Nat.ble_eq_true_of_le (by omega)
    rw [e1, e2, e3] at g4
    cases g4
  refine ⟨by omega, by omega, fun w => ?_, g5, ?_⟩
  · obtain ⟨w0, w1, w2⟩ := w
    rw [show (q + 1).toNat = q.toNat + 1 by omega] at w2
    omega
  · intro e
    have : q = 212 := by omega
    subst this
    have : (zSh (212 : Int).toNat).1 = 16 := by decide +kernel
    omega
theorem apC_A {H : PH} {A : Int → Int} {s k n m : Int} {f g : Int → Int} (hM : ∀ a b, 1 ≤ a → a ≤ 37 → 1 ≤ b → b ≤ 37 → H (4 + a) b = chA A (ocF a) (ocF b)) (hs : VM s n f) (hk : VM k m g) : apC H s k = apF (fun i j => chA A (f i) (g j)) n m := by
  unfold apC
  rw [hs.1, hk.1]
  refine apF_eq (by have := hk.2.1; omega) (fun y x y0 y1 x0 x1 => ?_)
  obtain ⟨a1, a2, a3⟩ := hs.2.2.1 y y0 y1
  obtain ⟨b1, b2, b3⟩ := hk.2.2.1 x x0 x1
  rw [hM _ _ a1 a2 b1 b2, a3, b3]
/-- what gapsOf leaves as it is -/
def GFr (q : Int) (H H' : PH) : Prop := (∀ c, ¬ c = 44 → ¬ c = 45 → ¬ c = q → ¬ c = q + 1 → H' c = H c) ∧ ∀ i, ¬ i = 4 → H' q i = H q i
theorem lp_gapsOf (k q : Int) (A : Int → Int) (H0 : PH) (hB : MB A) (hk : 0 ≤ k ∧ k < A 2) (hq : H0 47 k = q) (hC : CR H0 A) (hD : KL q) {E : xE} {res : xR} : ∀ (n : Nat) (b : Int) (H : PH), 0 ≤ b → GFr q H0 H → (∀ x, 0 ≤ x → x < b → x < A 0 → H (q + 1) x = lapA A k x) → RUN E res n kd_X1_gapsOf (zget kd_X1_gapsOf 12) 12 [1, k, q, b] [] H → ∃ H' : PH, GFr q H0 H' ∧ H' q 4 = A 0 ∧ (∀ x, 0 ≤ x → x < A 0 → H' (q + 1) x = lapA A k x) ∧ REPR E res (some (2, q + 1)) H' := by
  obtain ⟨f5, f0, f1, f2, f3, f4, f6⟩ := KL_f hD
  obtain ⟨l0, l1, l2, l3, l4⟩ := KL_in hD
  obtain ⟨⟨a0, a1, a2, a3⟩, c2, c3, c4, c5⟩ := id hC
  have hB0 := hB.1
  intro n
  induction n using Nat.strongRecOn with
  | _ n ih =>
    intro b H hb0 hF hR h
    have e1 : H 1 = H0 1 := hF.1 1 (by decide) (by decide) (by omega) (by omega)
    by_cases w : A 0 ≤ b
    · have h := xw_top (hd := [12]) 5 xD6_ok xc_X1_gapsOf xa_X1_gapsOf (t := 12) rfl h
      simp (maxDischargeDepth := 12) -implicitDefEqProofs [vb_X1_gapsOf_0, vb_X1_gapsOf_12, vb_X1_gapsOf_52, xI_0, xI_1, xI_3, xI_4, xI_6, xI_36, xI_46, xI_49, xI_50, xI_52, xI_53, xI_61, xI_63, xw_X1_gapsOf_0, xw_X1_gapsOf_12, xw_X1_gapsOf_52, zw_lit, xB_c, xB_s, xB_n, i1_c, j2_c, k1_c, jJ_e, xlg, xls, xla, xpd, ppush, zw_m1, zw_m2, zw_m3, gf_0_0, gf_1_0, gf_1_1, gf_1_2, gf_1_3, gf_5_3, gf_5_4, gf_5_5, pf_5_4, tg_0_0, tg_1_0, tg_1_1, tg_1_2, tg_1_3, tg_5_3, tg_5_4, tg_5_5, gv_1_0, gv_1_1, gv_1_2, gv_1_3, xD1, xD2, xD3, xD4, xD5, xD6, xb1_0, e1, f5, ← a0] at h
      have h := (h.resolve_right (by omega)).2
      refine ⟨_, ⟨fun c x1 x2 x3 x4 => ?_, fun i hi => ?_⟩, ?_, fun x x0 x1 => ?_, h⟩
      · rw [xp_ne x3]; exact hF.1 c x1 x2 x3 x4
      · rw [xp_at, if_neg hi]; exact hF.2 i hi
      · rw [xp_at, if_pos rfl]
      · rw [xp_ne (by omega)]; exact hR x x0 (by omega) x1
    · have z1 : zw (b + 1) = b + 1 := zw_lit (by omega) (by omega)
      have g46 : gv H 46 b = 57 + 3 * b := gv46 hb0 (by omega)
      have kb := KB_of (b := b) hb0 (by omega)
      obtain ⟨m6, m7, m0, m1, m2, m3, m4, m5, m8⟩ := KB_f kb
      have eb : H (57 + 3 * b) = H0 (57 + 3 * b) := hF.1 _ (by omega) (by omega) (by omega) (by omega)
      have e3 : H q 3 = H0 q 3 := hF.2 3 (by decide)
      have hbill := c2 b hb0 (by omega)
      have hline := c3 k hk.1 hk.2
      rw [hq] at hline
      have vs := hline.2.2.2
      have vk := hbill.1
      have h := xw_top (hd := [12]) 5 xD6_ok xc_X1_gapsOf xa_X1_gapsOf (t := 12) rfl h
      simp (maxDischargeDepth := 12) -implicitDefEqProofs [vb_X1_gapsOf_0, vb_X1_gapsOf_12, vb_X1_gapsOf_52, xI_0, xI_1, xI_3, xI_4, xI_6, xI_36, xI_46, xI_49, xI_50, xI_52, xI_53, xI_61, xI_63, xw_X1_gapsOf_0, xw_X1_gapsOf_12, xw_X1_gapsOf_52, zw_lit, xB_c, xB_s, xB_n, i1_c, j2_c, k1_c, jJ_e, xlg, xls, xla, xpd, ppush, zw_m1, zw_m2, zw_m3, gf_0_0, gf_1_0, gf_1_1, gf_1_2, gf_1_3, gf_5_3, gf_5_4, gf_5_5, pf_5_4, tg_0_0, tg_1_0, tg_1_1, tg_1_2, tg_1_3, tg_5_3, tg_5_4, tg_5_5, gv_1_0, gv_1_1, gv_1_2, gv_1_3, xD1, xD2, xD3, xD4, xD5, xD6, xb1_0, e1, f5, f3, ← a0, g46, m0, eb, e3, z1] at h
      have h := (h.resolve_left (by omega)).2
      obtain ⟨r, H2, ⟨rfl, hf⟩, h⟩ := xc_use h (sp_X8_gap (H0 q 3) (H0 (57 + 3 * b) 0) H (by have := vs.1; have := vs.2.1; omega) (by have := vk.1; have := vk.2.1; omega) (fun i i0 i1 => by have := vs.2.2.1 i i0 (by have := vs.1; omega); omega))
      have ea : apC H (H0 q 3) (H0 (57 + 3 * b) 0) = lapA A k b := by
        unfold lapA apB apA
        refine apC_A (fun x y x0 x1 y0 y1 => ?_) vs vk
        rw [← c4 x y x0 x1 y0 y1]
        by_cases c : 4 + x = 44
        · omega
        · by_cases d : 4 + x = 45
          · omega
          · rw [hF.1 _ c d (by omega) (by omega)]
      rw [ea] at h
      simp (maxDischargeDepth := 12) -implicitDefEqProofs [vb_X1_gapsOf_0, vb_X1_gapsOf_12, vb_X1_gapsOf_52, xI_0, xI_1, xI_3, xI_4, xI_6, xI_36, xI_46, xI_49, xI_50, xI_52, xI_53, xI_61, xI_63, xw_X1_gapsOf_0, xw_X1_gapsOf_12, xw_X1_gapsOf_52, zw_lit, xB_c, xB_s, xB_n, i1_c, j2_c, k1_c, jJ_e, xlg, xls, xla, xpd, ppush, zw_m1, zw_m2, zw_m3, gf_0_0, gf_1_0, gf_1_1, gf_1_2, gf_1_3, gf_5_3, gf_5_4, gf_5_5, pf_5_4, tg_0_0, tg_1_0, tg_1_1, tg_1_2, tg_1_3, tg_5_3, tg_5_4, tg_5_5, gv_1_0, gv_1_1, gv_1_2, gv_1_3, xD1, xD2, xD3, xD4, xD5, xD6, xb1_0, z1] at h
      obtain ⟨m, hm, h⟩ := h
      exact ih m hm (b + 1) _ (by omega) ⟨fun c x1 x2 x3 x4 => by rw [xp_ne x4, hf c x1 x2]; exact hF.1 c x1 x2 x3 x4, fun i hi => by rw [xp_ne (by omega), hf q (by omega) (by omega)]; exact hF.2 i hi⟩ (fun x x0 x1 x2 => by
        rw [xp_at, hf (q + 1) (by omega) (by omega)]
        split
        · rename_i e
          rw [e]
        · exact hR x x0 (by omega) x2) h
theorem sp_X1_gapsOf (k : Int) (A : Int → Int) (H : PH) (hB : MB A) (hk : 0 ≤ k ∧ k < A 2) (hC : CR H A) (hD : KL (H 47 k)) (hG : GCr H A) : SPEC 15 [(2, 1), (0, k)] H (fun r H' => r = some (2, H 47 k + 1) ∧ GFr (H 47 k) H H' ∧ H' (H 47 k) 4 = A 0 ∧ ∀ x, 0 ≤ x → x < A 0 → H' (H 47 k + 1) x = lapA A k x) := by
  intro E n res h
  obtain ⟨f5, f0, f1, f2, f3, f4, f6⟩ := KL_f hD
  have h := call_runP 4 xv_X1_gapsOf h
  have h := xw_top (hd := [12]) 5 xD6_ok xc_X1_gapsOf xa_X1_gapsOf (t := 0) rfl h
  simp (maxDischargeDepth := 12) -implicitDefEqProofs [vb_X1_gapsOf_0, vb_X1_gapsOf_12, vb_X1_gapsOf_52, xI_0, xI_1, xI_3, xI_4, xI_6, xI_36, xI_46, xI_49, xI_50, xI_52, xI_53, xI_61, xI_63, xw_X1_gapsOf_0, xw_X1_gapsOf_12, xw_X1_gapsOf_52, zw_lit, xB_c, xB_s, xB_n, i1_c, j2_c, k1_c, jJ_e, xlg, xls, xla, xpd, ppush, zw_m1, zw_m2, zw_m3, gf_0_0, gf_1_0, gf_1_1, gf_1_2, gf_1_3, gf_5_3, gf_5_4, gf_5_5, pf_5_4, tg_0_0, tg_1_0, tg_1_1, tg_1_2, tg_1_3, tg_5_3, tg_5_4, tg_5_5, gv_1_0, gv_1_1, gv_1_2, gv_1_3, xD1, xD2, xD3, xD4, xD5, xD6, xb1_0, gv47, f4] at h
  obtain ⟨m, hm, h⟩ := h
  obtain ⟨g1, g2⟩ := hG k hk.1 hk.2
  obtain ⟨H', k1, k2, k3, k4⟩ := lp_gapsOf k (H 47 k) A H hB hk rfl hC hD m _ H g1.1 ⟨fun _ _ _ _ _ => rfl, fun _ _ => rfl⟩ (fun x x0 x1 x2 => g2 x x0 x1 x2) h
  exact ⟨_, H', k4, rfl, k1, k2, k3⟩
