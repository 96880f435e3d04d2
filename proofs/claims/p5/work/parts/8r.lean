theorem gf_9_0 : gfOK 9 0 = true := by decide +kernel
theorem gf_9_3 : gfOK 9 3 = true := by decide +kernel
theorem gf_9_4 : gfOK 9 4 = true := by decide +kernel
theorem pf_9_4 : pfOK 9 4 = true := by decide +kernel
def xm_X9_heapOf : List xbT := [(0, vb_X9_heapOf_0, some 16), (16, vb_X9_heapOf_16, some 51), (51, vb_X9_heapOf_51, some 57), (57, vb_X9_heapOf_57, none)]
theorem xc_X9_heapOf : xOK kd_X9_heapOf xm_X9_heapOf := ⟨ve_X9_heapOf_0, ve_X9_heapOf_16, ve_X9_heapOf_51, ve_X9_heapOf_57, trivial⟩
theorem xa_X9_heapOf : xm_X9_heapOf.all (fun q => aOKb q.2.1 && !q.2.1.isEmpty) = true := by decide +kernel
theorem xw_X9_heapOf_0 {E : xE} {res : xR} {N : Nat} {hd : List Nat} {C : xCT} {k : Nat} {L : List Int} {st : List pv} {H : PH} : xW E res N kd_X9_heapOf xm_X9_heapOf hd C (k + 1) 0 L st H = xB (fun t L st H => if t ∈ hd then xJ E res N kd_X9_heapOf t L st H else xW E res N kd_X9_heapOf xm_X9_heapOf hd C k t L st H) (REPR E res) C (some 16) vb_X9_heapOf_0 0 L st H := Eq.trans rfl rfl
theorem xw_X9_heapOf_16 {E : xE} {res : xR} {N : Nat} {hd : List Nat} {C : xCT} {k : Nat} {L : List Int} {st : List pv} {H : PH} : xW E res N kd_X9_heapOf xm_X9_heapOf hd C (k + 1) 16 L st H = xB (fun t L st H => if t ∈ hd then xJ E res N kd_X9_heapOf t L st H else xW E res N kd_X9_heapOf xm_X9_heapOf hd C k t L st H) (REPR E res) C (some 51) vb_X9_heapOf_16 16 L st H := Eq.trans rfl rfl
theorem xw_X9_heapOf_51 {E : xE} {res : xR} {N : Nat} {hd : List Nat} {C : xCT} {k : Nat} {L : List Int} {st : List pv} {H : PH} : xW E res N kd_X9_heapOf xm_X9_heapOf hd C (k + 1) 51 L st H = xB (fun t L st H => if t ∈ hd then xJ E res N kd_X9_heapOf t L st H else xW E res N kd_X9_heapOf xm_X9_heapOf hd C k t L st H) (REPR E res) C (some 57) vb_X9_heapOf_51 51 L st H := Eq.trans rfl rfl
theorem xw_X9_heapOf_57 {E : xE} {res : xR} {N : Nat} {hd : List Nat} {C : xCT} {k : Nat} {L : List Int} {st : List pv} {H : PH} : xW E res N kd_X9_heapOf xm_X9_heapOf hd C (k + 1) 57 L st H = xB (fun t L st H => if t ∈ hd then xJ E res N kd_X9_heapOf t L st H else xW E res N kd_X9_heapOf xm_X9_heapOf hd C k t L st H) (REPR E res) C (none) vb_X9_heapOf_57 57 L st H := Eq.trans rfl rfl
theorem qlcmp_0 {x y : Int} (hx : 0 ≤ x ∧ x < 9223372036854775808) (hy : 0 ≤ y ∧ y < 9223372036854775808) : qlcmp x y = 0 ↔ x = y := by
  constructor
  · intro h
    unfold qlcmp lg_cmp at h
    split at h
    · cases h
    · split at h
      · rename_i e
        have e2 : (zI6 x.toNat).toBitVec.toNat = (zI6 y.toNat).toBitVec.toNat := by rw [e]
        have e3 : (BitVec.ofNat 64 x.toNat).toNat = (BitVec.ofNat 64 y.toNat).toNat := e2
        rw [BitVec.toNat_ofNat, BitVec.toNat_ofNat] at e3
        omega
      · cases h
  · intro h
    subst h
    unfold qlcmp lg_cmp
    rw [if_neg (by simp), if_pos rfl]
    rfl
theorem mkS_lt (g : Int → Int) : ∀ n : Nat, (∀ i : Nat, i < n → 0 ≤ g i ∧ g i ≤ 63) → 0 ≤ mkS g n ∧ mkS g n < 64 ^ n
  | 0, _ => ⟨Int.le_refl _, by show (0 : Int) < 1; omega⟩
  | n + 1, h => by
    obtain ⟨a, b⟩ := mkS_lt g n (fun i hi => h i (by omega))
    obtain ⟨c, d⟩ := h n (by omega)
    have p : (0 : Int) < 64 ^ n := Int.pow_pos (by omega)
    unfold mkS
    rw [Int.pow_succ]
    have e1 : 0 ≤ g n * 64 ^ n := Int.mul_nonneg c (by omega)
    have e2 : g n * 64 ^ n ≤ 63 * 64 ^ n := Int.mul_le_mul_of_nonneg_right d (by omega)
    omega
theorem VM_rng {m n : Int} {f : Int → Int} (h : VM m n f) : 0 ≤ m ∧ m < 9223372036854775808 := by
  obtain ⟨a1, a2, a3, a4⟩ := h
  obtain ⟨b0, b1⟩ := mkS_lt (sgf m) n.toNat (fun i hi => by have := a3 i (by omega) (by omega); omega)
  have p : (64 : Int) ^ n.toNat ≤ 64 ^ 8 := by
    have hn : n.toNat ≤ 8 := by omega
    exact_mod_cast Nat.pow_le_pow_right (by omega) hn
  have e : (64 : Int) ^ 8 = 281474976710656 := by decide
  omega
/-! the reading, as the class finds it -/
abbrev rS : Type := Int × Int
def rbS (f : Int → Int) (b : Int) (s : rS) : rS := (if f b < s.2 then b else if f b = s.2 ∧ ¬ s.1 = -3 then -2 else s.1, if f b < s.2 then f b else s.2)
def rbF (f : Int → Int) : Nat → Int → rS → rS
  | 0, _, s => s
  | n + 1, b, s => rbF f n (b + 1) (rbS f b s)
def rbI (most : Int) (t : nS) (s : rS) : Prop := (t.1 = 0 ∧ s.1 = -3 ∧ s.2 = most + 1) ∨ (0 < t.1 ∧ most < t.2.2 ∧ s.1 = -3 ∧ s.2 = most + 1) ∨ (t.1 = 1 ∧ t.2.2 ≤ most ∧ s.1 = t.2.1 ∧ s.2 = t.2.2 ∧ 0 ≤ t.2.1) ∨ (1 < t.1 ∧ t.2.2 ≤ most ∧ s.1 = -2 ∧ s.2 = t.2.2)
theorem rbI_s {most : Int} {f : Int → Int} {b : Int} {t : nS} {s : rS} (hb : 0 ≤ b) (h : rbI most t s) : rbI most (nrS f b t) (rbS f b s) := by
  unfold rbI at h ⊢
  unfold nrS rbS
  dsimp only
  omega
theorem rbF_n {most : Int} {f : Int → Int} : ∀ (n : Nat) (b : Int) (t : nS) (s : rS), 0 ≤ b → rbI most t s → rbI most (nrF f n b t) (rbF f n b s)
  | 0, _, _, _, _, h => h
  | n + 1, b, t, s, hb, h => by
    unfold nrF rbF
    exact rbF_n n (b + 1) _ _ (by omega) (rbI_s hb h)
theorem rbF_eq {f f' : Int → Int} : ∀ (n : Nat) (b : Int) (s : rS), (∀ x, b ≤ x → x < b + n → f x = f' x) → rbF f n b s = rbF f' n b s
  | 0, _, _, _ => rfl
  | n + 1, b, s, h => by
    unfold rbF
    rw [show rbS f b s = rbS f' b s by unfold rbS; rw [h b (by omega) (by omega)]]
    exact rbF_eq n (b + 1) _ (fun x a c => h x (by omega) (by omega))
/-- a reading by a limit -/
def rdM (f : Int → Int) (n most : Int) : Int := (rbF f n.toNat 0 (-3, most + 1)).1
theorem rdM_A {A : Int → Int} (l s : Int) : rdM (apB A l s) (A 0) (A 3) = rdA A l s := by
  have h := rbF_n (most := A 3) (f := apB A l s) (A 0).toNat 0 (0, 0, 0) (-3, A 3 + 1) (by omega) (Or.inl ⟨rfl, rfl, rfl⟩)
  unfold rdM rdA
  unfold rbI at h
  change _ ∨ _ at h
  unfold nrZ
  generalize nrF (apB A l s) (A 0).toNat 0 (0, 0, 0) = t at h ⊢
  generalize rbF (apB A l s) (A 0).toNat 0 (-3, A 3 + 1) = r at h ⊢
  omega
theorem lp_readBy (g most : Int) (H : PH) (hg : 0 ≤ g) (hN : 0 ≤ H 1 2 ∧ H 1 2 ≤ 12) {E : xE} {res : xR} : ∀ (n : Nat) (b : Int) (s : rS), 0 ≤ b → b ≤ H 1 2 → RUN E res n kd_X1_readBy (zget kd_X1_readBy 11) 11 [1, g, most, s.1, s.2, b] [] H → REPR E res (some (0, (rbF (H g) (H 1 2 - b).toNat b s).1)) H := by
  intro n
  induction n using Nat.strongRecOn with
  | _ n ih =>
    intro b s hb0 hb1 h
    have z1 : zw (b + 1) = b + 1 := zw_lit (by omega) (by omega)
    by_cases q : H 1 2 ≤ b
    · have h := xw_top (hd := [11]) 7 xD6_ok xc_X1_readBy xa_X1_readBy (t := 11) rfl h
      simp (maxDischargeDepth := 12) -implicitDefEqProofs [vb_X1_readBy_0, vb_X1_readBy_11, vb_X1_readBy_41, vb_X1_readBy_59, vb_X1_readBy_65, xI_0, xI_1, xI_3, xI_6, xI_7, xI_8, xI_14, xI_36, xI_43, xI_44, xI_46, xI_49, xI_51, xI_62, xw_X1_readBy_0, xw_X1_readBy_11, xw_X1_readBy_41, xw_X1_readBy_59, xw_X1_readBy_65, zw_lit, xB_c, xB_s, xB_n, i1_c, j2_c, k1_c, jJ_e, xlg, xls, xla, xpd, ppush, zw_m1, zw_m2, zw_m3, gf_1_2, tg_1_2, gv_1_2, xD1, xD2, xD3, xD4, xD5, xD6, xb1_0, hg, z1] at h
      have h := (h.resolve_right (by omega)).2
      rw [show (H 1 2 - b).toNat = 0 by omega]
      exact h
    · rw [show (H 1 2 - b).toNat = (H 1 2 - (b + 1)).toNat + 1 by omega]
      unfold rbF
      have nxt : ∀ x y : Int, x = (rbS (H g) b s).1 → y = (rbS (H g) b s).2 → xJ E res n kd_X1_readBy 11 [1, g, most, x, y, b + 1] [] H → REPR E res (some (0, (rbF (H g) (H 1 2 - (b + 1)).toNat (b + 1) (rbS (H g) b s)).1)) H := by
        rintro x y hx hy ⟨m, hm, w⟩
        rw [hx, hy] at w
        exact ih m hm (b + 1) _ (by omega) (by omega) w
      have h := xw_top (hd := [11]) 7 xD6_ok xc_X1_readBy xa_X1_readBy (t := 11) rfl h
      simp (maxDischargeDepth := 12) -implicitDefEqProofs [vb_X1_readBy_0, vb_X1_readBy_11, vb_X1_readBy_41, vb_X1_readBy_59, vb_X1_readBy_65, xI_0, xI_1, xI_3, xI_6, xI_7, xI_8, xI_14, xI_36, xI_43, xI_44, xI_46, xI_49, xI_51, xI_62, xw_X1_readBy_0, xw_X1_readBy_11, xw_X1_readBy_41, xw_X1_readBy_59, xw_X1_readBy_65, zw_lit, xB_c, xB_s, xB_n, i1_c, j2_c, k1_c, jJ_e, xlg, xls, xla, xpd, ppush, zw_m1, zw_m2, zw_m3, gf_1_2, tg_1_2, gv_1_2, xD1, xD2, xD3, xD4, xD5, xD6, xb1_0, hg, z1] at h
      repeat' (first | (refine Or.elim h ?_ ?_ <;> clear h <;> intro h) | (refine And.elim ?_ h; clear h; intro _ h))
      all_goals first
        | (exfalso; omega)
        | (refine nxt _ _ ?_ ?_ h <;> (unfold rbS; dsimp only; omega))
theorem sp_X1_readBy (g most : Int) (H : PH) (hg : 0 ≤ g) (hN : 0 ≤ H 1 2 ∧ H 1 2 ≤ 12) (hm : 0 ≤ most ∧ most ≤ 1000) : SPEC 16 [(2, 1), (2, g), (0, most)] H (fun r H' => r = some (0, rdM (H g) (H 1 2) most) ∧ H' = H) := by
  intro E n res h
  have z1 : zw (most + 1) = most + 1 := zw_lit (by omega) (by omega)
  have h := call_runP 6 vm_X1_readBy h
  have h := xw_top (hd := [11]) 7 xD6_ok xc_X1_readBy xa_X1_readBy (t := 0) rfl h
  simp (maxDischargeDepth := 12) -implicitDefEqProofs [vb_X1_readBy_0, vb_X1_readBy_11, vb_X1_readBy_41, vb_X1_readBy_59, vb_X1_readBy_65, xI_0, xI_1, xI_3, xI_6, xI_7, xI_8, xI_14, xI_36, xI_43, xI_44, xI_46, xI_49, xI_51, xI_62, xw_X1_readBy_0, xw_X1_readBy_11, xw_X1_readBy_41, xw_X1_readBy_59, xw_X1_readBy_65, zw_lit, xB_c, xB_s, xB_n, i1_c, j2_c, k1_c, jJ_e, xlg, xls, xla, xpd, ppush, zw_m1, zw_m2, zw_m3, gf_1_2, tg_1_2, gv_1_2, xD1, xD2, xD3, xD4, xD5, xD6, xb1_0, z1] at h
  obtain ⟨m, hm', h⟩ := h
  have h := lp_readBy g most H hg hN m 0 (-3, most + 1) (by omega) (by omega) h
  rw [Int.sub_zero] at h
  exact ⟨_, H, h, rfl, rfl⟩
theorem lp_heapOf (k : Int) (A : Int → Int) (H : PH) (hB : MB A) (hk : 0 ≤ k ∧ k < A 2) (hC : CR H A) (hD : LDi H) (t : tS) (ht : 0 ≤ t.1 ∧ t.1 ≤ 60) (hf : ∀ h, 0 ≤ h → h < t.1 → 0 ≤ t.2.1 h ∧ t.2.1 h < A 2) (hc : H 215 4 = t.1) (hF : ∀ h, 0 ≤ h → h < t.1 → H 217 h = t.2.1 h) {E : xE} {res : xR} : ∀ (n : Nat) (i : Int), 0 ≤ i → i ≤ t.1 → RUN E res n kd_X9_heapOf (zget kd_X9_heapOf 16) 16 [215, k, H (H 47 k) 3, 0, i] [] H → REPR E res (some (0, fdR (fun h => smL A k (t.2.1 h)) (t.1 - i).toNat i t.1)) (if fdR (fun h => smL A k (t.2.1 h)) (t.1 - i).toNat i t.1 = t.1 then pup (pup H 217 t.1 k) 215 4 (t.1 + 1) else H) := by
  have hA2 := hB.2.2.1
  intro n
  induction n using Nat.strongRecOn with
  | _ n ih =>
    intro i hi0 hi1 h
    have z1 : zw (i + 1) = i + 1 := zw_lit (by omega) (by omega)
    have z2 : zw (t.1 + 1) = t.1 + 1 := zw_lit (by omega) (by omega)
    have z5 : zw t.1 = t.1 := zw_lit (by omega) (by omega)
    by_cases q : t.1 ≤ i
    · have h := xw_top (hd := [16]) 6 xD6_ok xc_X9_heapOf xa_X9_heapOf (t := 16) rfl h
      simp (maxDischargeDepth := 12) -implicitDefEqProofs [vb_X9_heapOf_0, vb_X9_heapOf_16, vb_X9_heapOf_51, vb_X9_heapOf_57, xI_0, xI_1, xI_2, xI_3, xI_5, xI_6, xI_7, xI_14, xI_15, xI_32, xI_33, xI_36, xI_38, xI_46, xI_49, xI_50, xI_51, xI_52, xI_53, xI_62, xw_X9_heapOf_0, xw_X9_heapOf_16, xw_X9_heapOf_51, xw_X9_heapOf_57, zw_lit, xB_c, xB_s, xB_n, i1_c, j2_c, k1_c, jJ_e, xlg, xls, xla, xpd, ppush, zw_m1, zw_m2, zw_m3, gf_1_3, gf_5_3, gf_9_0, gf_9_3, gf_9_4, pf_9_4, tg_1_3, tg_5_3, tg_9_0, tg_9_3, tg_9_4, gv_1_3, gv_215_0, gv_215_3, gv_215_4, xD1, xD2, xD3, xD4, xD5, xD6, xb1_0, hc, z1, z2, z5, xp_ne, xp_at] at h
      have h := (h.resolve_right (by omega)).2
      rw [show (t.1 - i).toNat = 0 by omega]
      show REPR E res (some (0, t.1)) (if t.1 = t.1 then _ else _)
      rw [if_pos rfl]
      exact h
    · obtain ⟨l0, l1⟩ := hf i hi0 (by omega)
      have e1 : H 217 i = t.2.1 i := hF i hi0 (by omega)
      have kq := hD.1 (t.2.1 i) l0 (by omega)
      obtain ⟨f5, f0, f1, f2, f3, f4, f6⟩ := KL_f kq
      have v1 := (hC.2.2.1 (t.2.1 i) l0 l1).2.2.2
      have v2 := (hC.2.2.1 k hk.1 hk.2).2.2.2
      have hs : qlcmp (H (H 47 (t.2.1 i)) 3) (H (H 47 k) 3) = 0 ↔ smL A k (t.2.1 i) = true := by
        rw [qlcmp_0 (VM_rng v1) (VM_rng v2), smL_iff (hB.2.2.2.2.2.1 k hk.1 (by omega)).1, VM_inj v1 v2]
        unfold smA
        constructor
        · rintro ⟨a, b⟩
          exact ⟨a.symm, fun j j0 j1 => (b j j0 (by omega)).symm⟩
        · rintro ⟨a, b⟩
          exact ⟨a.symm, fun j j0 j1 => (b j j0 (by omega)).symm⟩
      rw [show (t.1 - i).toNat = (t.1 - (i + 1)).toNat + 1 by omega]
      unfold fdR
      have h := xw_top (hd := [16]) 6 xD6_ok xc_X9_heapOf xa_X9_heapOf (t := 16) rfl h
      simp (maxDischargeDepth := 12) -implicitDefEqProofs [vb_X9_heapOf_0, vb_X9_heapOf_16, vb_X9_heapOf_51, vb_X9_heapOf_57, xI_0, xI_1, xI_2, xI_3, xI_5, xI_6, xI_7, xI_14, xI_15, xI_32, xI_33, xI_36, xI_38, xI_46, xI_49, xI_50, xI_51, xI_52, xI_53, xI_62, xw_X9_heapOf_0, xw_X9_heapOf_16, xw_X9_heapOf_51, xw_X9_heapOf_57, zw_lit, xB_c, xB_s, xB_n, i1_c, j2_c, k1_c, jJ_e, xlg, xls, xla, xpd, ppush, zw_m1, zw_m2, zw_m3, gf_1_3, gf_5_3, gf_9_0, gf_9_3, gf_9_4, pf_9_4, tg_1_3, tg_5_3, tg_9_0, tg_9_3, tg_9_4, gv_1_3, gv_215_0, gv_215_3, gv_215_4, xD1, xD2, xD3, xD4, xD5, xD6, xb1_0, hc, e1, gv47, f3, z1, hs] at h
      have h := (h.resolve_left (by omega)).2
      rcases h with ⟨c, m, hm, h⟩ | ⟨c, h⟩
      · rw [if_neg (by rw [c]; decide)]
        exact ih m hm (i + 1) (by omega) (by omega) h
      · rw [if_pos c, if_neg (by omega)]
        exact h
theorem sp_X9_heapOf (k : Int) (A : Int → Int) (H : PH) (hB : MB A) (hk : 0 ≤ k ∧ k < A 2) (hC : CR H A) (hD : LDi H) (t : tS) (ht : 0 ≤ t.1 ∧ t.1 ≤ 60) (hf : ∀ h, 0 ≤ h → h < t.1 → 0 ≤ t.2.1 h ∧ t.2.1 h < A 2) (hc : H 215 4 = t.1) (hF : ∀ h, 0 ≤ h → h < t.1 → H 217 h = t.2.1 h) : SPEC 89 [(2, 215), (0, k)] H (fun r H' => r = some (0, hpI A k t) ∧ H' = if hpI A k t = t.1 then pup (pup H 217 t.1 k) 215 4 (t.1 + 1) else H) := by
  intro E n res h
  have hA2 := hB.2.2.1
  obtain ⟨f5, f0, f1, f2, f3, f4, f6⟩ := KL_f (hD.1 k hk.1 (by omega))
  have h := call_runP 5 vm_X9_heapOf h
  have h := xw_top (hd := [16]) 6 xD6_ok xc_X9_heapOf xa_X9_heapOf (t := 0) rfl h
  simp (maxDischargeDepth := 12) -implicitDefEqProofs [vb_X9_heapOf_0, vb_X9_heapOf_16, vb_X9_heapOf_51, vb_X9_heapOf_57, xI_0, xI_1, xI_2, xI_3, xI_5, xI_6, xI_7, xI_14, xI_15, xI_32, xI_33, xI_36, xI_38, xI_46, xI_49, xI_50, xI_51, xI_52, xI_53, xI_62, xw_X9_heapOf_0, xw_X9_heapOf_16, xw_X9_heapOf_51, xw_X9_heapOf_57, zw_lit, xB_c, xB_s, xB_n, i1_c, j2_c, k1_c, jJ_e, xlg, xls, xla, xpd, ppush, zw_m1, zw_m2, zw_m3, gf_1_3, gf_5_3, gf_9_0, gf_9_3, gf_9_4, pf_9_4, tg_1_3, tg_5_3, tg_9_0, tg_9_3, tg_9_4, gv_1_3, gv_215_0, gv_215_3, gv_215_4, xD1, xD2, xD3, xD4, xD5, xD6, xb1_0, gv47, f3] at h
  obtain ⟨m, hm, h⟩ := h
  have h := lp_heapOf k A H hB hk hC hD t ht hf hc hF m 0 (by omega) (by omega) h
  rw [Int.sub_zero] at h
  exact ⟨_, _, h, rfl, rfl⟩
