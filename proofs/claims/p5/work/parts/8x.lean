theorem gf_6_7 : gfOK 6 7 = true := by decide +kernel
theorem gf_6_10 : gfOK 6 10 = true := by decide +kernel
theorem gf_6_11 : gfOK 6 11 = true := by decide +kernel
theorem pf_6_10 : pfOK 6 10 = true := by decide +kernel
theorem pf_6_11 : pfOK 6 11 = true := by decide +kernel
def xm_X6_moveFrom : List xbT := [(0, vb_X6_moveFrom_0, some 2), (2, vb_X6_moveFrom_2, some 110), (110, vb_X6_moveFrom_110, some 116), (116, vb_X6_moveFrom_116, none)]
theorem xc_X6_moveFrom : xOK kd_X6_moveFrom xm_X6_moveFrom := ⟨ve_X6_moveFrom_0, ve_X6_moveFrom_2, ve_X6_moveFrom_110, ve_X6_moveFrom_116, trivial⟩
theorem xa_X6_moveFrom : xm_X6_moveFrom.all (fun q => aOKb q.2.1 && !q.2.1.isEmpty) = true := by decide +kernel
theorem xw_X6_moveFrom_0 {E : xE} {res : xR} {N : Nat} {hd : List Nat} {C : xCT} {k : Nat} {L : List Int} {st : List pv} {H : PH} : xW E res N kd_X6_moveFrom xm_X6_moveFrom hd C (k + 1) 0 L st H = xB (fun t L st H => if t ∈ hd then xJ E res N kd_X6_moveFrom t L st H else xW E res N kd_X6_moveFrom xm_X6_moveFrom hd C k t L st H) (REPR E res) C (some 2) vb_X6_moveFrom_0 0 L st H := Eq.trans rfl rfl
theorem xw_X6_moveFrom_2 {E : xE} {res : xR} {N : Nat} {hd : List Nat} {C : xCT} {k : Nat} {L : List Int} {st : List pv} {H : PH} : xW E res N kd_X6_moveFrom xm_X6_moveFrom hd C (k + 1) 2 L st H = xB (fun t L st H => if t ∈ hd then xJ E res N kd_X6_moveFrom t L st H else xW E res N kd_X6_moveFrom xm_X6_moveFrom hd C k t L st H) (REPR E res) C (some 110) vb_X6_moveFrom_2 2 L st H := Eq.trans rfl rfl
theorem xw_X6_moveFrom_110 {E : xE} {res : xR} {N : Nat} {hd : List Nat} {C : xCT} {k : Nat} {L : List Int} {st : List pv} {H : PH} : xW E res N kd_X6_moveFrom xm_X6_moveFrom hd C (k + 1) 110 L st H = xB (fun t L st H => if t ∈ hd then xJ E res N kd_X6_moveFrom t L st H else xW E res N kd_X6_moveFrom xm_X6_moveFrom hd C k t L st H) (REPR E res) C (some 116) vb_X6_moveFrom_110 110 L st H := Eq.trans rfl rfl
theorem xw_X6_moveFrom_116 {E : xE} {res : xR} {N : Nat} {hd : List Nat} {C : xCT} {k : Nat} {L : List Int} {st : List pv} {H : PH} : xW E res N kd_X6_moveFrom xm_X6_moveFrom hd C (k + 1) 116 L st H = xB (fun t L st H => if t ∈ hd then xJ E res N kd_X6_moveFrom t L st H else xW E res N kd_X6_moveFrom xm_X6_moveFrom hd C k t L st H) (REPR E res) C (none) vb_X6_moveFrom_116 116 L st H := Eq.trans rfl rfl
/-! bales over, matched with bales short: the steps -/
theorem zw_rg (n : Int) : -2147483648 ≤ zw n ∧ zw n ≤ 2147483647 := by
  unfold zw
  omega
theorem xup_id (f : Int → Int) (i : Int) : xup f i (f i) = f := funext (fun j => by
  unfold xup
  split
  · rename_i e
    rw [e]
  · rfl)
theorem tlF_hi (A : Int → Int) : ∀ (n : Nat) (k : Int) (t : tS), (∀ x, t.2.2.1 x ≤ 2147483647) → ∀ x, (tlF A n k t).2.2.1 x ≤ 2147483647
  | 0, _, _, h => h
  | n + 1, k, t, h => by
    unfold tlF
    refine tlF_hi A n (k + 1) _ (fun x => ?_)
    show (if A (404 + 12 * k) = 0 then xup t.2.2.1 (tlI A k t) (zw (t.2.2.1 (tlI A k t) + A (404 + 12 * k + 2))) else t.2.2.1) x ≤ 2147483647
    split
    · unfold xup
      split
      · exact (zw_rg _).2
      · exact h x
    · exact h x
theorem agd_hi (A : Int → Int) (x : Int) : agdA A x ≤ 2147483647 := by
  unfold agdA agA
  split
  · have : (tlZ A).2.2.1 x ≤ 2147483647 := tlF_hi A _ 0 _ (fun _ => by show (0 : Int) ≤ 2147483647; omega) x
    omega
  · unfold agV
    omega
theorem off_hi (A : Int → Int) (x : Int) : offA A x ≤ 2147483647 := by
  unfold offA
  have h1 := zw_rg (agdA A x - dueA A x)
  have h2 := agd_hi A x
  split
  · split
    · omega
    · omega
  · split
    · exact h2
    · omega
theorem wnt_in (A : Int → Int) (b : Int) : 0 ≤ wntA A b ∧ wntA A b ≤ 2147483647 := by
  unfold wntA
  have h1 := zw_rg (dueA A b - agdA A b)
  split <;> omega
theorem farK_at {A : Int → Int} {s b : Int} (hb : 0 ≤ b ∧ b < 12) : farK A (12 * s + b) = farA A s b := by
  unfold farK
  rw [show (12 * s + b) / 12 = s by omega, show (12 * s + b) % 12 = b by omega]
theorem farA_lt {A : Int → Int} {s b d : Int} (hd : d ≤ 24) (h : farA A s b = d) : 0 < offA A s ∧ 0 < wntA A b ∧ apfA A s b = d := by
  unfold farA at h
  split at h
  · rename_i c
    exact ⟨c.1, c.2, h⟩
  · omega
theorem farK_lt {A : Int → Int} {k d : Int} (hd : d ≤ 24) (h : farK A k = d) : 0 < offA A (k / 12) ∧ 0 < wntA A (k % 12) ∧ apfA A (k / 12) (k % 12) = d := farA_lt hd h
/-- what holds between two steps -/
def MI (A : Int → Int) (d k : Int) (s : mS) : Prop := (∀ x, 0 < offA A x → 0 ≤ s.1 x ∧ s.1 x ≤ 2147483647) ∧ (∀ x, ¬ 0 < offA A x → s.1 x = offA A x) ∧ (∀ b, 0 ≤ s.2.1 b ∧ s.2.1 b ≤ wntA A b) ∧ (-2147483648 ≤ s.2.2.2.1 ∧ s.2.2.2.1 ≤ 2147483647) ∧ (-2147483648 ≤ s.2.2.2.2 ∧ s.2.2.2.2 ≤ 2147483647) ∧ ∀ j, d < farK A j ∨ (farK A j = d ∧ k ≤ j) → s.2.2.1 j = 0
theorem MI_0 (A : Int → Int) : MI A 0 0 (offA A, wntA A, fun _ => 0, 0, 0) := ⟨fun x h => ⟨by show 0 ≤ offA A x; omega, off_hi A x⟩, fun _ _ => rfl, fun b => ⟨(wnt_in A b).1, Int.le_refl _⟩, ⟨by show -2147483648 ≤ (0 : Int); omega, by show (0 : Int) ≤ 2147483647; omega⟩, ⟨by show -2147483648 ≤ (0 : Int); omega, by show (0 : Int) ≤ 2147483647; omega⟩, fun _ _ => rfl⟩
theorem MI_d {A : Int → Int} {d k : Int} {s : mS} (h : MI A d k s) : MI A (d + 1) 0 s := ⟨h.1, h.2.1, h.2.2.1, h.2.2.2.1, h.2.2.2.2.1, fun j hj => h.2.2.2.2.2 j (Or.inl (by omega))⟩
theorem mtS_id {A : Int → Int} {d k : Int} {s : mS} (hd : d ≤ 24) (h : MI A d k s) (c : farK A k = d → s.1 (k / 12) = 0 ∨ s.2.1 (k % 12) = 0) : mtS A d k s = s := by
  unfold mtS
  split
  · rename_i e
    obtain ⟨h1, h2, h3, h4, h5, h6⟩ := h
    obtain ⟨o, w, _⟩ := farK_lt hd e
    have a := h1 _ o
    have b := h3 (k % 12)
    have wb := wnt_in A (k % 12)
    have m0 : min (s.1 (k / 12)) (s.2.1 (k % 12)) = 0 := by
      have := c e
      omega
    have b0 := h6 k (Or.inr ⟨e, Int.le_refl _⟩)
    have za : zw (s.1 (k / 12)) = s.1 (k / 12) := zw_lit (by omega) (by omega)
    have zb : zw (s.2.1 (k % 12)) = s.2.1 (k % 12) := zw_lit (by omega) (by omega)
    have zu : zw s.2.2.2.1 = s.2.2.2.1 := zw_lit (by omega) (by omega)
    have zv : zw s.2.2.2.2 = s.2.2.2.2 := zw_lit (by omega) (by omega)
    have z0 : zw 0 = 0 := by decide
    have x3 : xup s.2.2.1 k 0 = s.2.2.1 := by
      have := xup_id s.2.2.1 k
      rw [b0] at this
      exact this
    rw [m0, Int.sub_zero, Int.sub_zero, Int.zero_mul, z0, Int.add_zero, Int.add_zero, za, zb, zu, zv, xup_id, xup_id, x3]
  · rfl
theorem mtS_I {A : Int → Int} {d k : Int} {s : mS} (hd : d ≤ 24) (h : MI A d k s) : MI A d (k + 1) (mtS A d k s) := by
  obtain ⟨h1, h2, h3, h4, h5, h6⟩ := h
  unfold mtS
  split
  · rename_i e
    obtain ⟨o, w, _⟩ := farK_lt hd e
    have a := h1 _ o
    have b := h3 (k % 12)
    have wb := wnt_in A (k % 12)
    have za : zw (s.1 (k / 12) - min (s.1 (k / 12)) (s.2.1 (k % 12))) = s.1 (k / 12) - min (s.1 (k / 12)) (s.2.1 (k % 12)) := zw_lit (by omega) (by omega)
    have zb : zw (s.2.1 (k % 12) - min (s.1 (k / 12)) (s.2.1 (k % 12))) = s.2.1 (k % 12) - min (s.1 (k / 12)) (s.2.1 (k % 12)) := zw_lit (by omega) (by omega)
    rw [za, zb]
    refine ⟨fun x hx => ?_, fun x hx => ?_, fun x => ?_, zw_rg _, zw_rg _, fun j hj => ?_⟩
    · show 0 ≤ xup s.1 (k / 12) _ x ∧ xup s.1 (k / 12) _ x ≤ 2147483647
      unfold xup
      split
      · omega
      · exact h1 x hx
    · show xup s.1 (k / 12) _ x = offA A x
      unfold xup
      rw [if_neg (fun q => hx (by rw [q]; exact o))]
      exact h2 x hx
    · show 0 ≤ xup s.2.1 (k % 12) _ x ∧ xup s.2.1 (k % 12) _ x ≤ wntA A x
      unfold xup
      split
      · rename_i q
        rw [q]
        omega
      · exact h3 x
    · show xup s.2.2.1 k _ j = 0
      unfold xup
      rw [if_neg (fun q => by rw [q] at hj; omega)]
      exact h6 j (by omega)
  · exact ⟨h1, h2, h3, h4, h5, fun j hj => h6 j (by omega)⟩
theorem mtF_I {A : Int → Int} {d : Int} (hd : d ≤ 24) : ∀ (n : Nat) (k : Int) (s : mS), MI A d k s → MI A d (k + n) (mtF A d n k s)
  | 0, k, s, h => by
    rw [show k + ((0 : Nat) : Int) = k by omega]
    exact h
  | n + 1, k, s, h => by
    rw [show k + ((n + 1 : Nat) : Int) = k + 1 + n by omega]
    exact mtF_I hd n (k + 1) _ (mtS_I hd h)
theorem mtF_add {A : Int → Int} {d : Int} (m : Nat) : ∀ (n : Nat) (k : Int) (s : mS), mtF A d (n + m) k s = mtF A d m (k + n) (mtF A d n k s)
  | 0, k, s => by
    rw [show 0 + m = m by omega, show k + ((0 : Nat) : Int) = k by omega]
    rfl
  | n + 1, k, s => by
    rw [show n + 1 + m = (n + m) + 1 by omega, show k + ((n + 1 : Nat) : Int) = k + 1 + n by omega]
    exact mtF_add m n (k + 1) _
theorem mtF_skip {A : Int → Int} {d : Int} {s : mS} (hd : d ≤ 24) : ∀ (n : Nat) (k : Int), MI A d k s → (∀ j, k ≤ j → j < k + n → farK A j = d → s.1 (j / 12) = 0 ∨ s.2.1 (j % 12) = 0) → mtF A d n k s = s
  | 0, _, _, _ => rfl
  | n + 1, k, h, c => by
    have e := mtS_id hd h (c k (Int.le_refl _) (by omega))
    have i := mtS_I hd h
    unfold mtF
    rw [e] at i ⊢
    exact mtF_skip hd n (k + 1) i (fun j a b => c j (by omega) (by omega))
/-- what the class holds of the steps -/
def XM (hc : Int) (s : mS) (H : PH) : Prop := (∀ x, 0 ≤ x → x < 12 + hc → H 297 x = s.1 x) ∧ (∀ x, 0 ≤ x → x < 12 → H 298 x = s.2.1 x) ∧ (∀ x y, 0 ≤ x → x < 12 + hc → 0 ≤ y → y < 12 → H (300 + x) y = s.2.2.1 (12 * x + y)) ∧ H 221 10 = s.2.2.2.1 ∧ H 221 11 = s.2.2.2.2
/-- the matching and measures apart, what is left as it is -/
def KF (H H' : PH) : Prop := (∀ c, ¬ c = 44 → ¬ c = 45 → ¬ KL c → ¬ KL (c - 1) → ¬ (221 ≤ c ∧ c ≤ 371) → H' c = H c) ∧ (∀ i, ¬ i = 2 → ¬ i = 6 → ¬ i = 10 → ¬ i = 11 → H' 221 i = H 221 i) ∧ (∀ q, KL q → ∀ i, ¬ i = 4 → H' q i = H q i) ∧ LX H H'
theorem KF_refl {H : PH} : KF H H := ⟨fun _ _ _ _ _ _ => rfl, fun _ _ _ _ _ => rfl, fun _ _ _ _ => rfl, LX_refl⟩
theorem KF_trans {H H1 H2 : PH} (a : KF H H1) (b : KF H1 H2) : KF H H2 := ⟨fun c h1 h2 h3 h4 h5 => (b.1 c h1 h2 h3 h4 h5).trans (a.1 c h1 h2 h3 h4 h5), fun i h1 h2 h3 h4 => (b.2.1 i h1 h2 h3 h4).trans (a.2.1 i h1 h2 h3 h4), fun q hq i hi => (b.2.2.1 q hq i hi).trans (a.2.2.1 q hq i hi), LX_trans a.2.2.2 b.2.2.2⟩
theorem KF_up {H : PH} {c i v : Int} (hc : 222 ≤ c ∧ c ≤ 371) : KF H (pup H c i v) := ⟨fun d _ _ _ _ h => xp_ne (by omega), fun j _ _ _ _ => congrFun (xp_ne (by omega)) j, fun q hq j _ => congrFun (xp_ne (by have := KZ (Or.inr hq); omega)) j, LX_up (by omega)⟩
theorem KF_fd {H : PH} {i v : Int} (hi : i = 2 ∨ i = 6 ∨ i = 10 ∨ i = 11) : KF H (pup H 221 i v) := ⟨fun d _ _ _ _ h => xp_ne (by omega), fun j _ _ _ _ => by rw [xp_at, if_neg (by omega)], fun q hq j _ => congrFun (xp_ne (by have := KZ (Or.inr hq); omega)) j, LX_up (by decide)⟩
theorem KF_W {H H' : PH} (g : ∀ c, ¬ c = 222 → ¬ c = 223 → ¬ c = 298 → H' c = H c) : KF H H' := ⟨fun c _ _ _ _ h => g c (by omega) (by omega) (by omega), fun i _ _ _ _ => by rw [g 221 (by decide) (by decide) (by decide)], fun q hq i _ => by have := KZ (Or.inr hq); rw [g q (by omega) (by omega) (by omega)], LX_Z (fun c hc => g c (by omega) (by omega) (by omega))⟩
theorem nKL {c : Int} (h0 : 213 ≤ c) (h1 : c ≤ 467) : ¬ KL c ∧ ¬ KL (c - 1) := ⟨fun w => by have := KZ (Or.inr w); omega, fun w => by have := KZ (Or.inr w); omega⟩
theorem KF_M {H H' : PH} {s : Int} (hs : 0 ≤ s ∧ s < 72) (g : MF s H H') : KF H H' := ⟨fun c h1 h2 h3 h4 h5 => g.1 c h1 h2 h3 h4 (by omega) (by omega), fun i _ _ _ _ => by rw [g.1 221 (by decide) (by decide) (nKL (by decide) (by decide)).1 (nKL (by decide) (by decide)).2 (by omega) (by omega)], g.2⟩
theorem TCf_KF {A : Int → Int} {H H' : PH} (g : KF H H') (h : TCf A H) : TCf A H' := by
  obtain ⟨⟨t1, t2, t3, t4⟩, a, b, c⟩ := h
  have e : ∀ c, 213 ≤ c → c ≤ 220 → H' c = H c := fun c c0 c1 => g.1 c (by omega) (by omega) (nKL c0 (by omega)).1 (nKL c0 (by omega)).2 (by omega)
  unfold TCf TC
  rw [e 215 (by decide) (by decide), e 216 (by decide) (by decide), e 217 (by decide) (by decide), e 218 (by decide) (by decide), e 219 (by decide) (by decide), e 220 (by decide) (by decide)]
  exact ⟨⟨t1, t2, t3, t4⟩, a, b, c⟩
set_option maxRecDepth 100000 in
theorem lp_mv (A : Int → Int) (d s hc : Int) (hd : 0 ≤ d ∧ d ≤ 24) (hh : 0 ≤ hc ∧ hc ≤ 60) (hs : 0 ≤ s ∧ s < 12 + hc) (ho : 0 < offA A s) (hA0 : 0 ≤ A 0 ∧ A 0 ≤ 12) {E : xE} {res : xR} : ∀ (n : Nat) (b v : Int) (t : mS) (H : PH), 0 ≤ b → b ≤ A 0 → H 1 2 = A 0 → (∀ y, 0 ≤ y → y < 12 → 0 < wntA A y → H (225 + s) y = apfA A s y) → MI A d (12 * s + b) t → XM hc t H → RUN E res n kd_X6_moveFrom (zget kd_X6_moveFrom 2) 2 [221, s, d, b, v] [] H → ∃ H' : PH, XM hc (mtF A d (12 - b).toNat (12 * s + b) t) H' ∧ (∀ c, ¬ c = 221 → ¬ c = 297 → ¬ c = 298 → ¬ c = 300 + s → H' c = H c) ∧ (∀ i, ¬ i = 10 → ¬ i = 11 → H' 221 i = H 221 i) ∧ REPR E res none H' := by
  intro n
  induction n using Nat.strongRecOn with
  | _ n ih =>
    intro b v t H hb0 hb1 hB hG hI hX h
    have z1 : zw (b + 1) = b + 1 := zw_lit (by omega) (by omega)
    have g299 : ∀ X : PH, gv X 299 s = 300 + s := fun X => gv299 hs.1 (by omega)
    have g224 : ∀ X : PH, gv X 224 s = 225 + s := fun X => gv224 hs.1 (by omega)
    have i1 : 0 ≤ 300 + s := by omega
    have i2 : 0 ≤ 225 + s := by omega
    by_cases q : A 0 ≤ b
    · have h := xw_top (hd := [2]) 6 xD6_ok xc_X6_moveFrom xa_X6_moveFrom (t := 2) rfl h
      simp (maxDischargeDepth := 12) -implicitDefEqProofs [vb_X6_moveFrom_0, vb_X6_moveFrom_2, vb_X6_moveFrom_110, vb_X6_moveFrom_116, xI_0, xI_1, xI_3, xI_6, xI_7, xI_14, xI_15, xI_16, xI_33, xI_34, xI_36, xI_42, xI_44, xI_46, xI_49, xI_50, xI_51, xI_52, xI_53, xI_56, xI_65, xw_X6_moveFrom_0, xw_X6_moveFrom_2, xw_X6_moveFrom_110, xw_X6_moveFrom_116, zw_lit, xB_c, xB_s, xB_n, i1_c, j2_c, k1_c, jJ_e, xlg, xls, xla, xpd, ppush, zw_m1, zw_m2, zw_m3, gf_1_2, gf_6_0, gf_6_5, gf_6_7, gf_6_8, gf_6_9, gf_6_10, gf_6_11, pf_6_10, pf_6_11, tg_1_2, tg_6_0, tg_6_10, tg_6_11, tg_6_5, tg_6_7, tg_6_8, tg_6_9, gv_1_2, gv_221_0, gv_221_5, gv_221_7, gv_221_8, gv_221_9, gv_221_10, gv_221_11, xD1, xD2, xD3, xD4, xD5, xD6, xb1_0, hB] at h
      have h := (h.resolve_right (by omega)).2
      rw [mtF_skip hd.2 _ _ hI (fun j j0 j1 e => by
        have w := (farK_lt hd.2 e).2.1
        unfold wntA at w
        rw [if_neg (by omega)] at w
        omega)]
      exact ⟨H, hX, fun _ _ _ _ _ => rfl, fun _ _ _ => rfl, h⟩
    · obtain ⟨x1, x2, x3, x4, x5⟩ := id hX
      obtain ⟨m1, m2, m3, m4, m5, m6⟩ := id hI
      have e7 : H 297 s = t.1 s := x1 s hs.1 hs.2
      have e8 : H 298 b = t.2.1 b := x2 b hb0 (by omega)
      have e9 : H (300 + s) b = t.2.2.1 (12 * s + b) := x3 s b hs.1 hs.2 hb0 (by omega)
      have k1 : (12 * s + b) / 12 = s := by omega
      have k2 : (12 * s + b) % 12 = b := by omega
      have fk : farK A (12 * s + b) = farA A s b := farK_at ⟨hb0, by omega⟩
      have ys := m1 s ho
      have ls := m3 b
      have ws := wnt_in A b
      rw [show (12 - b).toNat = (12 - (b + 1)).toNat + 1 by omega]
      unfold mtF
      have I' := mtS_I hd.2 hI
      rw [show 12 * s + b + 1 = 12 * s + (b + 1) by omega] at I' ⊢
      have stay : mtS A d (12 * s + b) t = t → ∀ u : Int, xJ E res n kd_X6_moveFrom 2 [221, s, d, b + 1, u] [] H → ∃ H' : PH, XM hc (mtF A d (12 - (b + 1)).toNat (12 * s + (b + 1)) (mtS A d (12 * s + b) t)) H' ∧ (∀ c, ¬ c = 221 → ¬ c = 297 → ¬ c = 298 → ¬ c = 300 + s → H' c = H c) ∧ (∀ i, ¬ i = 10 → ¬ i = 11 → H' 221 i = H 221 i) ∧ REPR E res none H' := by
        rintro e u ⟨m, hm, g⟩
        rw [e] at I' ⊢
        exact ih m hm (b + 1) u t H (by omega) (by omega) hB hG I' hX g
      by_cases c1 : 0 < t.2.1 b
      · have wb : 0 < wntA A b := by omega
        have eg : H (225 + s) b = farA A s b := by
          unfold farA
          rw [if_pos ⟨ho, wb⟩]
          exact hG b hb0 (by omega) wb
        by_cases c2 : farA A s b = d
        · have z0 : t.2.2.1 (12 * s + b) = 0 := m6 _ (Or.inr ⟨fk.trans c2, Int.le_refl _⟩)
          have n1 : ¬ (298 : Int) = 300 + s := by omega
          have n2 : ¬ (297 : Int) = 300 + s := by omega
          have n3 : ¬ (221 : Int) = 300 + s := by omega
          have n4 : ¬ 300 + s = 297 := by omega
          have n5 : ¬ 300 + s = 298 := by omega
          have n6 : ¬ 300 + s = 221 := by omega
          have zm : zw (min (t.1 s) (t.2.1 b)) = min (t.1 s) (t.2.1 b) := zw_lit (by omega) (by omega)
          have zc : min (t.2.1 b) (t.1 s) = min (t.1 s) (t.2.1 b) := Int.min_comm _ _
          have h := xw_top (hd := [2]) 6 xD6_ok xc_X6_moveFrom xa_X6_moveFrom (t := 2) rfl h
          simp (maxDischargeDepth := 12) -implicitDefEqProofs [vb_X6_moveFrom_0, vb_X6_moveFrom_2, vb_X6_moveFrom_110, vb_X6_moveFrom_116, xI_0, xI_1, xI_3, xI_6, xI_7, xI_14, xI_15, xI_16, xI_33, xI_34, xI_36, xI_42, xI_44, xI_46, xI_49, xI_50, xI_51, xI_52, xI_53, xI_56, xI_65, xw_X6_moveFrom_0, xw_X6_moveFrom_2, xw_X6_moveFrom_110, xw_X6_moveFrom_116, zw_lit, xB_c, xB_s, xB_n, i1_c, j2_c, k1_c, jJ_e, xlg, xls, xla, xpd, ppush, zw_m1, zw_m2, zw_m3, gf_1_2, gf_6_0, gf_6_5, gf_6_7, gf_6_8, gf_6_9, gf_6_10, gf_6_11, pf_6_10, pf_6_11, tg_1_2, tg_6_0, tg_6_10, tg_6_11, tg_6_5, tg_6_7, tg_6_8, tg_6_9, gv_1_2, gv_221_0, gv_221_5, gv_221_7, gv_221_8, gv_221_9, gv_221_10, gv_221_11, xD1, xD2, xD3, xD4, xD5, xD6, xb1_0, hB, z1, g299, g224, e7, e8, e9, eg, c2, x4, x5, z0, zm, mn_a, zc, n1, n2, n3, n4, n5, n6, i1, i2, xp_ne, xp_at] at h
          have h := (h.resolve_left (by omega)).2
          have h := (h.resolve_left (by omega)).2
          obtain ⟨m, hm, h⟩ := h
          have es : mtS A d (12 * s + b) t = _ := if_pos (fk.trans c2)
          simp only [k1, k2] at es
          rw [es] at I' ⊢
          refine Exists.elim (ih m hm (b + 1) _ _ _ (by omega) (by omega) ?_ ?_ I' ⟨fun x y0 y1 => ?_, fun x y0 y1 => ?_, fun x y y0 y1 y2 y3 => ?_, ?_, ?_⟩ h) (fun H' ⟨j1, j2, j3, j4⟩ => ⟨H', j1, fun c a1 a2 a3 a4 => ?_, fun i a1 a2 => ?_, j4⟩)
          · have n7 : ¬ (1 : Int) = 300 + s := by omega
            simp [xp_ne, xp_at, hB, n7]
          · intro y y0 y1 y2
            have := hG y y0 y1 y2
            have q1 : ¬ 225 + s = 300 + s := by omega
            have q2 : ¬ 225 + s = 297 := by omega
            have q3 : ¬ 225 + s = 298 := by omega
            have q4 : ¬ 225 + s = 221 := by omega
            simpa [xp_ne, xp_at, q1, q2, q3, q4] using this
          · simp only [xup]
            by_cases e : x = s
            · simp [xp_ne, xp_at, e, n1, n2, n3, n4, n5, n6, e7]
            · simp [xp_ne, xp_at, e, n1, n2, n3, n4, n5, n6]
              exact x1 x y0 y1
          · simp only [xup]
            by_cases e : x = b
            · simp [xp_ne, xp_at, e, n1, n2, n3, n4, n5, n6, e8]
            · simp [xp_ne, xp_at, e, n1, n2, n3, n4, n5, n6]
              exact x2 x y0 y1
          · simp only [xup]
            have q2 : ¬ 300 + x = 297 := by omega
            have q3 : ¬ 300 + x = 298 := by omega
            have q4 : ¬ 300 + x = 221 := by omega
            have := x3 x y y0 y1 y2 y3
            by_cases e : x = s
            · by_cases f : y = b
              · subst e f
                simp [xp_ne, xp_at, n1, n2, n3, n4, n5, n6]
              · have q5 : ¬ 12 * x + y = 12 * s + b := by omega
                rw [if_neg q5]
                subst e
                simpa [xp_ne, xp_at, f, n1, n2, n3, n4, n5, n6] using this
            · have q5 : ¬ 12 * x + y = 12 * s + b := by omega
              have q6 : ¬ 300 + x = 300 + s := by omega
              rw [if_neg q5]
              simpa [xp_ne, q2, q3, q4, q6] using this
          · simp [xp_ne, xp_at, n1, n2, n3, n4, n5, n6, x4]
          · simp [xp_ne, xp_at, n1, n2, n3, n4, n5, n6, x5]
          · rw [j2 c a1 a2 a3 a4]
            simp only [xp_ne a1, xp_ne a2, xp_ne a3, xp_ne a4]
          · rw [j3 i a1 a2]
            simp [xp_ne, xp_at, n1, n2, n3, n4, n5, n6, a1, a2]
        · have h := xw_top (hd := [2]) 6 xD6_ok xc_X6_moveFrom xa_X6_moveFrom (t := 2) rfl h
          simp (maxDischargeDepth := 12) -implicitDefEqProofs [vb_X6_moveFrom_0, vb_X6_moveFrom_2, vb_X6_moveFrom_110, vb_X6_moveFrom_116, xI_0, xI_1, xI_3, xI_6, xI_7, xI_14, xI_15, xI_16, xI_33, xI_34, xI_36, xI_42, xI_44, xI_46, xI_49, xI_50, xI_51, xI_52, xI_53, xI_56, xI_65, xw_X6_moveFrom_0, xw_X6_moveFrom_2, xw_X6_moveFrom_110, xw_X6_moveFrom_116, zw_lit, xB_c, xB_s, xB_n, i1_c, j2_c, k1_c, jJ_e, xlg, xls, xla, xpd, ppush, zw_m1, zw_m2, zw_m3, gf_1_2, gf_6_0, gf_6_5, gf_6_7, gf_6_8, gf_6_9, gf_6_10, gf_6_11, pf_6_10, pf_6_11, tg_1_2, tg_6_0, tg_6_10, tg_6_11, tg_6_5, tg_6_7, tg_6_8, tg_6_9, gv_1_2, gv_221_0, gv_221_5, gv_221_7, gv_221_8, gv_221_9, gv_221_10, gv_221_11, xD1, xD2, xD3, xD4, xD5, xD6, xb1_0, hB, z1, g299, g224, e8, eg, c2, i1, i2] at h
          have h := (h.resolve_left (by omega)).2
          have h := (h.resolve_left (by omega)).2
          exact stay (mtS_id hd.2 hI (fun e => (c2 (fk.symm.trans e)).elim)) _ h
      · have h := xw_top (hd := [2]) 6 xD6_ok xc_X6_moveFrom xa_X6_moveFrom (t := 2) rfl h
        simp (maxDischargeDepth := 12) -implicitDefEqProofs [vb_X6_moveFrom_0, vb_X6_moveFrom_2, vb_X6_moveFrom_110, vb_X6_moveFrom_116, xI_0, xI_1, xI_3, xI_6, xI_7, xI_14, xI_15, xI_16, xI_33, xI_34, xI_36, xI_42, xI_44, xI_46, xI_49, xI_50, xI_51, xI_52, xI_53, xI_56, xI_65, xw_X6_moveFrom_0, xw_X6_moveFrom_2, xw_X6_moveFrom_110, xw_X6_moveFrom_116, zw_lit, xB_c, xB_s, xB_n, i1_c, j2_c, k1_c, jJ_e, xlg, xls, xla, xpd, ppush, zw_m1, zw_m2, zw_m3, gf_1_2, gf_6_0, gf_6_5, gf_6_7, gf_6_8, gf_6_9, gf_6_10, gf_6_11, pf_6_10, pf_6_11, tg_1_2, tg_6_0, tg_6_10, tg_6_11, tg_6_5, tg_6_7, tg_6_8, tg_6_9, gv_1_2, gv_221_0, gv_221_5, gv_221_7, gv_221_8, gv_221_9, gv_221_10, gv_221_11, xD1, xD2, xD3, xD4, xD5, xD6, xb1_0, hB, z1, g299, g224, e8, i1, i2] at h
        have h := (h.resolve_left (by omega)).2
        have h := (h.resolve_right (by omega)).2
        refine stay (mtS_id hd.2 hI (fun _ => Or.inr ?_)) _ h
        rw [k2]
        omega
theorem sp_X6_moveFrom (A : Int → Int) (d s hc : Int) (t : mS) (H : PH) (hd : 0 ≤ d ∧ d ≤ 24) (hh : 0 ≤ hc ∧ hc ≤ 60) (hs : 0 ≤ s ∧ s < 12 + hc) (ho : 0 < offA A s) (hA0 : 0 ≤ A 0 ∧ A 0 ≤ 12) (hB : H 1 2 = A 0) (hG : ∀ y, 0 ≤ y → y < 12 → 0 < wntA A y → H (225 + s) y = apfA A s y) (hI : MI A d (12 * s) t) (hX : XM hc t H) : SPEC 60 [(2, 221), (0, s), (0, d)] H (fun r H' => r = none ∧ XM hc (mtF A d 12 (12 * s) t) H' ∧ KF H H' ∧ (∀ i, ¬ i = 10 → ¬ i = 11 → H' 221 i = H 221 i) ∧ (∀ c, ¬ c = 221 → ¬ c = 297 → ¬ c = 298 → ¬ (300 ≤ c ∧ c ≤ 371) → H' c = H c)) := by
  intro E n res h
  have h := call_runP 5 vm_X6_moveFrom h
  have h := xw_top (hd := [2]) 6 xD6_ok xc_X6_moveFrom xa_X6_moveFrom (t := 0) rfl h
  simp (maxDischargeDepth := 12) -implicitDefEqProofs [vb_X6_moveFrom_0, vb_X6_moveFrom_2, vb_X6_moveFrom_110, vb_X6_moveFrom_116, xI_0, xI_1, xI_3, xI_6, xI_7, xI_14, xI_15, xI_16, xI_33, xI_34, xI_36, xI_42, xI_44, xI_46, xI_49, xI_50, xI_51, xI_52, xI_53, xI_56, xI_65, xw_X6_moveFrom_0, xw_X6_moveFrom_2, xw_X6_moveFrom_110, xw_X6_moveFrom_116, zw_lit, xB_c, xB_s, xB_n, i1_c, j2_c, k1_c, jJ_e, xlg, xls, xla, xpd, ppush, zw_m1, zw_m2, zw_m3, gf_1_2, gf_6_0, gf_6_5, gf_6_7, gf_6_8, gf_6_9, gf_6_10, gf_6_11, pf_6_10, pf_6_11, tg_1_2, tg_6_0, tg_6_10, tg_6_11, tg_6_5, tg_6_7, tg_6_8, tg_6_9, gv_1_2, gv_221_0, gv_221_5, gv_221_7, gv_221_8, gv_221_9, gv_221_10, gv_221_11, xD1, xD2, xD3, xD4, xD5, xD6, xb1_0] at h
  obtain ⟨m, hm, h⟩ := h
  obtain ⟨H', g1, g2, g3, g4⟩ := lp_mv A d s hc hd hh hs ho hA0 m 0 0 t H (by omega) hA0.1 hB hG (by rw [Int.add_zero]; exact hI) hX h
  rw [Int.sub_zero, Int.add_zero] at g1
  exact ⟨none, H', g4, rfl, g1, ⟨fun c _ _ _ _ a => g2 c (by omega) (by omega) (by omega) (by omega), fun i _ _ a b => g3 i a b, fun q hq i _ => by have := KZ (Or.inr hq); rw [g2 q (by omega) (by omega) (by omega) (by omega)], LX_Z (fun c hc => g2 c (by omega) (by omega) (by omega) (by omega))⟩, g3, fun c a b e f => g2 c a b e (by omega)⟩
