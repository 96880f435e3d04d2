abbrev xbT : Type := Nat × List VE × Option Nat
def xOK (cd : zK) : List xbT → Prop
  | [] => True
  | b :: t => zget cd b.1 = b.2.1.map vq ++ vrest cd b.2.2 ∧ xOK cd t
/-! ===== regions: what lies between the places where a run is looked at ===== -/
def bq : List xbT → Nat → Option (List VE × Option Nat)
  | [], _ => none
  | q :: r, t => if q.1 = t then some q.2 else bq r t
theorem bq_ok {cd : zK} {t : Nat} {b : List VE} {nx : Option Nat} : ∀ {B : List xbT}, xOK cd B → B.all (fun q => aOKb q.2.1 && !q.2.1.isEmpty) = true → bq B t = some (b, nx) → zget cd t = b.map vq ++ vrest cd nx ∧ (aOKb b && !b.isEmpty) = true
  | [], _, _, h => by cases h
  | q :: r, hB, ha, h => by
    rw [List.all_cons, Bool.and_eq_true] at ha
    unfold bq at h
    split at h
    · rename_i e
      have h := Option.some.inj h
      subst e
      have h1 := hB.1
      have h2 := ha.1
      rw [h] at h1 h2
      exact ⟨h1, h2⟩
    · exact bq_ok hB.2 ha.2 h
abbrev xCT : Type := Nat → List pv → PH → (Option pv → PH → Prop) → Prop
def xW (E : xE) (res : xR) (N : Nat) (cd : zK) (B : List xbT) (hd : List Nat) (C : xCT) : Nat → Nat → List Int → List pv → PH → Prop
  | 0, t, L, st, H => xJ E res N cd t L st H
  | k + 1, t, L, st, H => match bq B t with
    | some b => xB (fun t L st H => if t ∈ hd then xJ E res N cd t L st H else xW E res N cd B hd C k t L st H) (REPR E res) C b.2 b.1 t L st H
    | none => xJ E res N cd t L st H
def xCC (E : xE) (N : Nat) (C : xCT) : Prop := ∀ mj as H K, xC E N mj as H K → C mj as H K
theorem xCC_id {E : xE} {N : Nat} : xCC E N (xC E N) := fun _ _ _ _ h => h
theorem x_blkG {E : xE} {res : xR} {N : Nat} {cd : zK} {nx : Option Nat} {J : Nat → List Int → List pv → PH → Prop} {C : xCT} (hC : xCC E N C) (hJ : ∀ m t L st H, m < N → RUN E res m cd (zget cd t) t L st H → J t L st H) : ∀ (b : List VE) (n pc : Nat) (L : List Int) (st : List pv) (H : PH), aOKb b = true → n < N → RUN E res n cd (b.map vq ++ vrest cd nx) pc L st H → xB J (REPR E res) C nx b pc L st H
  | [], n, pc, L, st, H, _, hn, h => by
    cases nx with
    | none =>
      obtain ⟨d, ls, h0, -, -, -, -, hr⟩ := h
      cases n with
      | zero => cases hr
      | succ n => cases hr
    | some t =>
      intro e
      subst e
      exact hJ n _ _ _ _ hn h
  | e :: t, n, pc, L, st, H, ha, hn, h => by
    obtain ⟨a1, a2⟩ := aOKb_1 ha
    exact (x_step e.2.1 (J := J) (Q := REPR E res) (C := C) (k := xB J (REPR E res) C nx t e.2.2.1) ⟨fun m hm L st H q => x_blkG hC hJ t m e.2.2.1 L st H a2 (by omega) q, fun m hm t L st H q => hJ m t L st H (by omega) q, fun r H q => q, fun m hm mj as H K q => by
      obtain ⟨res1, q1, q2⟩ := q
      exact hC _ _ _ _ ⟨m, res1, by omega, q1, q2⟩⟩ a1 h).2
theorem x_blkH {E : xE} {res : xR} {n : Nat} {cd : zK} {t : Nat} {nx : Option Nat} {J : Nat → List Int → List pv → PH → Prop} {C : xCT} (hC : xCC E n C) (hJ : ∀ m t L st H, m < n → RUN E res m cd (zget cd t) t L st H → J t L st H) {L : List Int} {st : List pv} {H : PH} (b : List VE) (hb : zget cd t = b.map vq ++ vrest cd nx) (ha : (aOKb b && !b.isEmpty) = true) (h : RUN E res n cd (zget cd t) t L st H) : xB J (REPR E res) C nx b t L st H := by
  rw [hb] at h
  rw [Bool.and_eq_true] at ha
  cases b with
  | nil => cases ha.2
  | cons e b =>
    obtain ⟨a1, a2⟩ := aOKb_1 ha.1
    exact (x_step e.2.1 (J := J) (Q := REPR E res) (C := C) (k := xB J (REPR E res) C nx b e.2.2.1) ⟨fun m hm L st H q => x_blkG hC hJ b m e.2.2.1 L st H a2 hm q, fun m hm t L st H q => hJ m t L st H hm q, fun r H q => q, fun m hm mj as H K q => by
      obtain ⟨res1, q1, q2⟩ := q
      exact hC _ _ _ _ ⟨m, res1, hm, q1, q2⟩⟩ a1 h).2
theorem RUN_up {E : xE} {res : xR} {cd : zK} {B : List xbT} {hd : List Nat} {C : xCT} {N : Nat} (hC : xCC E N C) (hB : xOK cd B) (ha : B.all (fun q => aOKb q.2.1 && !q.2.1.isEmpty) = true) : ∀ (k n t : Nat) (L : List Int) (st : List pv) (H : PH), n < N → RUN E res n cd (zget cd t) t L st H → xW E res N cd B hd C k t L st H
  | 0, n, t, L, st, H, hn, h => ⟨n, hn, h⟩
  | k + 1, n, t, L, st, H, hn, h => by
    unfold xW
    cases hq : bq B t with
    | none => exact ⟨n, hn, h⟩
    | some b =>
      obtain ⟨b1, b2⟩ := bq_ok hB ha hq
      rw [Bool.and_eq_true] at b2
      rw [b1] at h
      refine x_blkG hC (fun m t L st H hm q => ?_) b.1 n t L st H b2.1 hn h
      show if t ∈ hd then _ else _
      split
      · exact ⟨m, hm, q⟩
      · exact RUN_up hC hB ha k m t L st H hm q
theorem xw_top {E : xE} {res : xR} {cd : zK} {B : List xbT} {hd : List Nat} {C : xCT} {n : Nat} (k : Nat) (hC : xCC E n C) (hB : xOK cd B) (ha : B.all (fun q => aOKb q.2.1 && !q.2.1.isEmpty) = true) {t : Nat} {L : List Int} {st : List pv} {H : PH} {b : List VE} {nx : Option Nat} (hq : bq B t = some (b, nx)) (h : RUN E res n cd (zget cd t) t L st H) : xB (fun t L st H => if t ∈ hd then xJ E res n cd t L st H else xW E res n cd B hd C k t L st H) (REPR E res) C nx b t L st H := by
  obtain ⟨b1, b2⟩ := bq_ok hB ha hq
  refine x_blkH hC (fun m t L st H hm q => ?_) b b1 b2 h
  show if t ∈ hd then _ else _
  split
  · exact ⟨m, hm, q⟩
  · exact RUN_up hC hB ha k m t L st H hm q
def b01 (p : Prop) [Decidable p] : Int := if p then 1 else 0
theorem k01 {p : Prop} [Decidable p] : (b01 p = 0 ↔ ¬ p) := by
  unfold b01
  split <;> simp_all
theorem b01_t {p : Prop} [Decidable p] (h : p) : b01 p = 1 := if_pos h
theorem b01_f {p : Prop} [Decidable p] (h : ¬ p) : b01 p = 0 := if_neg h
theorem gf_1_10 : gfOK 1 10 = true := by decide +kernel
theorem gf_1_11 : gfOK 1 11 = true := by decide +kernel
theorem gf_1_12 : gfOK 1 12 = true := by decide +kernel
theorem gf_5_2 : gfOK 5 2 = true := by decide +kernel
theorem gf_8_0 : gfOK 8 0 = true := by decide +kernel
theorem gf_10_0 : gfOK 10 0 = true := by decide +kernel
theorem gf_10_1 : gfOK 10 1 = true := by decide +kernel
theorem gf_10_2 : gfOK 10 2 = true := by decide +kernel
theorem gf_12_3 : gfOK 12 3 = true := by decide +kernel
theorem gf_12_4 : gfOK 12 4 = true := by decide +kernel
theorem gf_12_5 : gfOK 12 5 = true := by decide +kernel
def xm_X11_within : List xbT := [(0, vb_X11_within_0, some 14), (14, vb_X11_within_14, some 15), (15, vb_X11_within_15, none)]
theorem xc_X11_within : xOK kd_X11_within xm_X11_within := ⟨ve_X11_within_0, ve_X11_within_14, ve_X11_within_15, trivial⟩
theorem xa_X11_within : xm_X11_within.all (fun q => aOKb q.2.1 && !q.2.1.isEmpty) = true := by decide +kernel
theorem xw_X11_within_0 {E : xE} {res : xR} {N : Nat} {hd : List Nat} {C : xCT} {k : Nat} {L : List Int} {st : List pv} {H : PH} : xW E res N kd_X11_within xm_X11_within hd C (k + 1) 0 L st H = xB (fun t L st H => if t ∈ hd then xJ E res N kd_X11_within t L st H else xW E res N kd_X11_within xm_X11_within hd C k t L st H) (REPR E res) C (some 14) vb_X11_within_0 0 L st H := rfl
theorem xw_X11_within_14 {E : xE} {res : xR} {N : Nat} {hd : List Nat} {C : xCT} {k : Nat} {L : List Int} {st : List pv} {H : PH} : xW E res N kd_X11_within xm_X11_within hd C (k + 1) 14 L st H = xB (fun t L st H => if t ∈ hd then xJ E res N kd_X11_within t L st H else xW E res N kd_X11_within xm_X11_within hd C k t L st H) (REPR E res) C (some 15) vb_X11_within_14 14 L st H := rfl
theorem xw_X11_within_15 {E : xE} {res : xR} {N : Nat} {hd : List Nat} {C : xCT} {k : Nat} {L : List Int} {st : List pv} {H : PH} : xW E res N kd_X11_within xm_X11_within hd C (k + 1) 15 L st H = xB (fun t L st H => if t ∈ hd then xJ E res N kd_X11_within t L st H else xW E res N kd_X11_within xm_X11_within hd C k t L st H) (REPR E res) C (none) vb_X11_within_15 15 L st H := rfl
def xm_X8_sizeOf : List xbT := [(0, vb_X8_sizeOf_0, none)]
theorem xc_X8_sizeOf : xOK kd_X8_sizeOf xm_X8_sizeOf := ⟨ve_X8_sizeOf_0, trivial⟩
theorem xa_X8_sizeOf : xm_X8_sizeOf.all (fun q => aOKb q.2.1 && !q.2.1.isEmpty) = true := by decide +kernel
theorem xw_X8_sizeOf_0 {E : xE} {res : xR} {N : Nat} {hd : List Nat} {C : xCT} {k : Nat} {L : List Int} {st : List pv} {H : PH} : xW E res N kd_X8_sizeOf xm_X8_sizeOf hd C (k + 1) 0 L st H = xB (fun t L st H => if t ∈ hd then xJ E res N kd_X8_sizeOf t L st H else xW E res N kd_X8_sizeOf xm_X8_sizeOf hd C k t L st H) (REPR E res) C (none) vb_X8_sizeOf_0 0 L st H := rfl
def xm_X8_signAt : List xbT := [(0, vb_X8_signAt_0, none)]
theorem xc_X8_signAt : xOK kd_X8_signAt xm_X8_signAt := ⟨ve_X8_signAt_0, trivial⟩
theorem xa_X8_signAt : xm_X8_signAt.all (fun q => aOKb q.2.1 && !q.2.1.isEmpty) = true := by decide +kernel
theorem xw_X8_signAt_0 {E : xE} {res : xR} {N : Nat} {hd : List Nat} {C : xCT} {k : Nat} {L : List Int} {st : List pv} {H : PH} : xW E res N kd_X8_signAt xm_X8_signAt hd C (k + 1) 0 L st H = xB (fun t L st H => if t ∈ hd then xJ E res N kd_X8_signAt t L st H else xW E res N kd_X8_signAt xm_X8_signAt hd C k t L st H) (REPR E res) C (none) vb_X8_signAt_0 0 L st H := rfl
def xm_X8_octetOf : List xbT := [(0, vb_X8_octetOf_0, some 9), (9, vb_X8_octetOf_9, some 24), (24, vb_X8_octetOf_24, some 31), (31, vb_X8_octetOf_31, none)]
theorem xc_X8_octetOf : xOK kd_X8_octetOf xm_X8_octetOf := ⟨ve_X8_octetOf_0, ve_X8_octetOf_9, ve_X8_octetOf_24, ve_X8_octetOf_31, trivial⟩
theorem xa_X8_octetOf : xm_X8_octetOf.all (fun q => aOKb q.2.1 && !q.2.1.isEmpty) = true := by decide +kernel
theorem xw_X8_octetOf_0 {E : xE} {res : xR} {N : Nat} {hd : List Nat} {C : xCT} {k : Nat} {L : List Int} {st : List pv} {H : PH} : xW E res N kd_X8_octetOf xm_X8_octetOf hd C (k + 1) 0 L st H = xB (fun t L st H => if t ∈ hd then xJ E res N kd_X8_octetOf t L st H else xW E res N kd_X8_octetOf xm_X8_octetOf hd C k t L st H) (REPR E res) C (some 9) vb_X8_octetOf_0 0 L st H := rfl
theorem xw_X8_octetOf_9 {E : xE} {res : xR} {N : Nat} {hd : List Nat} {C : xCT} {k : Nat} {L : List Int} {st : List pv} {H : PH} : xW E res N kd_X8_octetOf xm_X8_octetOf hd C (k + 1) 9 L st H = xB (fun t L st H => if t ∈ hd then xJ E res N kd_X8_octetOf t L st H else xW E res N kd_X8_octetOf xm_X8_octetOf hd C k t L st H) (REPR E res) C (some 24) vb_X8_octetOf_9 9 L st H := rfl
theorem xw_X8_octetOf_24 {E : xE} {res : xR} {N : Nat} {hd : List Nat} {C : xCT} {k : Nat} {L : List Int} {st : List pv} {H : PH} : xW E res N kd_X8_octetOf xm_X8_octetOf hd C (k + 1) 24 L st H = xB (fun t L st H => if t ∈ hd then xJ E res N kd_X8_octetOf t L st H else xW E res N kd_X8_octetOf xm_X8_octetOf hd C k t L st H) (REPR E res) C (some 31) vb_X8_octetOf_24 24 L st H := rfl
theorem xw_X8_octetOf_31 {E : xE} {res : xR} {N : Nat} {hd : List Nat} {C : xCT} {k : Nat} {L : List Int} {st : List pv} {H : PH} : xW E res N kd_X8_octetOf xm_X8_octetOf hd C (k + 1) 31 L st H = xB (fun t L st H => if t ∈ hd then xJ E res N kd_X8_octetOf t L st H else xW E res N kd_X8_octetOf xm_X8_octetOf hd C k t L st H) (REPR E res) C (none) vb_X8_octetOf_31 31 L st H := rfl
def xm_X10_next : List xbT := [(0, vb_X10_next_0, some 23), (23, vb_X10_next_23, some 24), (24, vb_X10_next_24, none)]
theorem xc_X10_next : xOK kd_X10_next xm_X10_next := ⟨ve_X10_next_0, ve_X10_next_23, ve_X10_next_24, trivial⟩
theorem xa_X10_next : xm_X10_next.all (fun q => aOKb q.2.1 && !q.2.1.isEmpty) = true := by decide +kernel
theorem xw_X10_next_0 {E : xE} {res : xR} {N : Nat} {hd : List Nat} {C : xCT} {k : Nat} {L : List Int} {st : List pv} {H : PH} : xW E res N kd_X10_next xm_X10_next hd C (k + 1) 0 L st H = xB (fun t L st H => if t ∈ hd then xJ E res N kd_X10_next t L st H else xW E res N kd_X10_next xm_X10_next hd C k t L st H) (REPR E res) C (some 23) vb_X10_next_0 0 L st H := rfl
theorem xw_X10_next_23 {E : xE} {res : xR} {N : Nat} {hd : List Nat} {C : xCT} {k : Nat} {L : List Int} {st : List pv} {H : PH} : xW E res N kd_X10_next xm_X10_next hd C (k + 1) 23 L st H = xB (fun t L st H => if t ∈ hd then xJ E res N kd_X10_next t L st H else xW E res N kd_X10_next xm_X10_next hd C k t L st H) (REPR E res) C (some 24) vb_X10_next_23 23 L st H := rfl
theorem xw_X10_next_24 {E : xE} {res : xR} {N : Nat} {hd : List Nat} {C : xCT} {k : Nat} {L : List Int} {st : List pv} {H : PH} : xW E res N kd_X10_next xm_X10_next hd C (k + 1) 24 L st H = xB (fun t L st H => if t ∈ hd then xJ E res N kd_X10_next t L st H else xW E res N kd_X10_next xm_X10_next hd C k t L st H) (REPR E res) C (none) vb_X10_next_24 24 L st H := rfl
def xm_X10_isDigit : List xbT := [(0, vb_X10_isDigit_0, some 16), (16, vb_X10_isDigit_16, some 17), (17, vb_X10_isDigit_17, none)]
theorem xc_X10_isDigit : xOK kd_X10_isDigit xm_X10_isDigit := ⟨ve_X10_isDigit_0, ve_X10_isDigit_16, ve_X10_isDigit_17, trivial⟩
theorem xa_X10_isDigit : xm_X10_isDigit.all (fun q => aOKb q.2.1 && !q.2.1.isEmpty) = true := by decide +kernel
theorem xw_X10_isDigit_0 {E : xE} {res : xR} {N : Nat} {hd : List Nat} {C : xCT} {k : Nat} {L : List Int} {st : List pv} {H : PH} : xW E res N kd_X10_isDigit xm_X10_isDigit hd C (k + 1) 0 L st H = xB (fun t L st H => if t ∈ hd then xJ E res N kd_X10_isDigit t L st H else xW E res N kd_X10_isDigit xm_X10_isDigit hd C k t L st H) (REPR E res) C (some 16) vb_X10_isDigit_0 0 L st H := rfl
theorem xw_X10_isDigit_16 {E : xE} {res : xR} {N : Nat} {hd : List Nat} {C : xCT} {k : Nat} {L : List Int} {st : List pv} {H : PH} : xW E res N kd_X10_isDigit xm_X10_isDigit hd C (k + 1) 16 L st H = xB (fun t L st H => if t ∈ hd then xJ E res N kd_X10_isDigit t L st H else xW E res N kd_X10_isDigit xm_X10_isDigit hd C k t L st H) (REPR E res) C (some 17) vb_X10_isDigit_16 16 L st H := rfl
theorem xw_X10_isDigit_17 {E : xE} {res : xR} {N : Nat} {hd : List Nat} {C : xCT} {k : Nat} {L : List Int} {st : List pv} {H : PH} : xW E res N kd_X10_isDigit xm_X10_isDigit hd C (k + 1) 17 L st H = xB (fun t L st H => if t ∈ hd then xJ E res N kd_X10_isDigit t L st H else xW E res N kd_X10_isDigit xm_X10_isDigit hd C k t L st H) (REPR E res) C (none) vb_X10_isDigit_17 17 L st H := rfl
def xm_X4_isSumSign : List xbT := [(0, vb_X4_isSumSign_0, some 12), (12, vb_X4_isSumSign_12, some 16), (16, vb_X4_isSumSign_16, some 17), (17, vb_X4_isSumSign_17, none)]
theorem xc_X4_isSumSign : xOK kd_X4_isSumSign xm_X4_isSumSign := ⟨ve_X4_isSumSign_0, ve_X4_isSumSign_12, ve_X4_isSumSign_16, ve_X4_isSumSign_17, trivial⟩
theorem xa_X4_isSumSign : xm_X4_isSumSign.all (fun q => aOKb q.2.1 && !q.2.1.isEmpty) = true := by decide +kernel
theorem xw_X4_isSumSign_0 {E : xE} {res : xR} {N : Nat} {hd : List Nat} {C : xCT} {k : Nat} {L : List Int} {st : List pv} {H : PH} : xW E res N kd_X4_isSumSign xm_X4_isSumSign hd C (k + 1) 0 L st H = xB (fun t L st H => if t ∈ hd then xJ E res N kd_X4_isSumSign t L st H else xW E res N kd_X4_isSumSign xm_X4_isSumSign hd C k t L st H) (REPR E res) C (some 12) vb_X4_isSumSign_0 0 L st H := rfl
theorem xw_X4_isSumSign_12 {E : xE} {res : xR} {N : Nat} {hd : List Nat} {C : xCT} {k : Nat} {L : List Int} {st : List pv} {H : PH} : xW E res N kd_X4_isSumSign xm_X4_isSumSign hd C (k + 1) 12 L st H = xB (fun t L st H => if t ∈ hd then xJ E res N kd_X4_isSumSign t L st H else xW E res N kd_X4_isSumSign xm_X4_isSumSign hd C k t L st H) (REPR E res) C (some 16) vb_X4_isSumSign_12 12 L st H := rfl
theorem xw_X4_isSumSign_16 {E : xE} {res : xR} {N : Nat} {hd : List Nat} {C : xCT} {k : Nat} {L : List Int} {st : List pv} {H : PH} : xW E res N kd_X4_isSumSign xm_X4_isSumSign hd C (k + 1) 16 L st H = xB (fun t L st H => if t ∈ hd then xJ E res N kd_X4_isSumSign t L st H else xW E res N kd_X4_isSumSign xm_X4_isSumSign hd C k t L st H) (REPR E res) C (some 17) vb_X4_isSumSign_16 16 L st H := rfl
theorem xw_X4_isSumSign_17 {E : xE} {res : xR} {N : Nat} {hd : List Nat} {C : xCT} {k : Nat} {L : List Int} {st : List pv} {H : PH} : xW E res N kd_X4_isSumSign xm_X4_isSumSign hd C (k + 1) 17 L st H = xB (fun t L st H => if t ∈ hd then xJ E res N kd_X4_isSumSign t L st H else xW E res N kd_X4_isSumSign xm_X4_isSumSign hd C k t L st H) (REPR E res) C (none) vb_X4_isSumSign_17 17 L st H := rfl
def xm_X4_isProductSign : List xbT := [(0, vb_X4_isProductSign_0, some 24), (24, vb_X4_isProductSign_24, some 28), (28, vb_X4_isProductSign_28, some 29), (29, vb_X4_isProductSign_29, none)]
theorem xc_X4_isProductSign : xOK kd_X4_isProductSign xm_X4_isProductSign := ⟨ve_X4_isProductSign_0, ve_X4_isProductSign_24, ve_X4_isProductSign_28, ve_X4_isProductSign_29, trivial⟩
theorem xa_X4_isProductSign : xm_X4_isProductSign.all (fun q => aOKb q.2.1 && !q.2.1.isEmpty) = true := by decide +kernel
theorem xw_X4_isProductSign_0 {E : xE} {res : xR} {N : Nat} {hd : List Nat} {C : xCT} {k : Nat} {L : List Int} {st : List pv} {H : PH} : xW E res N kd_X4_isProductSign xm_X4_isProductSign hd C (k + 1) 0 L st H = xB (fun t L st H => if t ∈ hd then xJ E res N kd_X4_isProductSign t L st H else xW E res N kd_X4_isProductSign xm_X4_isProductSign hd C k t L st H) (REPR E res) C (some 24) vb_X4_isProductSign_0 0 L st H := rfl
theorem xw_X4_isProductSign_24 {E : xE} {res : xR} {N : Nat} {hd : List Nat} {C : xCT} {k : Nat} {L : List Int} {st : List pv} {H : PH} : xW E res N kd_X4_isProductSign xm_X4_isProductSign hd C (k + 1) 24 L st H = xB (fun t L st H => if t ∈ hd then xJ E res N kd_X4_isProductSign t L st H else xW E res N kd_X4_isProductSign xm_X4_isProductSign hd C k t L st H) (REPR E res) C (some 28) vb_X4_isProductSign_24 24 L st H := rfl
theorem xw_X4_isProductSign_28 {E : xE} {res : xR} {N : Nat} {hd : List Nat} {C : xCT} {k : Nat} {L : List Int} {st : List pv} {H : PH} : xW E res N kd_X4_isProductSign xm_X4_isProductSign hd C (k + 1) 28 L st H = xB (fun t L st H => if t ∈ hd then xJ E res N kd_X4_isProductSign t L st H else xW E res N kd_X4_isProductSign xm_X4_isProductSign hd C k t L st H) (REPR E res) C (some 29) vb_X4_isProductSign_28 28 L st H := rfl
theorem xw_X4_isProductSign_29 {E : xE} {res : xR} {N : Nat} {hd : List Nat} {C : xCT} {k : Nat} {L : List Int} {st : List pv} {H : PH} : xW E res N kd_X4_isProductSign xm_X4_isProductSign hd C (k + 1) 29 L st H = xB (fun t L st H => if t ∈ hd then xJ E res N kd_X4_isProductSign t L st H else xW E res N kd_X4_isProductSign xm_X4_isProductSign hd C k t L st H) (REPR E res) C (none) vb_X4_isProductSign_29 29 L st H := rfl
def xm_X12_isIn : List xbT := [(0, vb_X12_isIn_0, some 14), (14, vb_X12_isIn_14, some 15), (15, vb_X12_isIn_15, none)]
theorem xc_X12_isIn : xOK kd_X12_isIn xm_X12_isIn := ⟨ve_X12_isIn_0, ve_X12_isIn_14, ve_X12_isIn_15, trivial⟩
theorem xa_X12_isIn : xm_X12_isIn.all (fun q => aOKb q.2.1 && !q.2.1.isEmpty) = true := by decide +kernel
theorem xw_X12_isIn_0 {E : xE} {res : xR} {N : Nat} {hd : List Nat} {C : xCT} {k : Nat} {L : List Int} {st : List pv} {H : PH} : xW E res N kd_X12_isIn xm_X12_isIn hd C (k + 1) 0 L st H = xB (fun t L st H => if t ∈ hd then xJ E res N kd_X12_isIn t L st H else xW E res N kd_X12_isIn xm_X12_isIn hd C k t L st H) (REPR E res) C (some 14) vb_X12_isIn_0 0 L st H := rfl
theorem xw_X12_isIn_14 {E : xE} {res : xR} {N : Nat} {hd : List Nat} {C : xCT} {k : Nat} {L : List Int} {st : List pv} {H : PH} : xW E res N kd_X12_isIn xm_X12_isIn hd C (k + 1) 14 L st H = xB (fun t L st H => if t ∈ hd then xJ E res N kd_X12_isIn t L st H else xW E res N kd_X12_isIn xm_X12_isIn hd C k t L st H) (REPR E res) C (some 15) vb_X12_isIn_14 14 L st H := rfl
theorem xw_X12_isIn_15 {E : xE} {res : xR} {N : Nat} {hd : List Nat} {C : xCT} {k : Nat} {L : List Int} {st : List pv} {H : PH} : xW E res N kd_X12_isIn xm_X12_isIn hd C (k + 1) 15 L st H = xB (fun t L st H => if t ∈ hd then xJ E res N kd_X12_isIn t L st H else xW E res N kd_X12_isIn xm_X12_isIn hd C k t L st H) (REPR E res) C (none) vb_X12_isIn_15 15 L st H := rfl
def xm_X12_lesser : List xbT := [(0, vb_X12_lesser_0, some 9), (9, vb_X12_lesser_9, some 10), (10, vb_X12_lesser_10, none)]
theorem xc_X12_lesser : xOK kd_X12_lesser xm_X12_lesser := ⟨ve_X12_lesser_0, ve_X12_lesser_9, ve_X12_lesser_10, trivial⟩
theorem xa_X12_lesser : xm_X12_lesser.all (fun q => aOKb q.2.1 && !q.2.1.isEmpty) = true := by decide +kernel
theorem xw_X12_lesser_0 {E : xE} {res : xR} {N : Nat} {hd : List Nat} {C : xCT} {k : Nat} {L : List Int} {st : List pv} {H : PH} : xW E res N kd_X12_lesser xm_X12_lesser hd C (k + 1) 0 L st H = xB (fun t L st H => if t ∈ hd then xJ E res N kd_X12_lesser t L st H else xW E res N kd_X12_lesser xm_X12_lesser hd C k t L st H) (REPR E res) C (some 9) vb_X12_lesser_0 0 L st H := rfl
theorem xw_X12_lesser_9 {E : xE} {res : xR} {N : Nat} {hd : List Nat} {C : xCT} {k : Nat} {L : List Int} {st : List pv} {H : PH} : xW E res N kd_X12_lesser xm_X12_lesser hd C (k + 1) 9 L st H = xB (fun t L st H => if t ∈ hd then xJ E res N kd_X12_lesser t L st H else xW E res N kd_X12_lesser xm_X12_lesser hd C k t L st H) (REPR E res) C (some 10) vb_X12_lesser_9 9 L st H := rfl
theorem xw_X12_lesser_10 {E : xE} {res : xR} {N : Nat} {hd : List Nat} {C : xCT} {k : Nat} {L : List Int} {st : List pv} {H : PH} : xW E res N kd_X12_lesser xm_X12_lesser hd C (k + 1) 10 L st H = xB (fun t L st H => if t ∈ hd then xJ E res N kd_X12_lesser t L st H else xW E res N kd_X12_lesser xm_X12_lesser hd C k t L st H) (REPR E res) C (none) vb_X12_lesser_10 10 L st H := rfl
def xm_X12_most : List xbT := [(0, vb_X12_most_0, some 9), (9, vb_X12_most_9, some 10), (10, vb_X12_most_10, none)]
theorem xc_X12_most : xOK kd_X12_most xm_X12_most := ⟨ve_X12_most_0, ve_X12_most_9, ve_X12_most_10, trivial⟩
theorem xa_X12_most : xm_X12_most.all (fun q => aOKb q.2.1 && !q.2.1.isEmpty) = true := by decide +kernel
theorem xw_X12_most_0 {E : xE} {res : xR} {N : Nat} {hd : List Nat} {C : xCT} {k : Nat} {L : List Int} {st : List pv} {H : PH} : xW E res N kd_X12_most xm_X12_most hd C (k + 1) 0 L st H = xB (fun t L st H => if t ∈ hd then xJ E res N kd_X12_most t L st H else xW E res N kd_X12_most xm_X12_most hd C k t L st H) (REPR E res) C (some 9) vb_X12_most_0 0 L st H := rfl
theorem xw_X12_most_9 {E : xE} {res : xR} {N : Nat} {hd : List Nat} {C : xCT} {k : Nat} {L : List Int} {st : List pv} {H : PH} : xW E res N kd_X12_most xm_X12_most hd C (k + 1) 9 L st H = xB (fun t L st H => if t ∈ hd then xJ E res N kd_X12_most t L st H else xW E res N kd_X12_most xm_X12_most hd C k t L st H) (REPR E res) C (some 10) vb_X12_most_9 9 L st H := rfl
theorem xw_X12_most_10 {E : xE} {res : xR} {N : Nat} {hd : List Nat} {C : xCT} {k : Nat} {L : List Int} {st : List pv} {H : PH} : xW E res N kd_X12_most xm_X12_most hd C (k + 1) 10 L st H = xB (fun t L st H => if t ∈ hd then xJ E res N kd_X12_most t L st H else xW E res N kd_X12_most xm_X12_most hd C k t L st H) (REPR E res) C (none) vb_X12_most_10 10 L st H := rfl
def xm_X12_billAt : List xbT := [(0, vb_X12_billAt_0, none)]
theorem xc_X12_billAt : xOK kd_X12_billAt xm_X12_billAt := ⟨ve_X12_billAt_0, trivial⟩
theorem xa_X12_billAt : xm_X12_billAt.all (fun q => aOKb q.2.1 && !q.2.1.isEmpty) = true := by decide +kernel
theorem xw_X12_billAt_0 {E : xE} {res : xR} {N : Nat} {hd : List Nat} {C : xCT} {k : Nat} {L : List Int} {st : List pv} {H : PH} : xW E res N kd_X12_billAt xm_X12_billAt hd C (k + 1) 0 L st H = xB (fun t L st H => if t ∈ hd then xJ E res N kd_X12_billAt t L st H else xW E res N kd_X12_billAt xm_X12_billAt hd C k t L st H) (REPR E res) C (none) vb_X12_billAt_0 0 L st H := rfl
def xm_X12_lineAt : List xbT := [(0, vb_X12_lineAt_0, none)]
theorem xc_X12_lineAt : xOK kd_X12_lineAt xm_X12_lineAt := ⟨ve_X12_lineAt_0, trivial⟩
theorem xa_X12_lineAt : xm_X12_lineAt.all (fun q => aOKb q.2.1 && !q.2.1.isEmpty) = true := by decide +kernel
theorem xw_X12_lineAt_0 {E : xE} {res : xR} {N : Nat} {hd : List Nat} {C : xCT} {k : Nat} {L : List Int} {st : List pv} {H : PH} : xW E res N kd_X12_lineAt xm_X12_lineAt hd C (k + 1) 0 L st H = xB (fun t L st H => if t ∈ hd then xJ E res N kd_X12_lineAt t L st H else xW E res N kd_X12_lineAt xm_X12_lineAt hd C k t L st H) (REPR E res) C (none) vb_X12_lineAt_0 0 L st H := rfl
def xm_X12_here : List xbT := [(0, vb_X12_here_0, some 27), (27, vb_X12_here_27, some 28), (28, vb_X12_here_28, none)]
theorem xc_X12_here : xOK kd_X12_here xm_X12_here := ⟨ve_X12_here_0, ve_X12_here_27, ve_X12_here_28, trivial⟩
theorem xa_X12_here : xm_X12_here.all (fun q => aOKb q.2.1 && !q.2.1.isEmpty) = true := by decide +kernel
theorem xw_X12_here_0 {E : xE} {res : xR} {N : Nat} {hd : List Nat} {C : xCT} {k : Nat} {L : List Int} {st : List pv} {H : PH} : xW E res N kd_X12_here xm_X12_here hd C (k + 1) 0 L st H = xB (fun t L st H => if t ∈ hd then xJ E res N kd_X12_here t L st H else xW E res N kd_X12_here xm_X12_here hd C k t L st H) (REPR E res) C (some 27) vb_X12_here_0 0 L st H := rfl
theorem xw_X12_here_27 {E : xE} {res : xR} {N : Nat} {hd : List Nat} {C : xCT} {k : Nat} {L : List Int} {st : List pv} {H : PH} : xW E res N kd_X12_here xm_X12_here hd C (k + 1) 27 L st H = xB (fun t L st H => if t ∈ hd then xJ E res N kd_X12_here t L st H else xW E res N kd_X12_here xm_X12_here hd C k t L st H) (REPR E res) C (some 28) vb_X12_here_27 27 L st H := rfl
theorem xw_X12_here_28 {E : xE} {res : xR} {N : Nat} {hd : List Nat} {C : xCT} {k : Nat} {L : List Int} {st : List pv} {H : PH} : xW E res N kd_X12_here xm_X12_here hd C (k + 1) 28 L st H = xB (fun t L st H => if t ∈ hd then xJ E res N kd_X12_here t L st H else xW E res N kd_X12_here xm_X12_here hd C k t L st H) (REPR E res) C (none) vb_X12_here_28 28 L st H := rfl
def xm_X12_isFigure : List xbT := [(0, vb_X12_isFigure_0, some 16), (16, vb_X12_isFigure_16, some 17), (17, vb_X12_isFigure_17, none)]
theorem xc_X12_isFigure : xOK kd_X12_isFigure xm_X12_isFigure := ⟨ve_X12_isFigure_0, ve_X12_isFigure_16, ve_X12_isFigure_17, trivial⟩
theorem xa_X12_isFigure : xm_X12_isFigure.all (fun q => aOKb q.2.1 && !q.2.1.isEmpty) = true := by decide +kernel
theorem xw_X12_isFigure_0 {E : xE} {res : xR} {N : Nat} {hd : List Nat} {C : xCT} {k : Nat} {L : List Int} {st : List pv} {H : PH} : xW E res N kd_X12_isFigure xm_X12_isFigure hd C (k + 1) 0 L st H = xB (fun t L st H => if t ∈ hd then xJ E res N kd_X12_isFigure t L st H else xW E res N kd_X12_isFigure xm_X12_isFigure hd C k t L st H) (REPR E res) C (some 16) vb_X12_isFigure_0 0 L st H := rfl
theorem xw_X12_isFigure_16 {E : xE} {res : xR} {N : Nat} {hd : List Nat} {C : xCT} {k : Nat} {L : List Int} {st : List pv} {H : PH} : xW E res N kd_X12_isFigure xm_X12_isFigure hd C (k + 1) 16 L st H = xB (fun t L st H => if t ∈ hd then xJ E res N kd_X12_isFigure t L st H else xW E res N kd_X12_isFigure xm_X12_isFigure hd C k t L st H) (REPR E res) C (some 17) vb_X12_isFigure_16 16 L st H := rfl
theorem xw_X12_isFigure_17 {E : xE} {res : xR} {N : Nat} {hd : List Nat} {C : xCT} {k : Nat} {L : List Int} {st : List pv} {H : PH} : xW E res N kd_X12_isFigure xm_X12_isFigure hd C (k + 1) 17 L st H = xB (fun t L st H => if t ∈ hd then xJ E res N kd_X12_isFigure t L st H else xW E res N kd_X12_isFigure xm_X12_isFigure hd C k t L st H) (REPR E res) C (none) vb_X12_isFigure_17 17 L st H := rfl
def xm_X12_nameOf : List xbT := [(0, vb_X12_nameOf_0, some 10), (10, vb_X12_nameOf_10, some 20), (20, vb_X12_nameOf_20, some 30), (30, vb_X12_nameOf_30, some 31), (31, vb_X12_nameOf_31, none)]
theorem xc_X12_nameOf : xOK kd_X12_nameOf xm_X12_nameOf := ⟨ve_X12_nameOf_0, ve_X12_nameOf_10, ve_X12_nameOf_20, ve_X12_nameOf_30, ve_X12_nameOf_31, trivial⟩
theorem xa_X12_nameOf : xm_X12_nameOf.all (fun q => aOKb q.2.1 && !q.2.1.isEmpty) = true := by decide +kernel
theorem xw_X12_nameOf_0 {E : xE} {res : xR} {N : Nat} {hd : List Nat} {C : xCT} {k : Nat} {L : List Int} {st : List pv} {H : PH} : xW E res N kd_X12_nameOf xm_X12_nameOf hd C (k + 1) 0 L st H = xB (fun t L st H => if t ∈ hd then xJ E res N kd_X12_nameOf t L st H else xW E res N kd_X12_nameOf xm_X12_nameOf hd C k t L st H) (REPR E res) C (some 10) vb_X12_nameOf_0 0 L st H := rfl
theorem xw_X12_nameOf_10 {E : xE} {res : xR} {N : Nat} {hd : List Nat} {C : xCT} {k : Nat} {L : List Int} {st : List pv} {H : PH} : xW E res N kd_X12_nameOf xm_X12_nameOf hd C (k + 1) 10 L st H = xB (fun t L st H => if t ∈ hd then xJ E res N kd_X12_nameOf t L st H else xW E res N kd_X12_nameOf xm_X12_nameOf hd C k t L st H) (REPR E res) C (some 20) vb_X12_nameOf_10 10 L st H := rfl
theorem xw_X12_nameOf_20 {E : xE} {res : xR} {N : Nat} {hd : List Nat} {C : xCT} {k : Nat} {L : List Int} {st : List pv} {H : PH} : xW E res N kd_X12_nameOf xm_X12_nameOf hd C (k + 1) 20 L st H = xB (fun t L st H => if t ∈ hd then xJ E res N kd_X12_nameOf t L st H else xW E res N kd_X12_nameOf xm_X12_nameOf hd C k t L st H) (REPR E res) C (some 30) vb_X12_nameOf_20 20 L st H := rfl
theorem xw_X12_nameOf_30 {E : xE} {res : xR} {N : Nat} {hd : List Nat} {C : xCT} {k : Nat} {L : List Int} {st : List pv} {H : PH} : xW E res N kd_X12_nameOf xm_X12_nameOf hd C (k + 1) 30 L st H = xB (fun t L st H => if t ∈ hd then xJ E res N kd_X12_nameOf t L st H else xW E res N kd_X12_nameOf xm_X12_nameOf hd C k t L st H) (REPR E res) C (some 31) vb_X12_nameOf_30 30 L st H := rfl
theorem xw_X12_nameOf_31 {E : xE} {res : xR} {N : Nat} {hd : List Nat} {C : xCT} {k : Nat} {L : List Int} {st : List pv} {H : PH} : xW E res N kd_X12_nameOf xm_X12_nameOf hd C (k + 1) 31 L st H = xB (fun t L st H => if t ∈ hd then xJ E res N kd_X12_nameOf t L st H else xW E res N kd_X12_nameOf xm_X12_nameOf hd C k t L st H) (REPR E res) C (none) vb_X12_nameOf_31 31 L st H := rfl
def xm_X1_leavingOut : List xbT := [(0, vb_X1_leavingOut_0, none)]
theorem xc_X1_leavingOut : xOK kd_X1_leavingOut xm_X1_leavingOut := ⟨ve_X1_leavingOut_0, trivial⟩
theorem xa_X1_leavingOut : xm_X1_leavingOut.all (fun q => aOKb q.2.1 && !q.2.1.isEmpty) = true := by decide +kernel
theorem xw_X1_leavingOut_0 {E : xE} {res : xR} {N : Nat} {hd : List Nat} {C : xCT} {k : Nat} {L : List Int} {st : List pv} {H : PH} : xW E res N kd_X1_leavingOut xm_X1_leavingOut hd C (k + 1) 0 L st H = xB (fun t L st H => if t ∈ hd then xJ E res N kd_X1_leavingOut t L st H else xW E res N kd_X1_leavingOut xm_X1_leavingOut hd C k t L st H) (REPR E res) C (none) vb_X1_leavingOut_0 0 L st H := rfl
def xm_X1_chargeEach : List xbT := [(0, vb_X1_chargeEach_0, none)]
theorem xc_X1_chargeEach : xOK kd_X1_chargeEach xm_X1_chargeEach := ⟨ve_X1_chargeEach_0, trivial⟩
theorem xa_X1_chargeEach : xm_X1_chargeEach.all (fun q => aOKb q.2.1 && !q.2.1.isEmpty) = true := by decide +kernel
theorem xw_X1_chargeEach_0 {E : xE} {res : xR} {N : Nat} {hd : List Nat} {C : xCT} {k : Nat} {L : List Int} {st : List pv} {H : PH} : xW E res N kd_X1_chargeEach xm_X1_chargeEach hd C (k + 1) 0 L st H = xB (fun t L st H => if t ∈ hd then xJ E res N kd_X1_chargeEach t L st H else xW E res N kd_X1_chargeEach xm_X1_chargeEach hd C k t L st H) (REPR E res) C (none) vb_X1_chargeEach_0 0 L st H := rfl
def xm_X8_areLike : List xbT := [(0, vb_X8_areLike_0, some 16), (16, vb_X8_areLike_16, some 17), (17, vb_X8_areLike_17, none)]
theorem xc_X8_areLike : xOK kd_X8_areLike xm_X8_areLike := ⟨ve_X8_areLike_0, ve_X8_areLike_16, ve_X8_areLike_17, trivial⟩
theorem xa_X8_areLike : xm_X8_areLike.all (fun q => aOKb q.2.1 && !q.2.1.isEmpty) = true := by decide +kernel
theorem xw_X8_areLike_0 {E : xE} {res : xR} {N : Nat} {hd : List Nat} {C : xCT} {k : Nat} {L : List Int} {st : List pv} {H : PH} : xW E res N kd_X8_areLike xm_X8_areLike hd C (k + 1) 0 L st H = xB (fun t L st H => if t ∈ hd then xJ E res N kd_X8_areLike t L st H else xW E res N kd_X8_areLike xm_X8_areLike hd C k t L st H) (REPR E res) C (some 16) vb_X8_areLike_0 0 L st H := rfl
theorem xw_X8_areLike_16 {E : xE} {res : xR} {N : Nat} {hd : List Nat} {C : xCT} {k : Nat} {L : List Int} {st : List pv} {H : PH} : xW E res N kd_X8_areLike xm_X8_areLike hd C (k + 1) 16 L st H = xB (fun t L st H => if t ∈ hd then xJ E res N kd_X8_areLike t L st H else xW E res N kd_X8_areLike xm_X8_areLike hd C k t L st H) (REPR E res) C (some 17) vb_X8_areLike_16 16 L st H := rfl
theorem xw_X8_areLike_17 {E : xE} {res : xR} {N : Nat} {hd : List Nat} {C : xCT} {k : Nat} {L : List Int} {st : List pv} {H : PH} : xW E res N kd_X8_areLike xm_X8_areLike hd C (k + 1) 17 L st H = xB (fun t L st H => if t ∈ hd then xJ E res N kd_X8_areLike t L st H else xW E res N kd_X8_areLike xm_X8_areLike hd C k t L st H) (REPR E res) C (none) vb_X8_areLike_17 17 L st H := rfl
def szf (m : Int) : Int := qli (qlushr m 48)
def sgf (m i : Int) : Int := q2 (· &&& ·) (qli (qlushr m (zw (i * 6)))) 63
theorem sp_X11_within (v lo hi : Int) (H : PH) : SPEC 145 [(0, v), (0, lo), (0, hi)] H (fun r H' => r = some (0, b01 (lo ≤ v ∧ v ≤ hi)) ∧ H' = H) := by
  intro E n res h
  have h := call_run vm_X11_within h
  have h := xw_top (hd := []) 5 xCC_id xc_X11_within xa_X11_within (t := 0) rfl h
  simp (maxDischargeDepth := 12) -implicitDefEqProofs [vb_X11_within_0, vb_X11_within_14, vb_X11_within_15, xw_X11_within_0, xw_X11_within_14, xw_X11_within_15, zw_lit, xB, xI, i1, j2, k1, jJ, lget, lset, larg, ppush, zw_m1, zw_m2, zw_m3] at h
  repeat' (first | (refine Or.elim h ?_ ?_ <;> clear h <;> intro h) | (refine And.elim ?_ h; clear h; intro _ h))
  all_goals refine ⟨_, _, h, ?_, rfl⟩
  all_goals (first | rfl | (congr 2; unfold b01; (repeat' split) <;> omega))
theorem sp_X12_isIn (v lo hi : Int) (H : PH) : SPEC 156 [(0, v), (0, lo), (0, hi)] H (fun r H' => r = some (0, b01 (lo ≤ v ∧ v ≤ hi)) ∧ H' = H) := by
  intro E n res h
  have h := call_run vm_X12_isIn h
  have h := xw_top (hd := []) 5 xCC_id xc_X12_isIn xa_X12_isIn (t := 0) rfl h
  simp (maxDischargeDepth := 12) -implicitDefEqProofs [vb_X12_isIn_0, vb_X12_isIn_14, vb_X12_isIn_15, xw_X12_isIn_0, xw_X12_isIn_14, xw_X12_isIn_15, zw_lit, xB, xI, i1, j2, k1, jJ, lget, lset, larg, ppush, zw_m1, zw_m2, zw_m3] at h
  repeat' (first | (refine Or.elim h ?_ ?_ <;> clear h <;> intro h) | (refine And.elim ?_ h; clear h; intro _ h))
  all_goals refine ⟨_, _, h, ?_, rfl⟩
  all_goals (first | rfl | (congr 2; unfold b01; (repeat' split) <;> omega))
theorem sp_X8_sizeOf (m : Int) (H : PH) : SPEC 76 [(1, m)] H (fun r H' => r = some (0, szf m) ∧ H' = H) := by
  intro E n res h
  have h := call_run vm_X8_sizeOf h
  have h := xw_top (hd := []) 3 xCC_id xc_X8_sizeOf xa_X8_sizeOf (t := 0) rfl h
  simp (maxDischargeDepth := 12) -implicitDefEqProofs [vb_X8_sizeOf_0, xw_X8_sizeOf_0, zw_lit, xB, xI, i1, j2, k1, jJ, lget, lset, larg, ppush, zw_m1, zw_m2, zw_m3] at h
  repeat' (first | (refine Or.elim h ?_ ?_ <;> clear h <;> intro h) | (refine And.elim ?_ h; clear h; intro _ h))
  all_goals refine ⟨_, _, h, ?_, rfl⟩
  all_goals (unfold szf; exact rfl)
theorem sp_X8_signAt (m i : Int) (H : PH) : SPEC 77 [(1, m), (0, i)] H (fun r H' => r = some (0, sgf m i) ∧ H' = H) := by
  intro E n res h
  have h := call_run vm_X8_signAt h
  have h := xw_top (hd := []) 3 xCC_id xc_X8_signAt xa_X8_signAt (t := 0) rfl h
  simp (maxDischargeDepth := 12) -implicitDefEqProofs [vb_X8_signAt_0, xw_X8_signAt_0, zw_lit, xB, xI, i1, j2, k1, jJ, lget, lset, larg, ppush, zw_m1, zw_m2, zw_m3] at h
  repeat' (first | (refine Or.elim h ?_ ?_ <;> clear h <;> intro h) | (refine And.elim ?_ h; clear h; intro _ h))
  all_goals refine ⟨_, _, h, ?_, rfl⟩
  all_goals (unfold sgf; exact rfl)
theorem sp_X8_octetOf (c : Int) (H : PH) : SPEC 74 [(0, c)] H (fun r H' => r = some (0, if c = 37 then 46 else if c ≤ 26 then zw (zw (c - 1) + 65) else zw (zw (c - 27) + 48)) ∧ H' = H) := by
  intro E n res h
  have h := call_run vm_X8_octetOf h
  have h := xw_top (hd := []) 6 xCC_id xc_X8_octetOf xa_X8_octetOf (t := 0) rfl h
  simp (maxDischargeDepth := 12) -implicitDefEqProofs [vb_X8_octetOf_0, vb_X8_octetOf_9, vb_X8_octetOf_24, vb_X8_octetOf_31, xw_X8_octetOf_0, xw_X8_octetOf_9, xw_X8_octetOf_24, xw_X8_octetOf_31, zw_lit, xB, xI, i1, j2, k1, jJ, lget, lset, larg, ppush, zw_m1, zw_m2, zw_m3] at h
  repeat' (first | (refine Or.elim h ?_ ?_ <;> clear h <;> intro h) | (refine And.elim ?_ h; clear h; intro _ h))
  all_goals refine ⟨_, _, h, ?_, rfl⟩
  all_goals (first | rfl | (congr 2; (repeat' split) <;> first | rfl | omega))
theorem sp_X12_lesser (a b : Int) (H : PH) : SPEC 191 [(0, a), (0, b)] H (fun r H' => r = some (0, if a < b then a else b) ∧ H' = H) := by
  intro E n res h
  have h := call_run vm_X12_lesser h
  have h := xw_top (hd := []) 5 xCC_id xc_X12_lesser xa_X12_lesser (t := 0) rfl h
  simp (maxDischargeDepth := 12) -implicitDefEqProofs [vb_X12_lesser_0, vb_X12_lesser_9, vb_X12_lesser_10, xw_X12_lesser_0, xw_X12_lesser_9, xw_X12_lesser_10, zw_lit, xB, xI, i1, j2, k1, jJ, lget, lset, larg, ppush, zw_m1, zw_m2, zw_m3] at h
  repeat' (first | (refine Or.elim h ?_ ?_ <;> clear h <;> intro h) | (refine And.elim ?_ h; clear h; intro _ h))
  all_goals refine ⟨_, _, h, ?_, rfl⟩
  all_goals (first | rfl | (congr 2; (repeat' split) <;> first | rfl | omega))
theorem sp_X12_most (a b : Int) (H : PH) : SPEC 192 [(0, a), (0, b)] H (fun r H' => r = some (0, if b < a then a else b) ∧ H' = H) := by
  intro E n res h
  have h := call_run vm_X12_most h
  have h := xw_top (hd := []) 5 xCC_id xc_X12_most xa_X12_most (t := 0) rfl h
  simp (maxDischargeDepth := 12) -implicitDefEqProofs [vb_X12_most_0, vb_X12_most_9, vb_X12_most_10, xw_X12_most_0, xw_X12_most_9, xw_X12_most_10, zw_lit, xB, xI, i1, j2, k1, jJ, lget, lset, larg, ppush, zw_m1, zw_m2, zw_m3] at h
  repeat' (first | (refine Or.elim h ?_ ?_ <;> clear h <;> intro h) | (refine And.elim ?_ h; clear h; intro _ h))
  all_goals refine ⟨_, _, h, ?_, rfl⟩
  all_goals (first | rfl | (congr 2; (repeat' split) <;> first | rfl | omega))
theorem sp_X12_billAt (b : Int) (H : PH) : SPEC 174 [(0, b)] H (fun r H' => r = some (0, zw (92 + zw (26 * b))) ∧ H' = H) := by
  intro E n res h
  have h := call_run vm_X12_billAt h
  have h := xw_top (hd := []) 3 xCC_id xc_X12_billAt xa_X12_billAt (t := 0) rfl h
  simp (maxDischargeDepth := 12) -implicitDefEqProofs [vb_X12_billAt_0, xw_X12_billAt_0, zw_lit, xB, xI, i1, j2, k1, jJ, lget, lset, larg, ppush, zw_m1, zw_m2, zw_m3] at h
  repeat' (first | (refine Or.elim h ?_ ?_ <;> clear h <;> intro h) | (refine And.elim ?_ h; clear h; intro _ h))
  all_goals refine ⟨_, _, h, ?_, rfl⟩
  all_goals (first | rfl | (congr 2; (repeat' split) <;> first | rfl | omega))
theorem sp_X12_lineAt (b : Int) (H : PH) : SPEC 175 [(0, b)] H (fun r H' => r = some (0, zw (404 + zw (12 * b))) ∧ H' = H) := by
  intro E n res h
  have h := call_run vm_X12_lineAt h
  have h := xw_top (hd := []) 3 xCC_id xc_X12_lineAt xa_X12_lineAt (t := 0) rfl h
  simp (maxDischargeDepth := 12) -implicitDefEqProofs [vb_X12_lineAt_0, xw_X12_lineAt_0, zw_lit, xB, xI, i1, j2, k1, jJ, lget, lset, larg, ppush, zw_m1, zw_m2, zw_m3] at h
  repeat' (first | (refine Or.elim h ?_ ?_ <;> clear h <;> intro h) | (refine And.elim ?_ h; clear h; intro _ h))
  all_goals refine ⟨_, _, h, ?_, rfl⟩
  all_goals (first | rfl | (congr 2; (repeat' split) <;> first | rfl | omega))
