abbrev xbT : Type := Nat × List VE × Option Nat
def xOK (cd : zK) : List xbT → Prop
  | [] => True
  | b :: t => zget cd b.1 = b.2.1.map vq ++ vrest cd b.2.2 ∧ xOK cd t
/-! ===== regions: what lies between the places where a run is looked at ===== -/
def bq : List xbT → Nat → Option (List VE × Option Nat)
  | [], _ => none
  | q :: r, t => if q.1 = t then some q.2 else bq r t
theorem bq_ok {cd : zK} {t : Nat} {b : List VE} {nx : Option Nat} : ∀ {B : List xbT}, xOK cd B → B.all (fun q => aOKb q.2.1 && !q.2.1.isEmpty) = true → bq B t = some (b, nx) → zget cd t = b.map vq ++ vrest cd nx ∧ (aOKb b && !b.isEmpty) = true
  | [], _, _, h => by cases h
  | q :: r, hB, ha, h => by
    rw [List.all_cons, Bool.and_eq_true] at ha
    unfold bq at h
    split at h
    · rename_i e
      have h := Option.some.inj h
      subst e
      have h1 := hB.1
      have h2 := ha.1
      rw [h] at h1 h2
      exact ⟨h1, h2⟩
    · exact bq_ok hB.2 ha.2 h
abbrev xCT : Type := Nat → List pv → PH → (Option pv → PH → Prop) → Prop
def xW (E : xE) (res : xR) (N : Nat) (cd : zK) (B : List xbT) (hd : List Nat) (C : xCT) : Nat → Nat → List Int → List pv → PH → Prop
  | 0, t, L, st, H => xJ E res N cd t L st H
  | k + 1, t, L, st, H => match bq B t with
    | some b => xB (fun t L st H => if t ∈ hd then xJ E res N cd t L st H else xW E res N cd B hd C k t L st H) (REPR E res) C b.2 b.1 t L st H
    | none => xJ E res N cd t L st H
def xCC (E : xE) (N : Nat) (C : xCT) : Prop := ∀ mj as H K, xC E N mj as H K → C mj as H K
theorem xCC_id {E : xE} {N : Nat} : xCC E N (xC E N) := fun _ _ _ _ h => h
theorem x_blkG {E : xE} {res : xR} {N : Nat} {cd : zK} {nx : Option Nat} {J : Nat → List Int → List pv → PH → Prop} {C : xCT} (hC : xCC E N C) (hJ : ∀ m t L st H, m < N → RUN E res m cd (zget cd t) t L st H → J t L st H) : ∀ (b : List VE) (n pc : Nat) (L : List Int) (st : List pv) (H : PH), aOKb b = true → n < N → RUN E res n cd (b.map vq ++ vrest cd nx) pc L st H → xB J (REPR E res) C nx b pc L st H
  | [], n, pc, L, st, H, _, hn, h => by
    cases nx with
    | none =>
      obtain ⟨d, ls, h0, -, -, -, -, hr⟩ := h
      cases n with
      | zero => cases hr
      | succ n => cases hr
    | some t =>
      intro e
      subst e
      exact hJ n _ _ _ _ hn h
  | e :: t, n, pc, L, st, H, ha, hn, h => by
    obtain ⟨a1, a2⟩ := aOKb_1 ha
    exact (x_step e.2.1 (J := J) (Q := REPR E res) (C := C) (k := xB J (REPR E res) C nx t e.2.2.1) ⟨fun m hm L st H q => x_blkG hC hJ t m e.2.2.1 L st H a2 (by omega) q, fun m hm t L st H q => hJ m t L st H (by omega) q, fun r H q => q, fun m hm mj as H K q => by
      obtain ⟨res1, q1, q2⟩ := q
      exact hC _ _ _ _ ⟨m, res1, by omega, q1, q2⟩⟩ a1 h).2
theorem x_blkH {E : xE} {res : xR} {n : Nat} {cd : zK} {t : Nat} {nx : Option Nat} {J : Nat → List Int → List pv → PH → Prop} {C : xCT} (hC : xCC E n C) (hJ : ∀ m t L st H, m < n → RUN E res m cd (zget cd t) t L st H → J t L st H) {L : List Int} {st : List pv} {H : PH} (b : List VE) (hb : zget cd t = b.map vq ++ vrest cd nx) (ha : (aOKb b && !b.isEmpty) = true) (h : RUN E res n cd (zget cd t) t L st H) : xB J (REPR E res) C nx b t L st H := by
  rw [hb] at h
  rw [Bool.and_eq_true] at ha
  cases b with
  | nil => cases ha.2
  | cons e b =>
    obtain ⟨a1, a2⟩ := aOKb_1 ha.1
    exact (x_step e.2.1 (J := J) (Q := REPR E res) (C := C) (k := xB J (REPR E res) C nx b e.2.2.1) ⟨fun m hm L st H q => x_blkG hC hJ b m e.2.2.1 L st H a2 hm q, fun m hm t L st H q => hJ m t L st H hm q, fun r H q => q, fun m hm mj as H K q => by
      obtain ⟨res1, q1, q2⟩ := q
      exact hC _ _ _ _ ⟨m, res1, hm, q1, q2⟩⟩ a1 h).2
theorem RUN_up {E : xE} {res : xR} {cd : zK} {B : List xbT} {hd : List Nat} {C : xCT} {N : Nat} (hC : xCC E N C) (hB : xOK cd B) (ha : B.all (fun q => aOKb q.2.1 && !q.2.1.isEmpty) = true) : ∀ (k n t : Nat) (L : List Int) (st : List pv) (H : PH), n < N → RUN E res n cd (zget cd t) t L st H → xW E res N cd B hd C k t L st H
  | 0, n, t, L, st, H, hn, h => ⟨n, hn, h⟩
  | k + 1, n, t, L, st, H, hn, h => by
    unfold xW
    cases hq : bq B t with
    | none => exact ⟨n, hn, h⟩
    | some b =>
      obtain ⟨b1, b2⟩ := bq_ok hB ha hq
      rw [Bool.and_eq_true] at b2
      rw [b1] at h
      refine x_blkG hC (fun m t L st H hm q => ?_) b.1 n t L st H b2.1 hn h
      show if t ∈ hd then _ else _
      split
      · exact ⟨m, hm, q⟩
      · exact RUN_up hC hB ha k m t L st H hm q
theorem xw_top {E : xE} {res : xR} {cd : zK} {B : List xbT} {hd : List Nat} {C : xCT} {n : Nat} (k : Nat) (hC : xCC E n C) (hB : xOK cd B) (ha : B.all (fun q => aOKb q.2.1 && !q.2.1.isEmpty) = true) {t : Nat} {L : List Int} {st : List pv} {H : PH} {b : List VE} {nx : Option Nat} (hq : bq B t = some (b, nx)) (h : RUN E res n cd (zget cd t) t L st H) : xB (fun t L st H => if t ∈ hd then xJ E res n cd t L st H else xW E res n cd B hd C k t L st H) (REPR E res) C nx b t L st H := by
  obtain ⟨b1, b2⟩ := bq_ok hB ha hq
  refine x_blkH hC (fun m t L st H hm q => ?_) b b1 b2 h
  show if t ∈ hd then _ else _
  split
  · exact ⟨m, hm, q⟩
  · exact RUN_up hC hB ha k m t L st H hm q
def xb1 (p : Prop) [Decidable p] : Int := if p then 1 else 0
theorem xb1_0 {p : Prop} [Decidable p] : (xb1 p = 0 ↔ ¬ p) := by
  unfold xb1
  split <;> simp_all
theorem xb1_t {p : Prop} [Decidable p] (h : p) : xb1 p = 1 := if_pos h
theorem xb1_f {p : Prop} [Decidable p] (h : ¬ p) : xb1 p = 0 := if_neg h
/-- as many locals as there are -/
def xpd : Nat → List Int → List Int
  | 0, L => L
  | n + 1, [] => 0 :: xpd n []
  | n + 1, a :: t => a :: xpd n t
theorem xlg_xpd : ∀ (n i : Nat) (L : List Int), xlg (xpd n L) i = xlg L i
  | 0, _, _ => rfl
  | n + 1, 0, [] => rfl
  | n + 1, i + 1, [] => by
    show xlg (xpd n []) i = xlg [] (i + 1)
    rw [xlg_xpd n i [], xlg_nil, xlg_nil]
  | n + 1, 0, _ :: _ => rfl
  | n + 1, i + 1, _ :: t => xlg_xpd n i t
theorem call_runP (N : Nat) {E : xE} {res : xR} {n mj : Nat} {as : List pv} {H : PH} {oc : Nat} {ini : Bool} {cc : ByteArray} {maxL : Nat} {rt : Option FieldType} {cd : zK} (hm : zget zM mj = some ((mj, oc, ini, cc, maxL, rt), cd)) (h : CALL E res n mj as H) : RUN E res n cd (zget cd 0) 0 (xpd N (xla as)) [] H := by
  obtain ⟨d, ls, h0, a1, a2, a3, a4, a5⟩ := call_run hm h
  exact ⟨d, ls, h0, a1, a2, fun q hq => by rw [xlg_xpd]; exact a3 q hq, a4, a5⟩
theorem mn_a {a b : Int} : (if a < b then a else b) = min a b := by omega
theorem mn_b {a b : Int} : (if a < b then b else a) = max a b := by omega
theorem mn_c {a b : Int} : (if b ≤ a then b else a) = min a b := by omega
theorem mn_d {a b : Int} : (if b ≤ a then a else b) = max a b := by omega
/-! unfoldings, each with its own proof -/
section XU
variable {J : Nat → List Int → List pv → PH → Prop} {Q : Option pv → PH → Prop} {C : Nat → List pv → PH → (Option pv → PH → Prop) → Prop} {p npc a1 a2 : Nat} {L : List Int} {st : List pv} {H : PH} {k : List Int → List pv → PH → Prop} {nx : Option Nat} {pc t : Nat} {b : List VE}
theorem xI_0 : xI J Q C p 0 npc a1 a2 L st H k = (k L ((2, xlg L a1) :: st) H) := Eq.trans rfl rfl
theorem xI_1 : xI J Q C p 1 npc a1 a2 L st H k = (k L ((0, xlg L a1) :: st) H) := Eq.trans rfl rfl
theorem xI_2 : xI J Q C p 2 npc a1 a2 L st H k = (k L ((1, xlg L a1) :: st) H) := Eq.trans rfl rfl
theorem xI_3 : xI J Q C p 3 npc a1 a2 L st H k = (i1 st (fun x r => k (xls L a1 x) r H)) := Eq.trans rfl rfl
theorem xI_4 : xI J Q C p 4 npc a1 a2 L st H k = (i1 st (fun x r => k (xls L a1 x) r H)) := Eq.trans rfl rfl
theorem xI_5 : xI J Q C p 5 npc a1 a2 L st H k = (i1 st (fun x r => k (xls L a1 x) r H)) := Eq.trans rfl rfl
theorem xI_6 : xI J Q C p 6 npc a1 a2 L st H k = (k (xls L a1 (zw (xlg L a1 + (a2 : Int)))) st H) := Eq.trans rfl rfl
theorem xI_7 : xI J Q C p 7 npc a1 a2 L st H k = (k L ((0, zw (a1 : Int)) :: st) H) := Eq.trans rfl rfl
theorem xI_8 : xI J Q C p 8 npc a1 a2 L st H k = (k L ((0, zw (a1 : Int)) :: st) H) := Eq.trans rfl rfl
theorem xI_9 : xI J Q C p 9 npc a1 a2 L st H k = (k L ((0, zw (a1 : Int)) :: st) H) := Eq.trans rfl rfl
theorem xI_10 : xI J Q C p 10 npc a1 a2 L st H k = (k L ((0, zw (a1 : Int)) :: st) H) := Eq.trans rfl rfl
theorem xI_11 : xI J Q C p 11 npc a1 a2 L st H k = (k L ((0, zw (a1 : Int)) :: st) H) := Eq.trans rfl rfl
theorem xI_12 : xI J Q C p 12 npc a1 a2 L st H k = (k L ((1, (a1 : Int)) :: st) H) := Eq.trans rfl rfl
theorem xI_13 : xI J Q C p 13 npc a1 a2 L st H k = (k L ((1, (a1 : Int)) :: st) H) := Eq.trans rfl rfl
theorem xI_14 : xI J Q C p 14 npc a1 a2 L st H k = (j2 st (fun x y r => k L ((0, zw (x + y)) :: r) H)) := Eq.trans rfl rfl
theorem xI_15 : xI J Q C p 15 npc a1 a2 L st H k = (j2 st (fun x y r => k L ((0, zw (x - y)) :: r) H)) := Eq.trans rfl rfl
theorem xI_16 : xI J Q C p 16 npc a1 a2 L st H k = (j2 st (fun x y r => k L ((0, zw (x * y)) :: r) H)) := Eq.trans rfl rfl
theorem xI_17 : xI J Q C p 17 npc a1 a2 L st H k = (j2 st (fun x y r => k L ((0, q2 (· / ·) x y) :: r) H)) := Eq.trans rfl rfl
theorem xI_18 : xI J Q C p 18 npc a1 a2 L st H k = (j2 st (fun x y r => k L ((0, q2 (fun x y => x - x / y * y) x y) :: r) H)) := Eq.trans rfl rfl
theorem xI_19 : xI J Q C p 19 npc a1 a2 L st H k = (j2 st (fun x y r => k L ((0, q2 (· &&& ·) x y) :: r) H)) := Eq.trans rfl rfl
theorem xI_20 : xI J Q C p 20 npc a1 a2 L st H k = (j2 st (fun x y r => k L ((0, q2 (· ||| ·) x y) :: r) H)) := Eq.trans rfl rfl
theorem xI_21 : xI J Q C p 21 npc a1 a2 L st H k = (j2 st (fun x y r => k L ((0, q2 (· ^^^ ·) x y) :: r) H)) := Eq.trans rfl rfl
theorem xI_22 : xI J Q C p 22 npc a1 a2 L st H k = (j2 st (fun x y r => k L ((0, q2 (fun x y => x <<< (y &&& 31)) x y) :: r) H)) := Eq.trans rfl rfl
theorem xI_23 : xI J Q C p 23 npc a1 a2 L st H k = (j2 st (fun x y r => k L ((0, q2 (fun x y => x >>> (y &&& 31)) x y) :: r) H)) := Eq.trans rfl rfl
theorem xI_24 : xI J Q C p 24 npc a1 a2 L st H k = (j2 st (fun x y r => k L ((0, q2 (fun x y => (x.toUInt32 >>> (y.toUInt32 &&& Int32.toUInt32 31)).toInt32) x y) :: r) H)) := Eq.trans rfl rfl
theorem xI_25 : xI J Q C p 25 npc a1 a2 L st H k = (i1 st (fun x r => k L ((0, q1 (fun x => -x) x) :: r) H)) := Eq.trans rfl rfl
theorem xI_26 : xI J Q C p 26 npc a1 a2 L st H k = (i1 st (fun x r => k L ((0, q1 (fun x => x.toInt8.toInt32) x) :: r) H)) := Eq.trans rfl rfl
theorem xI_27 : xI J Q C p 27 npc a1 a2 L st H k = (i1 st (fun x r => k L ((1, qil x) :: r) H)) := Eq.trans rfl rfl
theorem xI_28 : xI J Q C p 28 npc a1 a2 L st H k = (i1 st (fun x r => k L ((0, qli x) :: r) H)) := Eq.trans rfl rfl
theorem xI_29 : xI J Q C p 29 npc a1 a2 L st H k = (j2 st (fun x y r => k L ((1, qladd x y) :: r) H)) := Eq.trans rfl rfl
theorem xI_30 : xI J Q C p 30 npc a1 a2 L st H k = (j2 st (fun x y r => k L ((1, qlshl x y) :: r) H)) := Eq.trans rfl rfl
theorem xI_31 : xI J Q C p 31 npc a1 a2 L st H k = (j2 st (fun x y r => k L ((1, qlushr x y) :: r) H)) := Eq.trans rfl rfl
theorem xI_32 : xI J Q C p 32 npc a1 a2 L st H k = (j2 st (fun x y r => k L ((0, qlcmp x y) :: r) H)) := Eq.trans rfl rfl
theorem xI_33 : xI J Q C p 33 npc a1 a2 L st H k = (k1 st (fun v r => k L (v :: v :: r) H)) := Eq.trans rfl rfl
theorem xI_34 : xI J Q C p 34 npc a1 a2 L st H k = (k1 st (fun w r => k1 r (fun v r => k L (w :: v :: w :: v :: r) H))) := Eq.trans rfl rfl
theorem xI_35 : xI J Q C p 35 npc a1 a2 L st H k = (k1 st (fun v r => k L r H)) := Eq.trans rfl rfl
theorem xI_36 : xI J Q C p 36 npc a1 a2 L st H k = (jJ a1 npc (J a1 L st H) (k L st H)) := Eq.trans rfl rfl
theorem xI_37 : xI J Q C p 37 npc a1 a2 L st H k = (i1 st (fun x r => (x = 0 ∧ jJ a1 npc (J a1 L r H) (k L r H)) ∨ (¬ x = 0 ∧ k L r H))) := Eq.trans rfl rfl
theorem xI_38 : xI J Q C p 38 npc a1 a2 L st H k = (i1 st (fun x r => (¬ x = 0 ∧ jJ a1 npc (J a1 L r H) (k L r H)) ∨ (x = 0 ∧ k L r H))) := Eq.trans rfl rfl
theorem xI_39 : xI J Q C p 39 npc a1 a2 L st H k = (i1 st (fun x r => (x < 0 ∧ jJ a1 npc (J a1 L r H) (k L r H)) ∨ (0 ≤ x ∧ k L r H))) := Eq.trans rfl rfl
theorem xI_40 : xI J Q C p 40 npc a1 a2 L st H k = (i1 st (fun x r => (0 ≤ x ∧ jJ a1 npc (J a1 L r H) (k L r H)) ∨ (x < 0 ∧ k L r H))) := Eq.trans rfl rfl
theorem xI_41 : xI J Q C p 41 npc a1 a2 L st H k = (i1 st (fun x r => (0 < x ∧ jJ a1 npc (J a1 L r H) (k L r H)) ∨ (x ≤ 0 ∧ k L r H))) := Eq.trans rfl rfl
theorem xI_42 : xI J Q C p 42 npc a1 a2 L st H k = (i1 st (fun x r => (x ≤ 0 ∧ jJ a1 npc (J a1 L r H) (k L r H)) ∨ (0 < x ∧ k L r H))) := Eq.trans rfl rfl
theorem xI_43 : xI J Q C p 43 npc a1 a2 L st H k = (j2 st (fun x y r => (x = y ∧ jJ a1 npc (J a1 L r H) (k L r H)) ∨ (¬ x = y ∧ k L r H))) := Eq.trans rfl rfl
theorem xI_44 : xI J Q C p 44 npc a1 a2 L st H k = (j2 st (fun x y r => (¬ x = y ∧ jJ a1 npc (J a1 L r H) (k L r H)) ∨ (x = y ∧ k L r H))) := Eq.trans rfl rfl
theorem xI_45 : xI J Q C p 45 npc a1 a2 L st H k = (j2 st (fun x y r => (x < y ∧ jJ a1 npc (J a1 L r H) (k L r H)) ∨ (y ≤ x ∧ k L r H))) := Eq.trans rfl rfl
theorem xI_46 : xI J Q C p 46 npc a1 a2 L st H k = (j2 st (fun x y r => (y ≤ x ∧ jJ a1 npc (J a1 L r H) (k L r H)) ∨ (x < y ∧ k L r H))) := Eq.trans rfl rfl
theorem xI_47 : xI J Q C p 47 npc a1 a2 L st H k = (j2 st (fun x y r => (y < x ∧ jJ a1 npc (J a1 L r H) (k L r H)) ∨ (x ≤ y ∧ k L r H))) := Eq.trans rfl rfl
theorem xI_48 : xI J Q C p 48 npc a1 a2 L st H k = (j2 st (fun x y r => (x ≤ y ∧ jJ a1 npc (J a1 L r H) (k L r H)) ∨ (y < x ∧ k L r H))) := Eq.trans rfl rfl
theorem xI_49 : xI J Q C p 49 npc a1 a2 L st H k = (gfOK a1 a2 = true → i1 st (fun x r => k L ((ztg a1 a2, gv H x a2) :: r) H)) := Eq.trans rfl rfl
theorem xI_50 : xI J Q C p 50 npc a1 a2 L st H k = (pfOK a1 a2 = true → i1 st (fun x r => i1 r (fun c r => k L r (pup H c ((a2 % 64 : Nat) : Int) x)))) := Eq.trans rfl rfl
theorem xI_51 : xI J Q C p 51 npc a1 a2 L st H k = (j2 st (fun c i r => 0 ≤ c → k L ((0, H c i) :: r) H)) := Eq.trans rfl rfl
theorem xI_52 : xI J Q C p 52 npc a1 a2 L st H k = (i1 st (fun x r => j2 r (fun c i r => k L r (pup H c i x)))) := Eq.trans rfl rfl
theorem xI_53 : xI J Q C p 53 npc a1 a2 L st H k = (j2 st (fun c i r => k L ((2, gv H c i) :: r) H)) := Eq.trans rfl rfl
theorem xI_54 : xI J Q C p 54 npc a1 a2 L st H k = (i1 st (fun x r => 0 ≤ x → k L ((0, ((zSh x.toNat).2.1 : Int)) :: r) H)) := Eq.trans rfl rfl
theorem xI_55 : xI J Q C p 55 npc a1 a2 L st H k = (j2 st (fun x y r => k L ((0, if x < y then y else x) :: r) H)) := Eq.trans rfl rfl
theorem xI_56 : xI J Q C p 56 npc a1 a2 L st H k = (j2 st (fun x y r => k L ((0, if y < x then y else x) :: r) H)) := Eq.trans rfl rfl
theorem xI_57 : xI J Q C p 57 npc a1 a2 L st H k = (j2 st (fun c i r => k L ((0, H c i) :: r) H)) := Eq.trans rfl rfl
theorem xI_58 : xI J Q C p 58 npc a1 a2 L st H k = (i1 st (fun x r => j2 r (fun c i r => k L r (pup H c i (qb (zSh c.toNat).1 x))))) := Eq.trans rfl rfl
theorem xI_59 : xI J Q C p 59 npc a1 a2 L st H k = (i1 st (fun x r => j2 r (fun c i r => zrtL c.toNat = [] → k L r (pup H c i x)))) := Eq.trans rfl rfl
theorem xI_66 : xI J Q C p 66 npc a1 a2 L st H k = (i1 st (fun x r => k L ((0, if 0 ≤ x then x else zw (0 - x)) :: r) H)) := Eq.trans rfl rfl
theorem xI_100 : xI J Q C p 100 npc a1 a2 L st H k = (i1 st (fun x r => ∃ t, ptsw p 205 0 9 #[56, 75, 83, 104, 123, 134, 145, 156, 175, 186] x = some t ∧ jJ t npc (J t L r H) (k L r H))) := Eq.trans rfl rfl
theorem xI_101 : xI J Q C p 101 npc a1 a2 L st H k = (i1 st (fun x r => ∃ t, ptl p (Op.lookupswitch.offset (#[(99, 38), (111, 36), (115, 34)] : Array (Int × Int)).toList 40 x) = some t ∧ jJ t npc (J t L r H) (k L r H))) := Eq.trans rfl rfl
theorem xI_102 : xI J Q C p 102 npc a1 a2 L st H k = (i1 st (fun x r => ∃ t, ptl p (Op.lookupswitch.offset (#[(42, 59), (43, 51), (45, 55), (47, 63), (60, 75)] : Array (Int × Int)).toList 81 x) = some t ∧ jJ t npc (J t L r H) (k L r H))) := Eq.trans rfl rfl
theorem xI_103 : xI J Q C p 103 npc a1 a2 L st H k = (i1 st (fun x r => ∃ t, ptsw p 189 0 13 #[72, 80, 88, 99, 107, 115, 123, 131, 136, 144, 153, 163, 173, 181] x = some t ∧ jJ t npc (J t L r H) (k L r H))) := Eq.trans rfl rfl
theorem xI_104 : xI J Q C p 104 npc a1 a2 L st H k = (i1 st (fun x r => ∃ t, ptsw p 63 0 4 #[35, 40, 45, 53, 58] x = some t ∧ jJ t npc (J t L r H) (k L r H))) := Eq.trans rfl rfl
theorem xI_105 : xI J Q C p 105 npc a1 a2 L st H k = (i1 st (fun x r => ∃ t, ptsw p 54 0 3 #[31, 36, 41, 46] x = some t ∧ jJ t npc (J t L r H) (k L r H))) := Eq.trans rfl rfl
theorem xI_106 : xI J Q C p 106 npc a1 a2 L st H k = (i1 st (fun x r => ∃ t, ptsw p 85 0 4 #[35, 45, 55, 65, 75] x = some t ∧ jJ t npc (J t L r H) (k L r H))) := Eq.trans rfl rfl
theorem xI_107 : xI J Q C p 107 npc a1 a2 L st H k = (i1 st (fun x r => ∃ t, ptsw p 141 0 8 #[49, 59, 69, 79, 92, 102, 112, 122, 132] x = some t ∧ jJ t npc (J t L r H) (k L r H))) := Eq.trans rfl rfl
theorem xI_108 : xI J Q C p 108 npc a1 a2 L st H k = (i1 st (fun x r => ∃ t, ptsw p 79 0 5 #[39, 39, 49, 49, 61, 70] x = some t ∧ jJ t npc (J t L r H) (k L r H))) := Eq.trans rfl rfl
theorem xI_109 : xI J Q C p 109 npc a1 a2 L st H k = (i1 st (fun x r => ∃ t, ptl p (Op.lookupswitch.offset (#[(42, 59), (43, 51), (45, 55), (47, 63), (60, 75)] : Array (Int × Int)).toList 86 x) = some t ∧ jJ t npc (J t L r H) (k L r H))) := Eq.trans rfl rfl
theorem xI_110 : xI J Q C p 110 npc a1 a2 L st H k = (i1 st (fun x r => ∃ t, ptsw p 168 0 13 #[71, 78, 85, 92, 101, 108, 115, 122, 127, 132, 138, 145, 152, 160] x = some t ∧ jJ t npc (J t L r H) (k L r H))) := Eq.trans rfl rfl
theorem xI_111 : xI J Q C p 111 npc a1 a2 L st H k = (i1 st (fun x r => ∃ t, ptsw p 85 0 4 #[36, 46, 56, 65, 75] x = some t ∧ jJ t npc (J t L r H) (k L r H))) := Eq.trans rfl rfl
theorem xI_112 : xI J Q C p 112 npc a1 a2 L st H k = (i1 st (fun x r => ∃ t, ptsw p 68 0 3 #[32, 41, 50, 59] x = some t ∧ jJ t npc (J t L r H) (k L r H))) := Eq.trans rfl rfl
theorem xI_113 : xI J Q C p 113 npc a1 a2 L st H k = (i1 st (fun x r => ∃ t, ptsw p 122 0 7 #[47, 54, 61, 68, 74, 91, 108, 115] x = some t ∧ jJ t npc (J t L r H) (k L r H))) := Eq.trans rfl rfl
theorem xI_60 : xI J Q C p 60 npc a1 a2 L st H k = (a1 = 511 ∨ C a1 (st.take (a2 % 16)).reverse H (fun r H2 => k L (ppush r (st.drop (a2 % 16))) H2)) := Eq.trans rfl rfl
theorem xI_61 : xI J Q C p 61 npc a1 a2 L st H k = (a1 = 511 ∨ C a1 (st.take (a2 % 16)).reverse H (fun r H2 => k L (ppush r (st.drop (a2 % 16))) H2)) := Eq.trans rfl rfl
theorem xI_62 : xI J Q C p 62 npc a1 a2 L st H k = (k1 st (fun v _ => Q (some v) H)) := Eq.trans rfl rfl
theorem xI_63 : xI J Q C p 63 npc a1 a2 L st H k = (k1 st (fun v _ => Q (some v) H)) := Eq.trans rfl rfl
theorem xI_64 : xI J Q C p 64 npc a1 a2 L st H k = (k1 st (fun v _ => Q (some v) H)) := Eq.trans rfl rfl
theorem xI_65 : xI J Q C p 65 npc a1 a2 L st H k = (Q none H) := Eq.trans rfl rfl
theorem xB_c {op : Nat} : xB J Q C nx ((p, op, npc, a1, a2) :: b) pc L st H = xI J Q C p op npc a1 a2 L st H (xB J Q C nx b npc) := Eq.trans rfl rfl
theorem xB_s : xB J Q C (some t) [] pc L st H = (t = pc → J t L st H) := Eq.trans rfl rfl
theorem xB_n : xB J Q C none [] pc L st H = False := Eq.trans rfl rfl
theorem i1_c {a : Nat} {x : Int} {r : List pv} {kk : Int → List pv → Prop} : i1 ((a, x) :: r) kk = kk x r := Eq.trans rfl rfl
theorem k1_c {v : pv} {r : List pv} {kk : pv → List pv → Prop} : k1 (v :: r) kk = kk v r := Eq.trans rfl rfl
theorem j2_c {a b : Nat} {x y : Int} {r : List pv} {kk : Int → Int → List pv → Prop} : j2 ((a, y) :: (b, x) :: r) kk = kk x y r := Eq.trans rfl rfl
theorem jJ_e {A B : Prop} {a : Nat} : jJ a npc A B = (if a = npc then B else A) := Eq.trans rfl rfl
end XU
theorem gf_1_10 : gfOK 1 10 = true := by decide +kernel
theorem gf_1_11 : gfOK 1 11 = true := by decide +kernel
theorem gf_1_12 : gfOK 1 12 = true := by decide +kernel
theorem gf_5_2 : gfOK 5 2 = true := by decide +kernel
theorem gf_8_0 : gfOK 8 0 = true := by decide +kernel
theorem gf_10_0 : gfOK 10 0 = true := by decide +kernel
theorem gf_10_1 : gfOK 10 1 = true := by decide +kernel
theorem gf_10_2 : gfOK 10 2 = true := by decide +kernel
theorem gf_12_3 : gfOK 12 3 = true := by decide +kernel
theorem gf_12_4 : gfOK 12 4 = true := by decide +kernel
theorem gf_12_5 : gfOK 12 5 = true := by decide +kernel
def xm_X11_within : List xbT := [(0, vb_X11_within_0, some 14), (14, vb_X11_within_14, some 15), (15, vb_X11_within_15, none)]
theorem xc_X11_within : xOK kd_X11_within xm_X11_within := ⟨ve_X11_within_0, ve_X11_within_14, ve_X11_within_15, trivial⟩
theorem xa_X11_within : xm_X11_within.all (fun q => aOKb q.2.1 && !q.2.1.isEmpty) = true := by decide +kernel
theorem xw_X11_within_0 {E : xE} {res : xR} {N : Nat} {hd : List Nat} {C : xCT} {k : Nat} {L : List Int} {st : List pv} {H : PH} : xW E res N kd_X11_within xm_X11_within hd C (k + 1) 0 L st H = xB (fun t L st H => if t ∈ hd then xJ E res N kd_X11_within t L st H else xW E res N kd_X11_within xm_X11_within hd C k t L st H) (REPR E res) C (some 14) vb_X11_within_0 0 L st H := Eq.trans rfl rfl
theorem xw_X11_within_14 {E : xE} {res : xR} {N : Nat} {hd : List Nat} {C : xCT} {k : Nat} {L : List Int} {st : List pv} {H : PH} : xW E res N kd_X11_within xm_X11_within hd C (k + 1) 14 L st H = xB (fun t L st H => if t ∈ hd then xJ E res N kd_X11_within t L st H else xW E res N kd_X11_within xm_X11_within hd C k t L st H) (REPR E res) C (some 15) vb_X11_within_14 14 L st H := Eq.trans rfl rfl
theorem xw_X11_within_15 {E : xE} {res : xR} {N : Nat} {hd : List Nat} {C : xCT} {k : Nat} {L : List Int} {st : List pv} {H : PH} : xW E res N kd_X11_within xm_X11_within hd C (k + 1) 15 L st H = xB (fun t L st H => if t ∈ hd then xJ E res N kd_X11_within t L st H else xW E res N kd_X11_within xm_X11_within hd C k t L st H) (REPR E res) C (none) vb_X11_within_15 15 L st H := Eq.trans rfl rfl
def xm_X8_sizeOf : List xbT := [(0, vb_X8_sizeOf_0, none)]
theorem xc_X8_sizeOf : xOK kd_X8_sizeOf xm_X8_sizeOf := ⟨ve_X8_sizeOf_0, trivial⟩
theorem xa_X8_sizeOf : xm_X8_sizeOf.all (fun q => aOKb q.2.1 && !q.2.1.isEmpty) = true := by decide +kernel
theorem xw_X8_sizeOf_0 {E : xE} {res : xR} {N : Nat} {hd : List Nat} {C : xCT} {k : Nat} {L : List Int} {st : List pv} {H : PH} : xW E res N kd_X8_sizeOf xm_X8_sizeOf hd C (k + 1) 0 L st H = xB (fun t L st H => if t ∈ hd then xJ E res N kd_X8_sizeOf t L st H else xW E res N kd_X8_sizeOf xm_X8_sizeOf hd C k t L st H) (REPR E res) C (none) vb_X8_sizeOf_0 0 L st H := Eq.trans rfl rfl
def xm_X8_signAt : List xbT := [(0, vb_X8_signAt_0, none)]
theorem xc_X8_signAt : xOK kd_X8_signAt xm_X8_signAt := ⟨ve_X8_signAt_0, trivial⟩
theorem xa_X8_signAt : xm_X8_signAt.all (fun q => aOKb q.2.1 && !q.2.1.isEmpty) = true := by decide +kernel
theorem xw_X8_signAt_0 {E : xE} {res : xR} {N : Nat} {hd : List Nat} {C : xCT} {k : Nat} {L : List Int} {st : List pv} {H : PH} : xW E res N kd_X8_signAt xm_X8_signAt hd C (k + 1) 0 L st H = xB (fun t L st H => if t ∈ hd then xJ E res N kd_X8_signAt t L st H else xW E res N kd_X8_signAt xm_X8_signAt hd C k t L st H) (REPR E res) C (none) vb_X8_signAt_0 0 L st H := Eq.trans rfl rfl
def xm_X8_octetOf : List xbT := [(0, vb_X8_octetOf_0, some 9), (9, vb_X8_octetOf_9, some 24), (24, vb_X8_octetOf_24, some 31), (31, vb_X8_octetOf_31, none)]
theorem xc_X8_octetOf : xOK kd_X8_octetOf xm_X8_octetOf := ⟨ve_X8_octetOf_0, ve_X8_octetOf_9, ve_X8_octetOf_24, ve_X8_octetOf_31, trivial⟩
theorem xa_X8_octetOf : xm_X8_octetOf.all (fun q => aOKb q.2.1 && !q.2.1.isEmpty) = true := by decide +kernel
theorem xw_X8_octetOf_0 {E : xE} {res : xR} {N : Nat} {hd : List Nat} {C : xCT} {k : Nat} {L : List Int} {st : List pv} {H : PH} : xW E res N kd_X8_octetOf xm_X8_octetOf hd C (k + 1) 0 L st H = xB (fun t L st H => if t ∈ hd then xJ E res N kd_X8_octetOf t L st H else xW E res N kd_X8_octetOf xm_X8_octetOf hd C k t L st H) (REPR E res) C (some 9) vb_X8_octetOf_0 0 L st H := Eq.trans rfl rfl
theorem xw_X8_octetOf_9 {E : xE} {res : xR} {N : Nat} {hd : List Nat} {C : xCT} {k : Nat} {L : List Int} {st : List pv} {H : PH} : xW E res N kd_X8_octetOf xm_X8_octetOf hd C (k + 1) 9 L st H = xB (fun t L st H => if t ∈ hd then xJ E res N kd_X8_octetOf t L st H else xW E res N kd_X8_octetOf xm_X8_octetOf hd C k t L st H) (REPR E res) C (some 24) vb_X8_octetOf_9 9 L st H := Eq.trans rfl rfl
theorem xw_X8_octetOf_24 {E : xE} {res : xR} {N : Nat} {hd : List Nat} {C : xCT} {k : Nat} {L : List Int} {st : List pv} {H : PH} : xW E res N kd_X8_octetOf xm_X8_octetOf hd C (k + 1) 24 L st H = xB (fun t L st H => if t ∈ hd then xJ E res N kd_X8_octetOf t L st H else xW E res N kd_X8_octetOf xm_X8_octetOf hd C k t L st H) (REPR E res) C (some 31) vb_X8_octetOf_24 24 L st H := Eq.trans rfl rfl
theorem xw_X8_octetOf_31 {E : xE} {res : xR} {N : Nat} {hd : List Nat} {C : xCT} {k : Nat} {L : List Int} {st : List pv} {H : PH} : xW E res N kd_X8_octetOf xm_X8_octetOf hd C (k + 1) 31 L st H = xB (fun t L st H => if t ∈ hd then xJ E res N kd_X8_octetOf t L st H else xW E res N kd_X8_octetOf xm_X8_octetOf hd C k t L st H) (REPR E res) C (none) vb_X8_octetOf_31 31 L st H := Eq.trans rfl rfl
def xm_X10_next : List xbT := [(0, vb_X10_next_0, some 23), (23, vb_X10_next_23, some 24), (24, vb_X10_next_24, none)]
theorem xc_X10_next : xOK kd_X10_next xm_X10_next := ⟨ve_X10_next_0, ve_X10_next_23, ve_X10_next_24, trivial⟩
theorem xa_X10_next : xm_X10_next.all (fun q => aOKb q.2.1 && !q.2.1.isEmpty) = true := by decide +kernel
theorem xw_X10_next_0 {E : xE} {res : xR} {N : Nat} {hd : List Nat} {C : xCT} {k : Nat} {L : List Int} {st : List pv} {H : PH} : xW E res N kd_X10_next xm_X10_next hd C (k + 1) 0 L st H = xB (fun t L st H => if t ∈ hd then xJ E res N kd_X10_next t L st H else xW E res N kd_X10_next xm_X10_next hd C k t L st H) (REPR E res) C (some 23) vb_X10_next_0 0 L st H := Eq.trans rfl rfl
theorem xw_X10_next_23 {E : xE} {res : xR} {N : Nat} {hd : List Nat} {C : xCT} {k : Nat} {L : List Int} {st : List pv} {H : PH} : xW E res N kd_X10_next xm_X10_next hd C (k + 1) 23 L st H = xB (fun t L st H => if t ∈ hd then xJ E res N kd_X10_next t L st H else xW E res N kd_X10_next xm_X10_next hd C k t L st H) (REPR E res) C (some 24) vb_X10_next_23 23 L st H := Eq.trans rfl rfl
theorem xw_X10_next_24 {E : xE} {res : xR} {N : Nat} {hd : List Nat} {C : xCT} {k : Nat} {L : List Int} {st : List pv} {H : PH} : xW E res N kd_X10_next xm_X10_next hd C (k + 1) 24 L st H = xB (fun t L st H => if t ∈ hd then xJ E res N kd_X10_next t L st H else xW E res N kd_X10_next xm_X10_next hd C k t L st H) (REPR E res) C (none) vb_X10_next_24 24 L st H := Eq.trans rfl rfl
def xm_X10_isDigit : List xbT := [(0, vb_X10_isDigit_0, some 16), (16, vb_X10_isDigit_16, some 17), (17, vb_X10_isDigit_17, none)]
theorem xc_X10_isDigit : xOK kd_X10_isDigit xm_X10_isDigit := ⟨ve_X10_isDigit_0, ve_X10_isDigit_16, ve_X10_isDigit_17, trivial⟩
theorem xa_X10_isDigit : xm_X10_isDigit.all (fun q => aOKb q.2.1 && !q.2.1.isEmpty) = true := by decide +kernel
theorem xw_X10_isDigit_0 {E : xE} {res : xR} {N : Nat} {hd : List Nat} {C : xCT} {k : Nat} {L : List Int} {st : List pv} {H : PH} : xW E res N kd_X10_isDigit xm_X10_isDigit hd C (k + 1) 0 L st H = xB (fun t L st H => if t ∈ hd then xJ E res N kd_X10_isDigit t L st H else xW E res N kd_X10_isDigit xm_X10_isDigit hd C k t L st H) (REPR E res) C (some 16) vb_X10_isDigit_0 0 L st H := Eq.trans rfl rfl
theorem xw_X10_isDigit_16 {E : xE} {res : xR} {N : Nat} {hd : List Nat} {C : xCT} {k : Nat} {L : List Int} {st : List pv} {H : PH} : xW E res N kd_X10_isDigit xm_X10_isDigit hd C (k + 1) 16 L st H = xB (fun t L st H => if t ∈ hd then xJ E res N kd_X10_isDigit t L st H else xW E res N kd_X10_isDigit xm_X10_isDigit hd C k t L st H) (REPR E res) C (some 17) vb_X10_isDigit_16 16 L st H := Eq.trans rfl rfl
theorem xw_X10_isDigit_17 {E : xE} {res : xR} {N : Nat} {hd : List Nat} {C : xCT} {k : Nat} {L : List Int} {st : List pv} {H : PH} : xW E res N kd_X10_isDigit xm_X10_isDigit hd C (k + 1) 17 L st H = xB (fun t L st H => if t ∈ hd then xJ E res N kd_X10_isDigit t L st H else xW E res N kd_X10_isDigit xm_X10_isDigit hd C k t L st H) (REPR E res) C (none) vb_X10_isDigit_17 17 L st H := Eq.trans rfl rfl
def xm_X4_isSumSign : List xbT := [(0, vb_X4_isSumSign_0, some 12), (12, vb_X4_isSumSign_12, some 16), (16, vb_X4_isSumSign_16, some 17), (17, vb_X4_isSumSign_17, none)]
theorem xc_X4_isSumSign : xOK kd_X4_isSumSign xm_X4_isSumSign := ⟨ve_X4_isSumSign_0, ve_X4_isSumSign_12, ve_X4_isSumSign_16, ve_X4_isSumSign_17, trivial⟩
theorem xa_X4_isSumSign : xm_X4_isSumSign.all (fun q => aOKb q.2.1 && !q.2.1.isEmpty) = true := by decide +kernel
theorem xw_X4_isSumSign_0 {E : xE} {res : xR} {N : Nat} {hd : List Nat} {C : xCT} {k : Nat} {L : List Int} {st : List pv} {H : PH} : xW E res N kd_X4_isSumSign xm_X4_isSumSign hd C (k + 1) 0 L st H = xB (fun t L st H => if t ∈ hd then xJ E res N kd_X4_isSumSign t L st H else xW E res N kd_X4_isSumSign xm_X4_isSumSign hd C k t L st H) (REPR E res) C (some 12) vb_X4_isSumSign_0 0 L st H := Eq.trans rfl rfl
theorem xw_X4_isSumSign_12 {E : xE} {res : xR} {N : Nat} {hd : List Nat} {C : xCT} {k : Nat} {L : List Int} {st : List pv} {H : PH} : xW E res N kd_X4_isSumSign xm_X4_isSumSign hd C (k + 1) 12 L st H = xB (fun t L st H => if t ∈ hd then xJ E res N kd_X4_isSumSign t L st H else xW E res N kd_X4_isSumSign xm_X4_isSumSign hd C k t L st H) (REPR E res) C (some 16) vb_X4_isSumSign_12 12 L st H := Eq.trans rfl rfl
theorem xw_X4_isSumSign_16 {E : xE} {res : xR} {N : Nat} {hd : List Nat} {C : xCT} {k : Nat} {L : List Int} {st : List pv} {H : PH} : xW E res N kd_X4_isSumSign xm_X4_isSumSign hd C (k + 1) 16 L st H = xB (fun t L st H => if t ∈ hd then xJ E res N kd_X4_isSumSign t L st H else xW E res N kd_X4_isSumSign xm_X4_isSumSign hd C k t L st H) (REPR E res) C (some 17) vb_X4_isSumSign_16 16 L st H := Eq.trans rfl rfl
theorem xw_X4_isSumSign_17 {E : xE} {res : xR} {N : Nat} {hd : List Nat} {C : xCT} {k : Nat} {L : List Int} {st : List pv} {H : PH} : xW E res N kd_X4_isSumSign xm_X4_isSumSign hd C (k + 1) 17 L st H = xB (fun t L st H => if t ∈ hd then xJ E res N kd_X4_isSumSign t L st H else xW E res N kd_X4_isSumSign xm_X4_isSumSign hd C k t L st H) (REPR E res) C (none) vb_X4_isSumSign_17 17 L st H := Eq.trans rfl rfl
def xm_X4_isProductSign : List xbT := [(0, vb_X4_isProductSign_0, some 24), (24, vb_X4_isProductSign_24, some 28), (28, vb_X4_isProductSign_28, some 29), (29, vb_X4_isProductSign_29, none)]
theorem xc_X4_isProductSign : xOK kd_X4_isProductSign xm_X4_isProductSign := ⟨ve_X4_isProductSign_0, ve_X4_isProductSign_24, ve_X4_isProductSign_28, ve_X4_isProductSign_29, trivial⟩
theorem xa_X4_isProductSign : xm_X4_isProductSign.all (fun q => aOKb q.2.1 && !q.2.1.isEmpty) = true := by decide +kernel
theorem xw_X4_isProductSign_0 {E : xE} {res : xR} {N : Nat} {hd : List Nat} {C : xCT} {k : Nat} {L : List Int} {st : List pv} {H : PH} : xW E res N kd_X4_isProductSign xm_X4_isProductSign hd C (k + 1) 0 L st H = xB (fun t L st H => if t ∈ hd then xJ E res N kd_X4_isProductSign t L st H else xW E res N kd_X4_isProductSign xm_X4_isProductSign hd C k t L st H) (REPR E res) C (some 24) vb_X4_isProductSign_0 0 L st H := Eq.trans rfl rfl
theorem xw_X4_isProductSign_24 {E : xE} {res : xR} {N : Nat} {hd : List Nat} {C : xCT} {k : Nat} {L : List Int} {st : List pv} {H : PH} : xW E res N kd_X4_isProductSign xm_X4_isProductSign hd C (k + 1) 24 L st H = xB (fun t L st H => if t ∈ hd then xJ E res N kd_X4_isProductSign t L st H else xW E res N kd_X4_isProductSign xm_X4_isProductSign hd C k t L st H) (REPR E res) C (some 28) vb_X4_isProductSign_24 24 L st H := Eq.trans rfl rfl
theorem xw_X4_isProductSign_28 {E : xE} {res : xR} {N : Nat} {hd : List Nat} {C : xCT} {k : Nat} {L : List Int} {st : List pv} {H : PH} : xW E res N kd_X4_isProductSign xm_X4_isProductSign hd C (k + 1) 28 L st H = xB (fun t L st H => if t ∈ hd then xJ E res N kd_X4_isProductSign t L st H else xW E res N kd_X4_isProductSign xm_X4_isProductSign hd C k t L st H) (REPR E res) C (some 29) vb_X4_isProductSign_28 28 L st H := Eq.trans rfl rfl
theorem xw_X4_isProductSign_29 {E : xE} {res : xR} {N : Nat} {hd : List Nat} {C : xCT} {k : Nat} {L : List Int} {st : List pv} {H : PH} : xW E res N kd_X4_isProductSign xm_X4_isProductSign hd C (k + 1) 29 L st H = xB (fun t L st H => if t ∈ hd then xJ E res N kd_X4_isProductSign t L st H else xW E res N kd_X4_isProductSign xm_X4_isProductSign hd C k t L st H) (REPR E res) C (none) vb_X4_isProductSign_29 29 L st H := Eq.trans rfl rfl
def xm_X12_isIn : List xbT := [(0, vb_X12_isIn_0, some 14), (14, vb_X12_isIn_14, some 15), (15, vb_X12_isIn_15, none)]
theorem xc_X12_isIn : xOK kd_X12_isIn xm_X12_isIn := ⟨ve_X12_isIn_0, ve_X12_isIn_14, ve_X12_isIn_15, trivial⟩
theorem xa_X12_isIn : xm_X12_isIn.all (fun q => aOKb q.2.1 && !q.2.1.isEmpty) = true := by decide +kernel
theorem xw_X12_isIn_0 {E : xE} {res : xR} {N : Nat} {hd : List Nat} {C : xCT} {k : Nat} {L : List Int} {st : List pv} {H : PH} : xW E res N kd_X12_isIn xm_X12_isIn hd C (k + 1) 0 L st H = xB (fun t L st H => if t ∈ hd then xJ E res N kd_X12_isIn t L st H else xW E res N kd_X12_isIn xm_X12_isIn hd C k t L st H) (REPR E res) C (some 14) vb_X12_isIn_0 0 L st H := Eq.trans rfl rfl
theorem xw_X12_isIn_14 {E : xE} {res : xR} {N : Nat} {hd : List Nat} {C : xCT} {k : Nat} {L : List Int} {st : List pv} {H : PH} : xW E res N kd_X12_isIn xm_X12_isIn hd C (k + 1) 14 L st H = xB (fun t L st H => if t ∈ hd then xJ E res N kd_X12_isIn t L st H else xW E res N kd_X12_isIn xm_X12_isIn hd C k t L st H) (REPR E res) C (some 15) vb_X12_isIn_14 14 L st H := Eq.trans rfl rfl
theorem xw_X12_isIn_15 {E : xE} {res : xR} {N : Nat} {hd : List Nat} {C : xCT} {k : Nat} {L : List Int} {st : List pv} {H : PH} : xW E res N kd_X12_isIn xm_X12_isIn hd C (k + 1) 15 L st H = xB (fun t L st H => if t ∈ hd then xJ E res N kd_X12_isIn t L st H else xW E res N kd_X12_isIn xm_X12_isIn hd C k t L st H) (REPR E res) C (none) vb_X12_isIn_15 15 L st H := Eq.trans rfl rfl
def xm_X12_lesser : List xbT := [(0, vb_X12_lesser_0, some 9), (9, vb_X12_lesser_9, some 10), (10, vb_X12_lesser_10, none)]
theorem xc_X12_lesser : xOK kd_X12_lesser xm_X12_lesser := ⟨ve_X12_lesser_0, ve_X12_lesser_9, ve_X12_lesser_10, trivial⟩
theorem xa_X12_lesser : xm_X12_lesser.all (fun q => aOKb q.2.1 && !q.2.1.isEmpty) = true := by decide +kernel
theorem xw_X12_lesser_0 {E : xE} {res : xR} {N : Nat} {hd : List Nat} {C : xCT} {k : Nat} {L : List Int} {st : List pv} {H : PH} : xW E res N kd_X12_lesser xm_X12_lesser hd C (k + 1) 0 L st H = xB (fun t L st H => if t ∈ hd then xJ E res N kd_X12_lesser t L st H else xW E res N kd_X12_lesser xm_X12_lesser hd C k t L st H) (REPR E res) C (some 9) vb_X12_lesser_0 0 L st H := Eq.trans rfl rfl
theorem xw_X12_lesser_9 {E : xE} {res : xR} {N : Nat} {hd : List Nat} {C : xCT} {k : Nat} {L : List Int} {st : List pv} {H : PH} : xW E res N kd_X12_lesser xm_X12_lesser hd C (k + 1) 9 L st H = xB (fun t L st H => if t ∈ hd then xJ E res N kd_X12_lesser t L st H else xW E res N kd_X12_lesser xm_X12_lesser hd C k t L st H) (REPR E res) C (some 10) vb_X12_lesser_9 9 L st H := Eq.trans rfl rfl
theorem xw_X12_lesser_10 {E : xE} {res : xR} {N : Nat} {hd : List Nat} {C : xCT} {k : Nat} {L : List Int} {st : List pv} {H : PH} : xW E res N kd_X12_lesser xm_X12_lesser hd C (k + 1) 10 L st H = xB (fun t L st H => if t ∈ hd then xJ E res N kd_X12_lesser t L st H else xW E res N kd_X12_lesser xm_X12_lesser hd C k t L st H) (REPR E res) C (none) vb_X12_lesser_10 10 L st H := Eq.trans rfl rfl
def xm_X12_most : List xbT := [(0, vb_X12_most_0, some 9), (9, vb_X12_most_9, some 10), (10, vb_X12_most_10, none)]
theorem xc_X12_most : xOK kd_X12_most xm_X12_most := ⟨ve_X12_most_0, ve_X12_most_9, ve_X12_most_10, trivial⟩
theorem xa_X12_most : xm_X12_most.all (fun q => aOKb q.2.1 && !q.2.1.isEmpty) = true := by decide +kernel
theorem xw_X12_most_0 {E : xE} {res : xR} {N : Nat} {hd : List Nat} {C : xCT} {k : Nat} {L : List Int} {st : List pv} {H : PH} : xW E res N kd_X12_most xm_X12_most hd C (k + 1) 0 L st H = xB (fun t L st H => if t ∈ hd then xJ E res N kd_X12_most t L st H else xW E res N kd_X12_most xm_X12_most hd C k t L st H) (REPR E res) C (some 9) vb_X12_most_0 0 L st H := Eq.trans rfl rfl
theorem xw_X12_most_9 {E : xE} {res : xR} {N : Nat} {hd : List Nat} {C : xCT} {k : Nat} {L : List Int} {st : List pv} {H : PH} : xW E res N kd_X12_most xm_X12_most hd C (k + 1) 9 L st H = xB (fun t L st H => if t ∈ hd then xJ E res N kd_X12_most t L st H else xW E res N kd_X12_most xm_X12_most hd C k t L st H) (REPR E res) C (some 10) vb_X12_most_9 9 L st H := Eq.trans rfl rfl
theorem xw_X12_most_10 {E : xE} {res : xR} {N : Nat} {hd : List Nat} {C : xCT} {k : Nat} {L : List Int} {st : List pv} {H : PH} : xW E res N kd_X12_most xm_X12_most hd C (k + 1) 10 L st H = xB (fun t L st H => if t ∈ hd then xJ E res N kd_X12_most t L st H else xW E res N kd_X12_most xm_X12_most hd C k t L st H) (REPR E res) C (none) vb_X12_most_10 10 L st H := Eq.trans rfl rfl
def xm_X12_billAt : List xbT := [(0, vb_X12_billAt_0, none)]
theorem xc_X12_billAt : xOK kd_X12_billAt xm_X12_billAt := ⟨ve_X12_billAt_0, trivial⟩
theorem xa_X12_billAt : xm_X12_billAt.all (fun q => aOKb q.2.1 && !q.2.1.isEmpty) = true := by decide +kernel
theorem xw_X12_billAt_0 {E : xE} {res : xR} {N : Nat} {hd : List Nat} {C : xCT} {k : Nat} {L : List Int} {st : List pv} {H : PH} : xW E res N kd_X12_billAt xm_X12_billAt hd C (k + 1) 0 L st H = xB (fun t L st H => if t ∈ hd then xJ E res N kd_X12_billAt t L st H else xW E res N kd_X12_billAt xm_X12_billAt hd C k t L st H) (REPR E res) C (none) vb_X12_billAt_0 0 L st H := Eq.trans rfl rfl
def xm_X12_lineAt : List xbT := [(0, vb_X12_lineAt_0, none)]
theorem xc_X12_lineAt : xOK kd_X12_lineAt xm_X12_lineAt := ⟨ve_X12_lineAt_0, trivial⟩
theorem xa_X12_lineAt : xm_X12_lineAt.all (fun q => aOKb q.2.1 && !q.2.1.isEmpty) = true := by decide +kernel
theorem xw_X12_lineAt_0 {E : xE} {res : xR} {N : Nat} {hd : List Nat} {C : xCT} {k : Nat} {L : List Int} {st : List pv} {H : PH} : xW E res N kd_X12_lineAt xm_X12_lineAt hd C (k + 1) 0 L st H = xB (fun t L st H => if t ∈ hd then xJ E res N kd_X12_lineAt t L st H else xW E res N kd_X12_lineAt xm_X12_lineAt hd C k t L st H) (REPR E res) C (none) vb_X12_lineAt_0 0 L st H := Eq.trans rfl rfl
def xm_X12_here : List xbT := [(0, vb_X12_here_0, some 27), (27, vb_X12_here_27, some 28), (28, vb_X12_here_28, none)]
theorem xc_X12_here : xOK kd_X12_here xm_X12_here := ⟨ve_X12_here_0, ve_X12_here_27, ve_X12_here_28, trivial⟩
theorem xa_X12_here : xm_X12_here.all (fun q => aOKb q.2.1 && !q.2.1.isEmpty) = true := by decide +kernel
theorem xw_X12_here_0 {E : xE} {res : xR} {N : Nat} {hd : List Nat} {C : xCT} {k : Nat} {L : List Int} {st : List pv} {H : PH} : xW E res N kd_X12_here xm_X12_here hd C (k + 1) 0 L st H = xB (fun t L st H => if t ∈ hd then xJ E res N kd_X12_here t L st H else xW E res N kd_X12_here xm_X12_here hd C k t L st H) (REPR E res) C (some 27) vb_X12_here_0 0 L st H := Eq.trans rfl rfl
theorem xw_X12_here_27 {E : xE} {res : xR} {N : Nat} {hd : List Nat} {C : xCT} {k : Nat} {L : List Int} {st : List pv} {H : PH} : xW E res N kd_X12_here xm_X12_here hd C (k + 1) 27 L st H = xB (fun t L st H => if t ∈ hd then xJ E res N kd_X12_here t L st H else xW E res N kd_X12_here xm_X12_here hd C k t L st H) (REPR E res) C (some 28) vb_X12_here_27 27 L st H := Eq.trans rfl rfl
theorem xw_X12_here_28 {E : xE} {res : xR} {N : Nat} {hd : List Nat} {C : xCT} {k : Nat} {L : List Int} {st : List pv} {H : PH} : xW E res N kd_X12_here xm_X12_here hd C (k + 1) 28 L st H = xB (fun t L st H => if t ∈ hd then xJ E res N kd_X12_here t L st H else xW E res N kd_X12_here xm_X12_here hd C k t L st H) (REPR E res) C (none) vb_X12_here_28 28 L st H := Eq.trans rfl rfl
def xm_X12_isFigure : List xbT := [(0, vb_X12_isFigure_0, some 16), (16, vb_X12_isFigure_16, some 17), (17, vb_X12_isFigure_17, none)]
theorem xc_X12_isFigure : xOK kd_X12_isFigure xm_X12_isFigure := ⟨ve_X12_isFigure_0, ve_X12_isFigure_16, ve_X12_isFigure_17, trivial⟩
theorem xa_X12_isFigure : xm_X12_isFigure.all (fun q => aOKb q.2.1 && !q.2.1.isEmpty) = true := by decide +kernel
theorem xw_X12_isFigure_0 {E : xE} {res : xR} {N : Nat} {hd : List Nat} {C : xCT} {k : Nat} {L : List Int} {st : List pv} {H : PH} : xW E res N kd_X12_isFigure xm_X12_isFigure hd C (k + 1) 0 L st H = xB (fun t L st H => if t ∈ hd then xJ E res N kd_X12_isFigure t L st H else xW E res N kd_X12_isFigure xm_X12_isFigure hd C k t L st H) (REPR E res) C (some 16) vb_X12_isFigure_0 0 L st H := Eq.trans rfl rfl
theorem xw_X12_isFigure_16 {E : xE} {res : xR} {N : Nat} {hd : List Nat} {C : xCT} {k : Nat} {L : List Int} {st : List pv} {H : PH} : xW E res N kd_X12_isFigure xm_X12_isFigure hd C (k + 1) 16 L st H = xB (fun t L st H => if t ∈ hd then xJ E res N kd_X12_isFigure t L st H else xW E res N kd_X12_isFigure xm_X12_isFigure hd C k t L st H) (REPR E res) C (some 17) vb_X12_isFigure_16 16 L st H := Eq.trans rfl rfl
theorem xw_X12_isFigure_17 {E : xE} {res : xR} {N : Nat} {hd : List Nat} {C : xCT} {k : Nat} {L : List Int} {st : List pv} {H : PH} : xW E res N kd_X12_isFigure xm_X12_isFigure hd C (k + 1) 17 L st H = xB (fun t L st H => if t ∈ hd then xJ E res N kd_X12_isFigure t L st H else xW E res N kd_X12_isFigure xm_X12_isFigure hd C k t L st H) (REPR E res) C (none) vb_X12_isFigure_17 17 L st H := Eq.trans rfl rfl
def xm_X12_nameOf : List xbT := [(0, vb_X12_nameOf_0, some 10), (10, vb_X12_nameOf_10, some 20), (20, vb_X12_nameOf_20, some 30), (30, vb_X12_nameOf_30, some 31), (31, vb_X12_nameOf_31, none)]
theorem xc_X12_nameOf : xOK kd_X12_nameOf xm_X12_nameOf := ⟨ve_X12_nameOf_0, ve_X12_nameOf_10, ve_X12_nameOf_20, ve_X12_nameOf_30, ve_X12_nameOf_31, trivial⟩
theorem xa_X12_nameOf : xm_X12_nameOf.all (fun q => aOKb q.2.1 && !q.2.1.isEmpty) = true := by decide +kernel
theorem xw_X12_nameOf_0 {E : xE} {res : xR} {N : Nat} {hd : List Nat} {C : xCT} {k : Nat} {L : List Int} {st : List pv} {H : PH} : xW E res N kd_X12_nameOf xm_X12_nameOf hd C (k + 1) 0 L st H = xB (fun t L st H => if t ∈ hd then xJ E res N kd_X12_nameOf t L st H else xW E res N kd_X12_nameOf xm_X12_nameOf hd C k t L st H) (REPR E res) C (some 10) vb_X12_nameOf_0 0 L st H := Eq.trans rfl rfl
theorem xw_X12_nameOf_10 {E : xE} {res : xR} {N : Nat} {hd : List Nat} {C : xCT} {k : Nat} {L : List Int} {st : List pv} {H : PH} : xW E res N kd_X12_nameOf xm_X12_nameOf hd C (k + 1) 10 L st H = xB (fun t L st H => if t ∈ hd then xJ E res N kd_X12_nameOf t L st H else xW E res N kd_X12_nameOf xm_X12_nameOf hd C k t L st H) (REPR E res) C (some 20) vb_X12_nameOf_10 10 L st H := Eq.trans rfl rfl
theorem xw_X12_nameOf_20 {E : xE} {res : xR} {N : Nat} {hd : List Nat} {C : xCT} {k : Nat} {L : List Int} {st : List pv} {H : PH} : xW E res N kd_X12_nameOf xm_X12_nameOf hd C (k + 1) 20 L st H = xB (fun t L st H => if t ∈ hd then xJ E res N kd_X12_nameOf t L st H else xW E res N kd_X12_nameOf xm_X12_nameOf hd C k t L st H) (REPR E res) C (some 30) vb_X12_nameOf_20 20 L st H := Eq.trans rfl rfl
theorem xw_X12_nameOf_30 {E : xE} {res : xR} {N : Nat} {hd : List Nat} {C : xCT} {k : Nat} {L : List Int} {st : List pv} {H : PH} : xW E res N kd_X12_nameOf xm_X12_nameOf hd C (k + 1) 30 L st H = xB (fun t L st H => if t ∈ hd then xJ E res N kd_X12_nameOf t L st H else xW E res N kd_X12_nameOf xm_X12_nameOf hd C k t L st H) (REPR E res) C (some 31) vb_X12_nameOf_30 30 L st H := Eq.trans rfl rfl
theorem xw_X12_nameOf_31 {E : xE} {res : xR} {N : Nat} {hd : List Nat} {C : xCT} {k : Nat} {L : List Int} {st : List pv} {H : PH} : xW E res N kd_X12_nameOf xm_X12_nameOf hd C (k + 1) 31 L st H = xB (fun t L st H => if t ∈ hd then xJ E res N kd_X12_nameOf t L st H else xW E res N kd_X12_nameOf xm_X12_nameOf hd C k t L st H) (REPR E res) C (none) vb_X12_nameOf_31 31 L st H := Eq.trans rfl rfl
def xm_X1_leavingOut : List xbT := [(0, vb_X1_leavingOut_0, none)]
theorem xc_X1_leavingOut : xOK kd_X1_leavingOut xm_X1_leavingOut := ⟨ve_X1_leavingOut_0, trivial⟩
theorem xa_X1_leavingOut : xm_X1_leavingOut.all (fun q => aOKb q.2.1 && !q.2.1.isEmpty) = true := by decide +kernel
theorem xw_X1_leavingOut_0 {E : xE} {res : xR} {N : Nat} {hd : List Nat} {C : xCT} {k : Nat} {L : List Int} {st : List pv} {H : PH} : xW E res N kd_X1_leavingOut xm_X1_leavingOut hd C (k + 1) 0 L st H = xB (fun t L st H => if t ∈ hd then xJ E res N kd_X1_leavingOut t L st H else xW E res N kd_X1_leavingOut xm_X1_leavingOut hd C k t L st H) (REPR E res) C (none) vb_X1_leavingOut_0 0 L st H := Eq.trans rfl rfl
def xm_X1_chargeEach : List xbT := [(0, vb_X1_chargeEach_0, none)]
theorem xc_X1_chargeEach : xOK kd_X1_chargeEach xm_X1_chargeEach := ⟨ve_X1_chargeEach_0, trivial⟩
theorem xa_X1_chargeEach : xm_X1_chargeEach.all (fun q => aOKb q.2.1 && !q.2.1.isEmpty) = true := by decide +kernel
theorem xw_X1_chargeEach_0 {E : xE} {res : xR} {N : Nat} {hd : List Nat} {C : xCT} {k : Nat} {L : List Int} {st : List pv} {H : PH} : xW E res N kd_X1_chargeEach xm_X1_chargeEach hd C (k + 1) 0 L st H = xB (fun t L st H => if t ∈ hd then xJ E res N kd_X1_chargeEach t L st H else xW E res N kd_X1_chargeEach xm_X1_chargeEach hd C k t L st H) (REPR E res) C (none) vb_X1_chargeEach_0 0 L st H := Eq.trans rfl rfl
def xm_X8_areLike : List xbT := [(0, vb_X8_areLike_0, some 16), (16, vb_X8_areLike_16, some 17), (17, vb_X8_areLike_17, none)]
theorem xc_X8_areLike : xOK kd_X8_areLike xm_X8_areLike := ⟨ve_X8_areLike_0, ve_X8_areLike_16, ve_X8_areLike_17, trivial⟩
theorem xa_X8_areLike : xm_X8_areLike.all (fun q => aOKb q.2.1 && !q.2.1.isEmpty) = true := by decide +kernel
theorem xw_X8_areLike_0 {E : xE} {res : xR} {N : Nat} {hd : List Nat} {C : xCT} {k : Nat} {L : List Int} {st : List pv} {H : PH} : xW E res N kd_X8_areLike xm_X8_areLike hd C (k + 1) 0 L st H = xB (fun t L st H => if t ∈ hd then xJ E res N kd_X8_areLike t L st H else xW E res N kd_X8_areLike xm_X8_areLike hd C k t L st H) (REPR E res) C (some 16) vb_X8_areLike_0 0 L st H := Eq.trans rfl rfl
theorem xw_X8_areLike_16 {E : xE} {res : xR} {N : Nat} {hd : List Nat} {C : xCT} {k : Nat} {L : List Int} {st : List pv} {H : PH} : xW E res N kd_X8_areLike xm_X8_areLike hd C (k + 1) 16 L st H = xB (fun t L st H => if t ∈ hd then xJ E res N kd_X8_areLike t L st H else xW E res N kd_X8_areLike xm_X8_areLike hd C k t L st H) (REPR E res) C (some 17) vb_X8_areLike_16 16 L st H := Eq.trans rfl rfl
theorem xw_X8_areLike_17 {E : xE} {res : xR} {N : Nat} {hd : List Nat} {C : xCT} {k : Nat} {L : List Int} {st : List pv} {H : PH} : xW E res N kd_X8_areLike xm_X8_areLike hd C (k + 1) 17 L st H = xB (fun t L st H => if t ∈ hd then xJ E res N kd_X8_areLike t L st H else xW E res N kd_X8_areLike xm_X8_areLike hd C k t L st H) (REPR E res) C (none) vb_X8_areLike_17 17 L st H := Eq.trans rfl rfl
def szf (m : Int) : Int := qli (qlushr m 48)
def sgf (m i : Int) : Int := q2 (· &&& ·) (qli (qlushr m (zw (i * 6)))) 63
theorem sp_X11_within (v lo hi : Int) (H : PH) : SPEC 145 [(0, v), (0, lo), (0, hi)] H (fun r H' => r = some (0, xb1 (lo ≤ v ∧ v ≤ hi)) ∧ H' = H) := by
  intro E n res h
  have h := call_runP 3 vm_X11_within h
  have h := xw_top (hd := []) 5 xCC_id xc_X11_within xa_X11_within (t := 0) rfl h
  simp (maxDischargeDepth := 12) -implicitDefEqProofs [vb_X11_within_0, vb_X11_within_14, vb_X11_within_15, xI_1, xI_7, xI_36, xI_45, xI_47, xI_62, xw_X11_within_0, xw_X11_within_14, xw_X11_within_15, zw_lit, xB_c, xB_s, xB_n, i1_c, j2_c, k1_c, jJ_e, xlg, xls, xla, xpd, ppush, zw_m1, zw_m2, zw_m3] at h
  repeat' (first | (refine Or.elim h ?_ ?_ <;> clear h <;> intro h) | (refine And.elim ?_ h; clear h; intro _ h))
  all_goals refine ⟨_, _, h, ?_, rfl⟩
  all_goals (first | rfl | (congr 2; unfold xb1; (repeat' split) <;> omega))
theorem sp_X12_isIn (v lo hi : Int) (H : PH) : SPEC 156 [(0, v), (0, lo), (0, hi)] H (fun r H' => r = some (0, xb1 (lo ≤ v ∧ v ≤ hi)) ∧ H' = H) := by
  intro E n res h
  have h := call_runP 3 vm_X12_isIn h
  have h := xw_top (hd := []) 5 xCC_id xc_X12_isIn xa_X12_isIn (t := 0) rfl h
  simp (maxDischargeDepth := 12) -implicitDefEqProofs [vb_X12_isIn_0, vb_X12_isIn_14, vb_X12_isIn_15, xI_1, xI_7, xI_36, xI_45, xI_47, xI_62, xw_X12_isIn_0, xw_X12_isIn_14, xw_X12_isIn_15, zw_lit, xB_c, xB_s, xB_n, i1_c, j2_c, k1_c, jJ_e, xlg, xls, xla, xpd, ppush, zw_m1, zw_m2, zw_m3] at h
  repeat' (first | (refine Or.elim h ?_ ?_ <;> clear h <;> intro h) | (refine And.elim ?_ h; clear h; intro _ h))
  all_goals refine ⟨_, _, h, ?_, rfl⟩
  all_goals (first | rfl | (congr 2; unfold xb1; (repeat' split) <;> omega))
theorem sp_X8_sizeOf (m : Int) (H : PH) : SPEC 76 [(1, m)] H (fun r H' => r = some (0, szf m) ∧ H' = H) := by
  intro E n res h
  have h := call_runP 2 vm_X8_sizeOf h
  have h := xw_top (hd := []) 3 xCC_id xc_X8_sizeOf xa_X8_sizeOf (t := 0) rfl h
  simp (maxDischargeDepth := 12) -implicitDefEqProofs [vb_X8_sizeOf_0, xI_2, xI_8, xI_28, xI_31, xI_62, xw_X8_sizeOf_0, zw_lit, xB_c, xB_s, xB_n, i1_c, j2_c, k1_c, jJ_e, xlg, xls, xla, xpd, ppush, zw_m1, zw_m2, zw_m3] at h
  repeat' (first | (refine Or.elim h ?_ ?_ <;> clear h <;> intro h) | (refine And.elim ?_ h; clear h; intro _ h))
  all_goals refine ⟨_, _, h, ?_, rfl⟩
  all_goals (unfold szf; exact rfl)
theorem sp_X8_signAt (m i : Int) (H : PH) : SPEC 77 [(1, m), (0, i)] H (fun r H' => r = some (0, sgf m i) ∧ H' = H) := by
  intro E n res h
  have h := call_runP 3 vm_X8_signAt h
  have h := xw_top (hd := []) 3 xCC_id xc_X8_signAt xa_X8_signAt (t := 0) rfl h
  simp (maxDischargeDepth := 12) -implicitDefEqProofs [vb_X8_signAt_0, xI_1, xI_2, xI_8, xI_16, xI_19, xI_28, xI_31, xI_62, xw_X8_signAt_0, zw_lit, xB_c, xB_s, xB_n, i1_c, j2_c, k1_c, jJ_e, xlg, xls, xla, xpd, ppush, zw_m1, zw_m2, zw_m3] at h
  repeat' (first | (refine Or.elim h ?_ ?_ <;> clear h <;> intro h) | (refine And.elim ?_ h; clear h; intro _ h))
  all_goals refine ⟨_, _, h, ?_, rfl⟩
  all_goals (unfold sgf; exact rfl)
theorem sp_X8_octetOf (c : Int) (H : PH) : SPEC 74 [(0, c)] H (fun r H' => r = some (0, if c = 37 then 46 else if c ≤ 26 then zw (zw (c - 1) + 65) else zw (zw (c - 27) + 48)) ∧ H' = H) := by
  intro E n res h
  have h := call_runP 1 vm_X8_octetOf h
  have h := xw_top (hd := []) 6 xCC_id xc_X8_octetOf xa_X8_octetOf (t := 0) rfl h
  simp (maxDischargeDepth := 12) -implicitDefEqProofs [vb_X8_octetOf_0, vb_X8_octetOf_9, vb_X8_octetOf_24, vb_X8_octetOf_31, xI_1, xI_7, xI_8, xI_14, xI_15, xI_36, xI_44, xI_47, xI_62, xw_X8_octetOf_0, xw_X8_octetOf_9, xw_X8_octetOf_24, xw_X8_octetOf_31, zw_lit, xB_c, xB_s, xB_n, i1_c, j2_c, k1_c, jJ_e, xlg, xls, xla, xpd, ppush, zw_m1, zw_m2, zw_m3] at h
  repeat' (first | (refine Or.elim h ?_ ?_ <;> clear h <;> intro h) | (refine And.elim ?_ h; clear h; intro _ h))
  all_goals refine ⟨_, _, h, ?_, rfl⟩
  all_goals (first | rfl | (congr 2; (repeat' split) <;> first | rfl | omega))
theorem sp_X12_lesser (a b : Int) (H : PH) : SPEC 191 [(0, a), (0, b)] H (fun r H' => r = some (0, min a b) ∧ H' = H) := by
  intro E n res h
  have h := call_runP 2 vm_X12_lesser h
  have h := xw_top (hd := []) 5 xCC_id xc_X12_lesser xa_X12_lesser (t := 0) rfl h
  simp (maxDischargeDepth := 12) -implicitDefEqProofs [vb_X12_lesser_0, vb_X12_lesser_9, vb_X12_lesser_10, xI_1, xI_36, xI_46, xI_62, xw_X12_lesser_0, xw_X12_lesser_9, xw_X12_lesser_10, zw_lit, xB_c, xB_s, xB_n, i1_c, j2_c, k1_c, jJ_e, xlg, xls, xla, xpd, ppush, zw_m1, zw_m2, zw_m3] at h
  repeat' (first | (refine Or.elim h ?_ ?_ <;> clear h <;> intro h) | (refine And.elim ?_ h; clear h; intro _ h))
  all_goals refine ⟨_, _, h, ?_, rfl⟩
  all_goals (first | rfl | (congr 2; omega))
theorem sp_X12_most (a b : Int) (H : PH) : SPEC 192 [(0, a), (0, b)] H (fun r H' => r = some (0, max a b) ∧ H' = H) := by
  intro E n res h
  have h := call_runP 2 vm_X12_most h
  have h := xw_top (hd := []) 5 xCC_id xc_X12_most xa_X12_most (t := 0) rfl h
  simp (maxDischargeDepth := 12) -implicitDefEqProofs [vb_X12_most_0, vb_X12_most_9, vb_X12_most_10, xI_1, xI_36, xI_48, xI_62, xw_X12_most_0, xw_X12_most_9, xw_X12_most_10, zw_lit, xB_c, xB_s, xB_n, i1_c, j2_c, k1_c, jJ_e, xlg, xls, xla, xpd, ppush, zw_m1, zw_m2, zw_m3] at h
  repeat' (first | (refine Or.elim h ?_ ?_ <;> clear h <;> intro h) | (refine And.elim ?_ h; clear h; intro _ h))
  all_goals refine ⟨_, _, h, ?_, rfl⟩
  all_goals (first | rfl | (congr 2; omega))
theorem sp_X12_billAt (b : Int) (H : PH) : SPEC 174 [(0, b)] H (fun r H' => r = some (0, zw (92 + zw (26 * b))) ∧ H' = H) := by
  intro E n res h
  have h := call_runP 1 vm_X12_billAt h
  have h := xw_top (hd := []) 3 xCC_id xc_X12_billAt xa_X12_billAt (t := 0) rfl h
  simp (maxDischargeDepth := 12) -implicitDefEqProofs [vb_X12_billAt_0, xI_1, xI_8, xI_14, xI_16, xI_62, xw_X12_billAt_0, zw_lit, xB_c, xB_s, xB_n, i1_c, j2_c, k1_c, jJ_e, xlg, xls, xla, xpd, ppush, zw_m1, zw_m2, zw_m3] at h
  repeat' (first | (refine Or.elim h ?_ ?_ <;> clear h <;> intro h) | (refine And.elim ?_ h; clear h; intro _ h))
  all_goals refine ⟨_, _, h, ?_, rfl⟩
  all_goals (first | rfl | (congr 2; (repeat' split) <;> first | rfl | omega))
theorem sp_X12_lineAt (b : Int) (H : PH) : SPEC 175 [(0, b)] H (fun r H' => r = some (0, zw (404 + zw (12 * b))) ∧ H' = H) := by
  intro E n res h
  have h := call_runP 1 vm_X12_lineAt h
  have h := xw_top (hd := []) 3 xCC_id xc_X12_lineAt xa_X12_lineAt (t := 0) rfl h
  simp (maxDischargeDepth := 12) -implicitDefEqProofs [vb_X12_lineAt_0, xI_1, xI_8, xI_9, xI_14, xI_16, xI_62, xw_X12_lineAt_0, zw_lit, xB_c, xB_s, xB_n, i1_c, j2_c, k1_c, jJ_e, xlg, xls, xla, xpd, ppush, zw_m1, zw_m2, zw_m3] at h
  repeat' (first | (refine Or.elim h ?_ ?_ <;> clear h <;> intro h) | (refine And.elim ?_ h; clear h; intro _ h))
  all_goals refine ⟨_, _, h, ?_, rfl⟩
  all_goals (first | rfl | (congr 2; (repeat' split) <;> first | rfl | omega))
def nxV (H : PH) : Int := if H 213 2 < H 213 1 then H 214 (H 213 2) else -1
def heV (H : PH) : Int := if H 590 5 < H 590 4 then q2 (· &&& ·) (H 593 (H 590 5)) 255 else -1
theorem sp_X10_next (H : PH) : SPEC 95 [(2, 213)] H (fun r H' => r = some (0, nxV H) ∧ H' = H) := by
  intro E n res h
  have h := call_runP 1 vm_X10_next h
  have h := xw_top (hd := []) 5 xCC_id xc_X10_next xa_X10_next (t := 0) rfl h
  simp (maxDischargeDepth := 12) -implicitDefEqProofs [vb_X10_next_0, vb_X10_next_23, vb_X10_next_24, xI_0, xI_7, xI_36, xI_46, xI_49, xI_51, xI_62, xw_X10_next_0, xw_X10_next_23, xw_X10_next_24, zw_lit, xB_c, xB_s, xB_n, i1_c, j2_c, k1_c, jJ_e, xlg, xls, xla, xpd, ppush, zw_m1, zw_m2, zw_m3, gf_10_0, gf_10_1, gf_10_2, tg_10_0, tg_10_1, tg_10_2, gv_213_0, gv_213_1, gv_213_2] at h
  repeat' (first | (refine Or.elim h ?_ ?_ <;> clear h <;> intro h) | (refine And.elim ?_ h; clear h; intro _ h))
  all_goals refine ⟨_, _, h, ?_, rfl⟩
  all_goals (unfold nxV; congr 2; (repeat' split) <;> first | rfl | omega)
theorem sp_X12_here (H : PH) : SPEC 163 [(2, 590)] H (fun r H' => r = some (0, heV H) ∧ H' = H) := by
  intro E n res h
  have h := call_runP 1 vm_X12_here h
  have h := xw_top (hd := []) 5 xCC_id xc_X12_here xa_X12_here (t := 0) rfl h
  simp (maxDischargeDepth := 12) -implicitDefEqProofs [vb_X12_here_0, vb_X12_here_27, vb_X12_here_28, xI_0, xI_7, xI_9, xI_19, xI_36, xI_46, xI_49, xI_57, xI_62, xw_X12_here_0, xw_X12_here_27, xw_X12_here_28, zw_lit, xB_c, xB_s, xB_n, i1_c, j2_c, k1_c, jJ_e, xlg, xls, xla, xpd, ppush, zw_m1, zw_m2, zw_m3, gf_12_3, gf_12_4, gf_12_5, tg_12_3, tg_12_4, tg_12_5, gv_590_3, gv_590_4, gv_590_5] at h
  repeat' (first | (refine Or.elim h ?_ ?_ <;> clear h <;> intro h) | (refine And.elim ?_ h; clear h; intro _ h))
  all_goals refine ⟨_, _, h, ?_, rfl⟩
  all_goals (unfold heV; congr 2; (repeat' split) <;> first | rfl | omega)
theorem sp_X10_isDigit (c : Int) (H : PH) : SPEC 98 [(0, c)] H (fun r H' => r = some (0, xb1 (48 ≤ c ∧ c ≤ 57)) ∧ H' = H) := by
  intro E n res h
  have h := call_runP 1 vm_X10_isDigit h
  have h := xw_top (hd := []) 5 xCC_id xc_X10_isDigit xa_X10_isDigit (t := 0) rfl h
  simp (maxDischargeDepth := 12) -implicitDefEqProofs [vb_X10_isDigit_0, vb_X10_isDigit_16, vb_X10_isDigit_17, xI_1, xI_7, xI_8, xI_36, xI_45, xI_47, xI_62, xw_X10_isDigit_0, xw_X10_isDigit_16, xw_X10_isDigit_17, zw_lit, xB_c, xB_s, xB_n, i1_c, j2_c, k1_c, jJ_e, xlg, xls, xla, xpd, ppush, zw_m1, zw_m2, zw_m3] at h
  repeat' (first | (refine Or.elim h ?_ ?_ <;> clear h <;> intro h) | (refine And.elim ?_ h; clear h; intro _ h))
  all_goals refine ⟨_, _, h, ?_, rfl⟩
  all_goals (unfold xb1; congr 2; (repeat' split) <;> first | rfl | omega)
theorem sp_X12_isFigure (c : Int) (H : PH) : SPEC 164 [(0, c)] H (fun r H' => r = some (0, xb1 (48 ≤ c ∧ c ≤ 57)) ∧ H' = H) := by
  intro E n res h
  have h := call_runP 1 vm_X12_isFigure h
  have h := xw_top (hd := []) 5 xCC_id xc_X12_isFigure xa_X12_isFigure (t := 0) rfl h
  simp (maxDischargeDepth := 12) -implicitDefEqProofs [vb_X12_isFigure_0, vb_X12_isFigure_16, vb_X12_isFigure_17, xI_1, xI_7, xI_8, xI_36, xI_45, xI_47, xI_62, xw_X12_isFigure_0, xw_X12_isFigure_16, xw_X12_isFigure_17, zw_lit, xB_c, xB_s, xB_n, i1_c, j2_c, k1_c, jJ_e, xlg, xls, xla, xpd, ppush, zw_m1, zw_m2, zw_m3] at h
  repeat' (first | (refine Or.elim h ?_ ?_ <;> clear h <;> intro h) | (refine And.elim ?_ h; clear h; intro _ h))
  all_goals refine ⟨_, _, h, ?_, rfl⟩
  all_goals (unfold xb1; congr 2; (repeat' split) <;> first | rfl | omega)
theorem sp_X4_isSumSign (c : Int) (H : PH) : SPEC 48 [(0, c)] H (fun r H' => r = some (0, xb1 (c = 43 ∨ c = 45)) ∧ H' = H) := by
  intro E n res h
  have h := call_runP 1 vm_X4_isSumSign h
  have h := xw_top (hd := []) 6 xCC_id xc_X4_isSumSign xa_X4_isSumSign (t := 0) rfl h
  simp (maxDischargeDepth := 12) -implicitDefEqProofs [vb_X4_isSumSign_0, vb_X4_isSumSign_12, vb_X4_isSumSign_16, vb_X4_isSumSign_17, xI_1, xI_7, xI_8, xI_36, xI_43, xI_44, xI_62, xw_X4_isSumSign_0, xw_X4_isSumSign_12, xw_X4_isSumSign_16, xw_X4_isSumSign_17, zw_lit, xB_c, xB_s, xB_n, i1_c, j2_c, k1_c, jJ_e, xlg, xls, xla, xpd, ppush, zw_m1, zw_m2, zw_m3] at h
  repeat' (first | (refine Or.elim h ?_ ?_ <;> clear h <;> intro h) | (refine And.elim ?_ h; clear h; intro _ h))
  all_goals refine ⟨_, _, h, ?_, rfl⟩
  all_goals (unfold xb1; congr 2; (repeat' split) <;> first | rfl | omega)
theorem sp_X4_isProductSign (c : Int) (H : PH) : SPEC 49 [(0, c)] H (fun r H' => r = some (0, xb1 (c = 42 ∨ c = 47 ∨ c = 60 ∨ c = 62)) ∧ H' = H) := by
  intro E n res h
  have h := call_runP 1 vm_X4_isProductSign h
  have h := xw_top (hd := []) 6 xCC_id xc_X4_isProductSign xa_X4_isProductSign (t := 0) rfl h
  simp (maxDischargeDepth := 12) -implicitDefEqProofs [vb_X4_isProductSign_0, vb_X4_isProductSign_24, vb_X4_isProductSign_28, vb_X4_isProductSign_29, xI_1, xI_7, xI_8, xI_36, xI_43, xI_44, xI_62, xw_X4_isProductSign_0, xw_X4_isProductSign_24, xw_X4_isProductSign_28, xw_X4_isProductSign_29, zw_lit, xB_c, xB_s, xB_n, i1_c, j2_c, k1_c, jJ_e, xlg, xls, xla, xpd, ppush, zw_m1, zw_m2, zw_m3] at h
  repeat' (first | (refine Or.elim h ?_ ?_ <;> clear h <;> intro h) | (refine And.elim ?_ h; clear h; intro _ h))
  all_goals refine ⟨_, _, h, ?_, rfl⟩
  all_goals (unfold xb1; congr 2; (repeat' split) <;> first | rfl | omega)
theorem sp_X12_nameOf (c : Int) (H : PH) : SPEC 184 [(0, c)] H (fun r H' => r = some (0, if c = 115 then 0 else if c = 111 then 1 else if c = 99 then 2 else -1) ∧ H' = H) := by
  intro E n res h
  have h := call_runP 1 vm_X12_nameOf h
  have h := xw_top (hd := []) 7 xCC_id xc_X12_nameOf xa_X12_nameOf (t := 0) rfl h
  simp (maxDischargeDepth := 12) -implicitDefEqProofs [vb_X12_nameOf_0, vb_X12_nameOf_10, vb_X12_nameOf_20, vb_X12_nameOf_30, vb_X12_nameOf_31, xI_1, xI_7, xI_8, xI_36, xI_44, xI_62, xw_X12_nameOf_0, xw_X12_nameOf_10, xw_X12_nameOf_20, xw_X12_nameOf_30, xw_X12_nameOf_31, zw_lit, xB_c, xB_s, xB_n, i1_c, j2_c, k1_c, jJ_e, xlg, xls, xla, xpd, ppush, zw_m1, zw_m2, zw_m3] at h
  repeat' (first | (refine Or.elim h ?_ ?_ <;> clear h <;> intro h) | (refine And.elim ?_ h; clear h; intro _ h))
  all_goals refine ⟨_, _, h, ?_, rfl⟩
  all_goals (first | rfl | (congr 2; (repeat' split) <;> first | rfl | omega))
theorem sp_X1_chargeEach (H : PH) : SPEC 20 [(2, 1)] H (fun r H' => r = some (0, zw (max 0 (zw (H 1 10 - H 1 11)) * H 1 12)) ∧ H' = H) := by
  intro E n res h
  have h := call_runP 1 vm_X1_chargeEach h
  have h := xw_top (hd := []) 3 xCC_id xc_X1_chargeEach xa_X1_chargeEach (t := 0) rfl h
  simp (maxDischargeDepth := 12) -implicitDefEqProofs [vb_X1_chargeEach_0, xI_0, xI_7, xI_15, xI_16, xI_49, xI_55, xI_62, xw_X1_chargeEach_0, zw_lit, xB_c, xB_s, xB_n, i1_c, j2_c, k1_c, jJ_e, xlg, xls, xla, xpd, ppush, zw_m1, zw_m2, zw_m3, gf_1_10, gf_1_11, gf_1_12, tg_1_10, tg_1_11, tg_1_12, gv_1_10, gv_1_11, gv_1_12, mn_b] at h
  repeat' (first | (refine Or.elim h ?_ ?_ <;> clear h <;> intro h) | (refine And.elim ?_ h; clear h; intro _ h))
  all_goals refine ⟨_, _, h, ?_, rfl⟩
  all_goals (first | rfl | (simp only [mn_b]))
def xD1 (E : xE) (n mj : Nat) (as : List pv) (H : PH) (K : Option pv → PH → Prop) : Prop := match mj with
  | 20 => as = [(2, 1)] → K (some (0, zw (max 0 (zw (H 1 10 - H 1 11)) * H 1 12))) H
  | 48 => ∀ c, as = [(0, c)] → K (some (0, xb1 (c = 43 ∨ c = 45))) H
  | 49 => ∀ c, as = [(0, c)] → K (some (0, xb1 (c = 42 ∨ c = 47 ∨ c = 60 ∨ c = 62))) H
  | 74 => ∀ c, as = [(0, c)] → K (some (0, (if c = 37 then 46 else if c ≤ 26 then zw (zw (c - 1) + 65) else zw (zw (c - 27) + 48)))) H
  | 76 => ∀ m, as = [(1, m)] → K (some (0, szf m)) H
  | 77 => ∀ m i, as = [(1, m), (0, i)] → K (some (0, sgf m i)) H
  | 95 => as = [(2, 213)] → K (some (0, nxV H)) H
  | 98 => ∀ c, as = [(0, c)] → K (some (0, xb1 (48 ≤ c ∧ c ≤ 57))) H
  | 145 => ∀ v lo hi, as = [(0, v), (0, lo), (0, hi)] → K (some (0, xb1 (lo ≤ v ∧ v ≤ hi))) H
  | 156 => ∀ v lo hi, as = [(0, v), (0, lo), (0, hi)] → K (some (0, xb1 (lo ≤ v ∧ v ≤ hi))) H
  | 163 => as = [(2, 590)] → K (some (0, heV H)) H
  | 164 => ∀ c, as = [(0, c)] → K (some (0, xb1 (48 ≤ c ∧ c ≤ 57))) H
  | 174 => ∀ b, as = [(0, b)] → K (some (0, zw (92 + zw (26 * b)))) H
  | 175 => ∀ b, as = [(0, b)] → K (some (0, zw (404 + zw (12 * b)))) H
  | 184 => ∀ c, as = [(0, c)] → K (some (0, (if c = 115 then 0 else if c = 111 then 1 else if c = 99 then 2 else -1))) H
  | 191 => ∀ a b, as = [(0, a), (0, b)] → K (some (0, min a b)) H
  | 192 => ∀ a b, as = [(0, a), (0, b)] → K (some (0, max a b)) H
  | _ => xC E n mj as H K
theorem xD1_ok {E : xE} {n : Nat} : xCC E n (xD1 E n) := by
  intro mj as H K h
  unfold xD1
  split
  · intro  e
    subst e
    obtain ⟨r, H2, ⟨rfl, rfl⟩, g⟩ := xc_use h (sp_X1_chargeEach  H)
    exact g
  · intro c e
    subst e
    obtain ⟨r, H2, ⟨rfl, rfl⟩, g⟩ := xc_use h (sp_X4_isSumSign c H)
    exact g
  · intro c e
    subst e
    obtain ⟨r, H2, ⟨rfl, rfl⟩, g⟩ := xc_use h (sp_X4_isProductSign c H)
    exact g
  · intro c e
    subst e
    obtain ⟨r, H2, ⟨rfl, rfl⟩, g⟩ := xc_use h (sp_X8_octetOf c H)
    exact g
  · intro m e
    subst e
    obtain ⟨r, H2, ⟨rfl, rfl⟩, g⟩ := xc_use h (sp_X8_sizeOf m H)
    exact g
  · intro m i e
    subst e
    obtain ⟨r, H2, ⟨rfl, rfl⟩, g⟩ := xc_use h (sp_X8_signAt m i H)
    exact g
  · intro  e
    subst e
    obtain ⟨r, H2, ⟨rfl, rfl⟩, g⟩ := xc_use h (sp_X10_next  H)
    exact g
  · intro c e
    subst e
    obtain ⟨r, H2, ⟨rfl, rfl⟩, g⟩ := xc_use h (sp_X10_isDigit c H)
    exact g
  · intro v lo hi e
    subst e
    obtain ⟨r, H2, ⟨rfl, rfl⟩, g⟩ := xc_use h (sp_X11_within v lo hi H)
    exact g
  · intro v lo hi e
    subst e
    obtain ⟨r, H2, ⟨rfl, rfl⟩, g⟩ := xc_use h (sp_X12_isIn v lo hi H)
    exact g
  · intro  e
    subst e
    obtain ⟨r, H2, ⟨rfl, rfl⟩, g⟩ := xc_use h (sp_X12_here  H)
    exact g
  · intro c e
    subst e
    obtain ⟨r, H2, ⟨rfl, rfl⟩, g⟩ := xc_use h (sp_X12_isFigure c H)
    exact g
  · intro b e
    subst e
    obtain ⟨r, H2, ⟨rfl, rfl⟩, g⟩ := xc_use h (sp_X12_billAt b H)
    exact g
  · intro b e
    subst e
    obtain ⟨r, H2, ⟨rfl, rfl⟩, g⟩ := xc_use h (sp_X12_lineAt b H)
    exact g
  · intro c e
    subst e
    obtain ⟨r, H2, ⟨rfl, rfl⟩, g⟩ := xc_use h (sp_X12_nameOf c H)
    exact g
  · intro a b e
    subst e
    obtain ⟨r, H2, ⟨rfl, rfl⟩, g⟩ := xc_use h (sp_X12_lesser a b H)
    exact g
  · intro a b e
    subst e
    obtain ⟨r, H2, ⟨rfl, rfl⟩, g⟩ := xc_use h (sp_X12_most a b H)
    exact g
  · exact h
