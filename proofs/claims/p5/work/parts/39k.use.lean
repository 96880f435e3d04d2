/-! ===== answers: how they are used ===== -/
def gmT (T : List aL) (t : Nat) (ls : PL) (st : List pv) (H : PH) : Prop := ∃ l ∈ T, l.1 = t ∧ ∃ ls1, gam ls1 l.2.1 ls st H
theorem ic_inv {B : List aB} {Inv : pJ} {Q2 : Option pv → PH → Prop} {F : Nat → List pv → PH → (Option pv → PH → Prop) → Prop} {t : Nat} {ls : PL} {st : List pv} {H : PH} : ∀ n : Nat, Inv t ls st H → IC B Inv Q2 F n t ls st H
  | 0, h => h
  | _ + 1, h => Or.inl h
theorem fx_use {RG : pG} {lv : Nat} {g : Nat → Nat → Int} {mj : Nat} {P : pP} {R : pR} {md : List Nat} {as : List pv} {H : PH} {K : Option pv → PH → Prop} (h : RG mj = (P, R, md)) (hP : P as H) (hK : ∀ r H', R as H r H' → frm md H H' → WT lv g H' → K r H') : FX RG lv g mj as H K := by
  unfold FX
  rw [h]
  exact ⟨hP, hK⟩
def ai : List pv → Nat → Int
  | [], _ => 0
  | a :: _, 0 => a.2
  | _ :: t, j + 1 => ai t j
theorem ai_0 {a : pv} {t : List pv} : ai (a :: t) 0 = a.2 := rfl
theorem ai_1 {a b : pv} {t : List pv} : ai (a :: b :: t) 1 = b.2 := rfl
theorem ai_2 {a b c : pv} {t : List pv} : ai (a :: b :: c :: t) 2 = c.2 := rfl
theorem ai_3 {a b c d : pv} {t : List pv} : ai (a :: b :: c :: d :: t) 3 = d.2 := rfl
theorem ai_4 {a b c d e : pv} {t : List pv} : ai (a :: b :: c :: d :: e :: t) 4 = e.2 := rfl
def tg2 (a : Option aV) : Bool := match a with
  | none => true
  | some a => Nat.ble a.1 2
theorem rok_tg {a : Option aV} {p : pv} (h : tg2 a = true) (hr : rok a (some p)) : p.1 ≤ 2 := by
  cases a with
  | none => exact hr.elim
  | some a =>
    have hr : aval a p := hr
    rw [hr.1]
    exact Nat.le_of_ble_eq_true h
/-- a contract, and what is known besides -/
theorem Fn_of {c : aC} {P : pP} {R : pR} (hc : CtOK c) (ht : tg2 c.2.2.2.1 = true) (hR : ∀ (G : zG) (us : Nat) (g : Nat → Nat → Int) (H : PH) (as : List pv), GOK g → WT c.2.2.2.2.2.1 g H → aargs c.2.2.1 as → (∀ f ∈ c.2.2.2.2.2.2.2.1, fok [] H f) → P as H → Ca G us c.2.1 c.1 as H (R as H)) (hR2 : ∀ as H p H', R as H (some p) H' → p.1 ≤ 2) : FnOK c P R := fun G us g H as hg hW ha hp hP =>
  Ca_and (hc G us g H as hg hW ha hp) (hR G us g H as hg hW ha hp hP) (fun p H' q => rok_tg ht q.2.1) (hR2 as H)
theorem frm_r {md : List Nat} {H H' : PH} (h : frm md H H') (c : Nat) (h0 : Nat.blt (tau c) 1000 = true) (hk : (Nat.blt c 622 && (Nat.ble 16 (zSh c).1 && Nat.ble (zSh c).1 18)) = true) (hm : inmdA md (tau c) = false) : H' c = H c := by
  rw [Bool.and_eq_true, Bool.and_eq_true] at hk
  have hz : ∀ i, zrt c i = none := fun i => zrt_row (Nat.blt_eq.mp hk.1) ⟨Nat.le_of_ble_eq_true hk.2.1, Nat.le_of_ble_eq_true hk.2.2⟩
  funext i
  have hmi : inmd md (tau c) i = false := by
    cases q : inmd md (tau c) i with
    | false => rfl
    | true =>
      unfold inmd at q
      unfold inmdA at hm
      rw [List.any_eq_true] at q
      obtain ⟨m, m1, m2⟩ := q
      have : (md.any fun m => Nat.beq m 999 || Nat.beq (m % 1000) (tau c)) = true := List.any_eq_true.mpr ⟨m, m1, by
        rw [Bool.or_eq_true, Bool.or_eq_true] at m2
        rw [Bool.or_eq_true]
        rcases m2 with (m2 | m2) | m2
        · exact Or.inl m2
        · have e : m = tau c := Nat.eq_of_beq_eq_true m2
          have hlt : tau c < 1000 := Nat.blt_eq.mp h0
          refine Or.inr ?_
          rw [e, Nat.mod_eq_of_lt hlt]
          exact Nat.beq_refl _
        · rw [Bool.and_eq_true, Bool.and_eq_true] at m2
          exact Or.inr m2.1.2⟩
      rw [this] at hm
      cases hm
  have e := h c i (Nat.blt_eq.mp h0) hmi
  rwa [gv_none (by rw [Int.toNat_natCast]; exact hz _), gv_none (by rw [Int.toNat_natCast]; exact hz _)] at e
theorem frm_f {md : List Nat} {H H' : PH} (h : frm md H H') (c i : Nat) (hz : (Nat.blt (tau c) 1000 && (zrt c i).isNone) = true) (hm : inmd md (tau c) i = false) : H' c i = H c i := by
  rw [Bool.and_eq_true] at hz
  have hn := Option.isNone_iff_eq_none.mp hz.2
  have e := h c i (Nat.blt_eq.mp hz.1) hm
  rwa [gv_none (by rw [Int.toNat_natCast, Int.toNat_natCast]; exact hn), gv_none (by rw [Int.toNat_natCast, Int.toNat_natCast]; exact hn)] at e
