/-! ===== the heap by its types ===== -/
section TYH
variable {c i : Nat} {H : PH} {lv : Nat} {g : Nat → Nat → Int}
theorem tau_ok (hc : c < 622) : (zSh c).1 = (tsh (tau c)).1 ∧ (zSh c).2.1 = (tsh (tau c)).2.1 ∧ ((tsh (tau c)).2.2 = 0 ∨ (tsh (tau c)).2.2 = c + 1) ∧ (∀ j, mutref (tau c) j = true → zrt c j = none) ∧ (tau c = 37 → zrtL c = []) := by
  have h := tau_all c hc
  simp only [Bool.and_eq_true] at h
  obtain ⟨⟨⟨⟨h1, h2⟩, h3⟩, h4⟩, h5⟩ := h
  refine ⟨Nat.eq_of_beq_eq_true h1, Nat.eq_of_beq_eq_true h2, ?_, ?_, ?_⟩
  · rw [Bool.or_eq_true] at h3
    exact h3.imp Nat.eq_of_beq_eq_true Nat.eq_of_beq_eq_true
  · intro j hj
    unfold zrt
    cases hz : zlook (zrtL c) j with
    | none => rfl
    | some v =>
      have h6 := List.all_eq_true.mp h4 _ (zlook_mem hz)
      rw [show mutref (tau c) (j, v).1 = true from hj] at h6
      cases h6
  · intro e
    rw [e, Bool.or_eq_true] at h5
    rcases h5 with h5 | h5
    · exact Bool.noConfusion (show false = true from h5)
    · exact List.isEmpty_iff.mp h5
theorem zrt_row (hc : c < 622) (h : 16 ≤ (zSh c).1 ∧ (zSh c).1 ≤ 18) : zrt c i = none := by
  cases hz : zrt c i with
  | none => rfl
  | some v => exact ((zrt_kind hc hz).1 h).elim
theorem zrt_num (hc : c < 622) (h : (zSh c).1 < 16) (h2 : ztg (zSh c).1 i ≠ 2) : zrt c i = none := by
  cases hz : zrt c i with
  | none => rfl
  | some v => exact (h2 ((zrt_kind hc hz).2 h)).elim
theorem zrt_nil (h : zrtL c = []) : zrt c i = none := by
  unfold zrt
  rw [h]
  rfl
theorem gv_none {c i : Int} (h : zrt c.toNat i.toNat = none) : gv H c i = H c i := by
  unfold gv
  rw [h]
theorem gv_pup {c i v c' i' : Int} (hz : zrt c.toNat i.toNat = none) : gv (pup H c i v) c' i' = if c' = c ∧ i' = i then v else gv H c' i' := by
  by_cases e : c' = c ∧ i' = i
  · rw [if_pos e]
    obtain ⟨rfl, rfl⟩ := e
    rw [gv_none hz]
    exact if_pos ⟨rfl, rfl⟩
  · rw [if_neg e]
    unfold gv
    split
    · rfl
    · exact if_neg e
theorem WT_up {c i : Nat} {v : Int} (h : WT lv g H) (hz : zrt c i = none) (hv : aval (fty (tau c) i) ((fty (tau c) i).1, v)) (hf : fz lv (tau c) i = false) : WT lv g (pup H c i v) := by
  intro c' i' h1 h2
  have e : gv (pup H c i v) c' i' = if (c' : Int) = c ∧ (i' : Int) = i then v else gv H c' i' := gv_pup (by rw [Int.toNat_natCast, Int.toNat_natCast]; exact hz)
  by_cases q : (c' : Int) = c ∧ (i' : Int) = i
  · rw [if_pos q] at e
    have q1 : c' = c := by omega
    have q2 : i' = i := by omega
    subst q1
    subst q2
    rw [e]
    exact ⟨hv, fun q => by rw [hf] at q; cases q⟩
  · rw [if_neg q] at e
    rw [e]
    exact h c' i' h1 h2
/-- places of a type, by index -/
noncomputable def PT (t : Nat) (lo hi : Int) (o : aG) : Bool := (Nat.beq o.1 2 && Nat.beq (tau o.2.1) t && decide (lo ≤ (o.2.2 : Int)) && decide ((o.2.2 : Int) ≤ hi)) || (Nat.beq o.1 3 && Nat.beq (tau o.2.1) t)
theorem PT_oval {t : Nat} {lo hi v : Int} {c i : Nat} {ls : PL} {o : aG} {x : Int} (hz : zrt c i = none) (ht : tau c = t) (h1 : lo ≤ i) (h2 : (i : Int) ≤ hi) (h : PT t lo hi o = false) : oval ls (pup H c i v) o x ↔ oval ls H o x := by
  have e : ∀ c' i' : Int, gv (pup H c i v) c' i' = if c' = (c : Int) ∧ i' = (i : Int) then v else gv H c' i' := fun c' i' => gv_pup (by rw [Int.toNat_natCast, Int.toNat_natCast]; exact hz)
  obtain ⟨k, a, b⟩ := o
  unfold PT at h
  rw [Bool.or_eq_false_iff] at h
  match k with
  | 0 => exact Iff.rfl
  | 1 => exact Iff.rfl
  | 2 =>
    show gv (pup H c i v) a b = x ↔ gv H a b = x
    rw [e, if_neg]
    rintro ⟨q1, q2⟩
    have q1 : a = c := by omega
    have q2 : b = i := by omega
    subst q1
    subst q2
    have h3 := h.1
    have e1 : Nat.beq (tau a) t = true := by rw [ht]; exact Nat.beq_refl t
    have e2 : decide (lo ≤ (b : Int)) = true := decide_eq_true h1
    have e3 : decide ((b : Int) ≤ hi) = true := decide_eq_true h2
    have h4 : (true && Nat.beq (tau a) t && decide (lo ≤ (b : Int)) && decide ((b : Int) ≤ hi)) = false := h3
    rw [e1, e2, e3] at h4
    cases h4
  | 3 =>
    have q : (a : Int) ≠ c := by
      intro q1
      have q1 : a = c := by omega
      subst q1
      have h4 : (true && Nat.beq (tau a) t) = false := h.2
      rw [ht, Nat.beq_refl] at h4
      cases h4
    have e' : ∀ y, gv (pup H c i v) a y = gv H a y := fun y => by rw [e, if_neg (fun z => q z.1)]
    exact ⟨fun ⟨y, h1, h2⟩ => ⟨y, h1, by rw [← e']; exact h2⟩, fun ⟨y, h1, h2⟩ => ⟨y, h1, by rw [e']; exact h2⟩⟩
  | _ + 4 => exact Iff.rfl
end TYH
/-! ranges learned of places -/
def ovm (o : aG) (ov : List aF) (a : aV) : aV := match ov with
  | [] => a
  | f :: t => ovm o t (bif geq f.1 o then vmeet a f.2.1 f.2.2 else a)
theorem ovm_ok {ls : PL} {H : PH} {o : aG} {p : pv} : ∀ {ov : List aF} {a : aV}, (∀ f ∈ ov, fok ls H f) → aval a p → (p.1 = 0 → oval ls H o p.2) → aval (ovm o ov a) p
  | [], _, _, h, _ => h
  | f :: t, a, hf, h, ho => by
    refine ovm_ok (ov := t) (fun f' hf' => hf f' (List.mem_cons_of_mem _ hf')) ?_ ho
    cases hb : geq f.1 o with
    | false => exact h
    | true =>
      have e := geq_ok hb
      refine vmeet_ok h (fun q => ?_)
      have := hf f List.mem_cons_self p.2
      rw [e] at this
      exact this (ho q)
/-! contracts -/
def ldp (f : Nat → Int) : Nat → Int
  | 0 => 0
  | k + 1 => if f (12 + k) < 11000 then ldp f k + 1 else ldp f k - 1
/-- a law's row: each operation finds two values, and the pile is long enough -/
def lwf (f : Nat → Int) : Prop := 0 ≤ f 11 ∧ f 11 ≤ 64 ∧ ∀ k : Nat, (k : Int) < f 11 → (f (12 + k) < 11000 → ldp f k ≤ 33) ∧ (¬ f (12 + k) < 11000 → 2 ≤ ldp f k)
theorem ldp_congr {f f' : Nat → Int} (h : ∀ k, 10 ≤ k → k < 76 → f' k = f k) : ∀ k, k ≤ 64 → ldp f' k = ldp f k
  | 0, _ => rfl
  | k + 1, hk => by
    show (if f' (12 + k) < 11000 then ldp f' k + 1 else ldp f' k - 1) = if f (12 + k) < 11000 then ldp f k + 1 else ldp f k - 1
    rw [h (12 + k) (by omega) (by omega), ldp_congr h k (by omega)]
theorem lwf_congr {f f' : Nat → Int} (h : ∀ k, 10 ≤ k → k < 76 → f' k = f k) (hf : lwf f) : lwf f' := by
  obtain ⟨h1, h2, h3⟩ := hf
  have e := h 11 (by omega) (by omega)
  refine ⟨by omega, by omega, fun k hk => ?_⟩
  have := h3 k (by omega)
  rw [h (12 + k) (by omega) (by omega), ldp_congr h k (by omega)]
  exact this
def GOK (g : Nat → Nat → Int) : Prop := lwf (g 591)
/-- number, depth, arguments, answer, what an answer other than 0 says of arguments, level, whether nothing is stored, what must hold of places -/
abbrev aC : Type := Nat × Nat × List aV × Option aV × List (Int × Int × Nat × Int × Int) × Nat × List Nat × List aF × List aK × List aF
/-- a type t, or the field f of a type t: 1000 * (f + 1) + t; 999: all -/
def inmd (md : List Nat) (t : Nat) (y : Int) : Bool := md.any (fun m => Nat.beq m 999 || Nat.beq m t || (Nat.ble 1000 m && Nat.beq (m % 1000) t && decide (((m / 1000 - 1 : Nat) : Int) = y)))
def inmdT (md : List Nat) (t : Nat) : Bool := md.any (fun m => Nat.beq m 999 || Nat.beq m t)
def inmdA (md : List Nat) (t : Nat) : Bool := md.any (fun m => Nat.beq m 999 || Nat.beq (m % 1000) t)
def covm (md : List Nat) (m : Nat) : Bool := md.any (fun n => Nat.beq n 999 || Nat.beq n m || (Nat.ble 1000 m && Nat.beq n (m % 1000)))
theorem inmd_T {md : List Nat} {t : Nat} (h : inmdT md t = true) (y : Int) : inmd md t y = true := by
  unfold inmdT at h
  unfold inmd
  rw [List.any_eq_true] at h ⊢
  obtain ⟨m, h1, h2⟩ := h
  exact ⟨m, h1, by rw [h2]; rfl⟩
theorem inmd_A {md : List Nat} {t : Nat} {y : Int} (h : inmdA md t = false) (ht : t < 1000) : inmd md t y = false := by
  cases hb : inmd md t y with
  | false => rfl
  | true =>
    unfold inmd at hb
    rw [List.any_eq_true] at hb
    obtain ⟨m, h1, h2⟩ := hb
    have : inmdA md t = true := by
      unfold inmdA
      rw [List.any_eq_true]
      refine ⟨m, h1, ?_⟩
      simp only [Bool.or_eq_true, Bool.and_eq_true] at h2 ⊢
      rcases h2 with (h2 | h2) | h2
      · exact Or.inl h2
      · right
        rw [Nat.eq_of_beq_eq_true h2, Nat.mod_eq_of_lt ht]
        exact Nat.beq_refl t
      · exact Or.inr h2.1.2
    rw [this] at h
    cases h
/-- only these places have changed -/
def frm (md : List Nat) (H H' : PH) : Prop := ∀ (c : Nat) (y : Int), tau c < 1000 → inmd md (tau c) y = false → gv H' c y = gv H c y
theorem frm_refl (md : List Nat) (H : PH) : frm md H H := fun _ _ _ _ => rfl
theorem frm_trans {md : List Nat} {H H1 H2 : PH} (h : frm md H H1) (h' : frm md H1 H2) : frm md H H2 := fun c y z q => (h' c y z q).trans (h c y z q)
theorem inmd_sub {md md' : List Nat} {t : Nat} {y : Int} (htt : t < 1000) (h : md'.all (covm md) = true) (ht : inmd md' t y = true) : inmd md t y = true := by
  unfold inmd at ht
  rw [List.any_eq_true] at ht
  obtain ⟨m, h1, h2⟩ := ht
  have h3 := List.all_eq_true.mp h m h1
  unfold covm at h3
  unfold inmd
  rw [List.any_eq_true] at h3 ⊢
  obtain ⟨n, h4, h5⟩ := h3
  refine ⟨n, h4, ?_⟩
  simp only [Bool.or_eq_true, Bool.and_eq_true, decide_eq_true_iff] at h2 h5 ⊢
  rcases h5 with (h5 | h5) | h5
  · exact Or.inl (Or.inl h5)
  · have e := Nat.eq_of_beq_eq_true h5
    subst e
    exact h2
  · rcases h2 with (h2 | h2) | h2
    · have := Nat.eq_of_beq_eq_true h2
      have := Nat.le_of_ble_eq_true h5.1
      omega
    · have e2 := Nat.eq_of_beq_eq_true h2
      have h6 := Nat.le_of_ble_eq_true h5.1
      omega
    · refine Or.inl (Or.inr ?_)
      rw [Nat.eq_of_beq_eq_true h5.2]
      exact h2.1.2
theorem frm_sub {md md' : List Nat} {H H' : PH} (h : md'.all (covm md) = true) (hf : frm md' H H') : frm md H H' := fun c y z q => hf c y z (by
  cases e : inmd md' (tau c) y with
  | false => rfl
  | true => rw [inmd_sub z h e] at q; cases q)
theorem lt_1000 {t : Nat} (h : Nat.ble 1000 t = false) : t < 1000 := by
  rcases (by omega : t < 1000 ∨ 1000 ≤ t) with q | q
  · exact q
  · rw [Nat.ble_eq_true_of_le q] at h; cases h
noncomputable def PM (md : List Nat) (o : aG) : Bool := (Nat.beq o.1 2 && (inmd md (tau o.2.1) o.2.2 || Nat.ble 1000 (tau o.2.1))) || (Nat.beq o.1 3 && (inmdA md (tau o.2.1) || Nat.ble 1000 (tau o.2.1)))
theorem PM_oval {md : List Nat} {H H' : PH} {ls : PL} {o : aG} {x : Int} (hf : frm md H H') (h : PM md o = false) : oval ls H' o x ↔ oval ls H o x := by
  obtain ⟨k, a, b⟩ := o
  unfold PM at h
  rw [Bool.or_eq_false_iff] at h
  match k, h with
  | 0, _ => exact Iff.rfl
  | 1, _ => exact Iff.rfl
  | 2, h =>
    have h : (true && (inmd md (tau a) b || Nat.ble 1000 (tau a))) = false := h.1
    rw [Bool.true_and, Bool.or_eq_false_iff] at h
    show gv H' a b = x ↔ gv H a b = x
    rw [hf a b (lt_1000 h.2) h.1]
  | 3, h =>
    have h : (true && (inmdA md (tau a) || Nat.ble 1000 (tau a))) = false := h.2
    rw [Bool.true_and, Bool.or_eq_false_iff] at h
    have e : ∀ y, gv H' a y = gv H a y := fun y => hf a y (lt_1000 h.2) (inmd_A h.1 (lt_1000 h.2))
    exact ⟨fun ⟨y, h1, h2⟩ => ⟨y, h1, by rw [← e]; exact h2⟩, fun ⟨y, h1, h2⟩ => ⟨y, h1, by rw [e]; exact h2⟩⟩
  | _ + 4, _ => exact Iff.rfl
def aargs : List aV → List pv → Prop
  | [], [] => True
  | a :: s, p :: t => aval a p ∧ aargs s t
  | _, _ => False
def rok (a : Option aV) (r : Option pv) : Prop := match a, r with
  | none, none => True
  | some a, some p => aval a p
  | _, _ => False
def CtOK (c : aC) : Prop := ∀ (G : zG) (us : Nat) (g : Nat → Nat → Int) (H : PH) (as : List pv), GOK g → WT c.2.2.2.2.2.1 g H → aargs c.2.2.1 as → (∀ f ∈ c.2.2.2.2.2.2.2.1, fok [] H f) → Ca G us c.2.1 c.1 as H (fun r H' => WT c.2.2.2.2.2.1 g H' ∧ rok c.2.2.2.1 r ∧ (∀ x, r = some (0, x) → ∀ f ∈ c.2.2.2.2.1, f.1 ≤ x → x ≤ f.2.1 → ∀ y, as[f.2.2.1]? = some (0, y) → f.2.2.2.1 ≤ y ∧ y ≤ f.2.2.2.2) ∧ frm c.2.2.2.2.2.2.1 H H' ∧ (∀ x, r = some (0, x) → ∀ f ∈ c.2.2.2.2.2.2.2.2.1, f.1 ≤ x → x ≤ f.2.1 → fok [] H' f.2.2) ∧ ∀ f ∈ c.2.2.2.2.2.2.2.2.2, fok [] H' f)
theorem fz_mono {lv lv' t i : Nat} (h : lv' ≤ lv) (hf : fz lv t i = true) : fz lv' t i = true := by
  unfold fz at hf ⊢
  rw [Bool.or_eq_true, Bool.and_eq_true, Bool.and_eq_true] at hf ⊢
  refine hf.imp (fun q => ⟨?_, q.2⟩) (fun q => ⟨?_, q.2⟩)
  · have := Nat.le_of_ble_eq_true q.1
    exact Nat.ble_eq_true_of_le (by omega)
  · have := Nat.eq_of_beq_eq_true q.1
    have e : lv' = 0 := by omega
    rw [e]
    rfl
theorem fz_law {lv k : Nat} (h : lv ≤ 1) (h1 : 10 ≤ k) (h2 : k < 76) : fz lv (tau 591) k = true := by
  have e : tau 591 = 32 := rfl
  unfold fz
  rw [e, Nat.ble_eq_true_of_le h, Nat.ble_eq_true_of_le h1, Nat.blt_eq.mpr h2]
  rfl
theorem sh_591' : (zSh 591).2.1 = 1124 := rfl
/-- a contract of a lower level serves a higher one -/
theorem Ct_lv {c : aC} (hc : CtOK c) {lv : Nat} (h1 : c.2.2.2.2.2.1 ≤ lv) (h2 : lv ≤ 1) {G : zG} {us : Nat} {g : Nat → Nat → Int} {H : PH} {as : List pv} (hg : GOK g) (hW : WT lv g H) (ha : aargs c.2.2.1 as) (hp : ∀ f ∈ c.2.2.2.2.2.2.2.1, fok [] H f) : Ca G us c.2.1 c.1 as H (fun r H' => WT lv g H' ∧ rok c.2.2.2.1 r ∧ (∀ x, r = some (0, x) → ∀ f ∈ c.2.2.2.2.1, f.1 ≤ x → x ≤ f.2.1 → ∀ y, as[f.2.2.1]? = some (0, y) → f.2.2.2.1 ≤ y ∧ y ≤ f.2.2.2.2) ∧ frm c.2.2.2.2.2.2.1 H H' ∧ (∀ x, r = some (0, x) → ∀ f ∈ c.2.2.2.2.2.2.2.2.1, f.1 ≤ x → x ≤ f.2.1 → fok [] H' f.2.2) ∧ ∀ f ∈ c.2.2.2.2.2.2.2.2.2, fok [] H' f) := by
  have hg' : GOK (fun c i => gv H c i) := lwf_congr (f := g 591) (fun k a b => (hW 591 k (by decide) (by rw [sh_591']; omega)).2 (fz_law h2 a b)) hg
  have hW' : WT c.2.2.2.2.2.1 (fun c i => gv H c i) H := fun c i a b => ⟨(hW c i a b).1, fun _ => rfl⟩
  refine Ca_mono (Nat.le_refl _) ?_ (hc G us _ H as hg' hW' ha hp)
  rintro r H' ⟨q1, q2⟩
  refine ⟨fun c i a b => ⟨(q1 c i a b).1, fun q => ?_⟩, q2⟩
  rw [(q1 c i a b).2 (fz_mono h1 q)]
  exact (hW c i a b).2 q
