section WJ
variable {J J' : Nat → PL → List pv → PH → Prop} {Q : Option pv → PH → Prop} {C : Nat → List pv → PH → (Option pv → PH → Prop) → Prop}
theorem wI_J (hJ : ∀ t ls st H, J t ls st H → J' t ls st H) {k : PL → List pv → PH → Prop} {p op npc a1 a2 : Nat} {ls : PL} {st : List pv} {H : PH} (h : wI J Q C p op npc a1 a2 ls st H k) : wI J' Q C p op npc a1 a2 ls st H k := by
  match op, h with
  | 0, h => exact h
  | 1, h => exact h
  | 2, h => exact h
  | 3, h => exact h
  | 4, h => exact h
  | 5, h => exact h
  | 6, h => exact h
  | 7, h => exact h
  | 8, h => exact h
  | 9, h => exact h
  | 10, h => exact h
  | 11, h => exact h
  | 12, h => exact h
  | 13, h => exact h
  | 14, h => exact h
  | 15, h => exact h
  | 16, h => exact h
  | 17, h => exact h
  | 18, h => exact h
  | 19, h => exact h
  | 20, h => exact h
  | 21, h => exact h
  | 22, h => exact h
  | 23, h => exact h
  | 24, h => exact h
  | 25, h => exact h
  | 26, h => exact h
  | 27, h => exact h
  | 28, h => exact h
  | 29, h => exact h
  | 30, h => exact h
  | 31, h => exact h
  | 32, h => exact h
  | 33, h => exact h
  | 34, h => exact h
  | 35, h => exact h
  | 36, h => exact ⟨h.1, hJ _ _ _ _ h.2⟩
  | 37, h => obtain ⟨x, r, rfl, w, u, v⟩ := k1_I h; exact ⟨rfl, w, fun q => hJ _ _ _ _ (u q), v⟩
  | 43, h => obtain ⟨x, y, r, rfl, w, u, v⟩ := k2_I h; exact ⟨rfl, rfl, w, fun q => hJ _ _ _ _ (u q), v⟩
  | 38, h => obtain ⟨x, r, rfl, w, u, v⟩ := k1_I h; exact ⟨rfl, w, fun q => hJ _ _ _ _ (u q), v⟩
  | 44, h => obtain ⟨x, y, r, rfl, w, u, v⟩ := k2_I h; exact ⟨rfl, rfl, w, fun q => hJ _ _ _ _ (u q), v⟩
  | 39, h => obtain ⟨x, r, rfl, w, u, v⟩ := k1_I h; exact ⟨rfl, w, fun q => hJ _ _ _ _ (u q), v⟩
  | 45, h => obtain ⟨x, y, r, rfl, w, u, v⟩ := k2_I h; exact ⟨rfl, rfl, w, fun q => hJ _ _ _ _ (u q), v⟩
  | 40, h => obtain ⟨x, r, rfl, w, u, v⟩ := k1_I h; exact ⟨rfl, w, fun q => hJ _ _ _ _ (u q), v⟩
  | 46, h => obtain ⟨x, y, r, rfl, w, u, v⟩ := k2_I h; exact ⟨rfl, rfl, w, fun q => hJ _ _ _ _ (u q), v⟩
  | 41, h => obtain ⟨x, r, rfl, w, u, v⟩ := k1_I h; exact ⟨rfl, w, fun q => hJ _ _ _ _ (u q), v⟩
  | 47, h => obtain ⟨x, y, r, rfl, w, u, v⟩ := k2_I h; exact ⟨rfl, rfl, w, fun q => hJ _ _ _ _ (u q), v⟩
  | 42, h => obtain ⟨x, r, rfl, w, u, v⟩ := k1_I h; exact ⟨rfl, w, fun q => hJ _ _ _ _ (u q), v⟩
  | 48, h => obtain ⟨x, y, r, rfl, w, u, v⟩ := k2_I h; exact ⟨rfl, rfl, w, fun q => hJ _ _ _ _ (u q), v⟩
  | 49, h => exact h
  | 50, h => exact h
  | 51, h => exact h
  | 52, h => exact h
  | 53, h => exact h
  | 54, h => exact h
  | 55, h => exact h
  | 56, h => exact h
  | 57, h => exact h
  | 58, h => exact h
  | 59, h => exact h
  | 66, h => exact h
  | 100, h => obtain ⟨x, r, rfl, t, e, u, v⟩ := k1_I h; exact ⟨rfl, t, e, fun q => hJ _ _ _ _ (u q), v⟩
  | 101, h => obtain ⟨x, r, rfl, t, e, u, v⟩ := k1_I h; exact ⟨rfl, t, e, fun q => hJ _ _ _ _ (u q), v⟩
  | 102, h => obtain ⟨x, r, rfl, t, e, u, v⟩ := k1_I h; exact ⟨rfl, t, e, fun q => hJ _ _ _ _ (u q), v⟩
  | 103, h => obtain ⟨x, r, rfl, t, e, u, v⟩ := k1_I h; exact ⟨rfl, t, e, fun q => hJ _ _ _ _ (u q), v⟩
  | 104, h => obtain ⟨x, r, rfl, t, e, u, v⟩ := k1_I h; exact ⟨rfl, t, e, fun q => hJ _ _ _ _ (u q), v⟩
  | 105, h => obtain ⟨x, r, rfl, t, e, u, v⟩ := k1_I h; exact ⟨rfl, t, e, fun q => hJ _ _ _ _ (u q), v⟩
  | 106, h => obtain ⟨x, r, rfl, t, e, u, v⟩ := k1_I h; exact ⟨rfl, t, e, fun q => hJ _ _ _ _ (u q), v⟩
  | 107, h => obtain ⟨x, r, rfl, t, e, u, v⟩ := k1_I h; exact ⟨rfl, t, e, fun q => hJ _ _ _ _ (u q), v⟩
  | 108, h => obtain ⟨x, r, rfl, t, e, u, v⟩ := k1_I h; exact ⟨rfl, t, e, fun q => hJ _ _ _ _ (u q), v⟩
  | 109, h => obtain ⟨x, r, rfl, t, e, u, v⟩ := k1_I h; exact ⟨rfl, t, e, fun q => hJ _ _ _ _ (u q), v⟩
  | 110, h => obtain ⟨x, r, rfl, t, e, u, v⟩ := k1_I h; exact ⟨rfl, t, e, fun q => hJ _ _ _ _ (u q), v⟩
  | 111, h => obtain ⟨x, r, rfl, t, e, u, v⟩ := k1_I h; exact ⟨rfl, t, e, fun q => hJ _ _ _ _ (u q), v⟩
  | 112, h => obtain ⟨x, r, rfl, t, e, u, v⟩ := k1_I h; exact ⟨rfl, t, e, fun q => hJ _ _ _ _ (u q), v⟩
  | 113, h => obtain ⟨x, r, rfl, t, e, u, v⟩ := k1_I h; exact ⟨rfl, t, e, fun q => hJ _ _ _ _ (u q), v⟩
  | 60, h => exact h
  | 61, h => exact h
  | 62, h => exact h
  | 63, h => exact h
  | 64, h => exact h
  | 65, h => exact h
  | 67, h => exact h
  | 68, h => exact h
  | 69, h => exact h
  | 70, h => exact h
  | 71, h => exact h
  | 72, h => exact h
  | 73, h => exact h
  | 74, h => exact h
  | 75, h => exact h
  | 76, h => exact h
  | 77, h => exact h
  | 78, h => exact h
  | 79, h => exact h
  | 80, h => exact h
  | 81, h => exact h
  | 82, h => exact h
  | 83, h => exact h
  | 84, h => exact h
  | 85, h => exact h
  | 86, h => exact h
  | 87, h => exact h
  | 88, h => exact h
  | 89, h => exact h
  | 90, h => exact h
  | 91, h => exact h
  | 92, h => exact h
  | 93, h => exact h
  | 94, h => exact h
  | 95, h => exact h
  | 96, h => exact h
  | 97, h => exact h
  | 98, h => exact h
  | 99, h => exact h
  | n + 114, h => exact h
theorem wB_J (hJ : ∀ t ls st H, J t ls st H → J' t ls st H) (hCm : ∀ mj as H (K K' : Option pv → PH → Prop), (∀ r H, K r H → K' r H) → C mj as H K → C mj as H K') {nx : Option Nat} : ∀ (b : List VE) (pc : Nat) (ls : PL) (st : List pv) (H : PH), wB J Q C nx b pc ls st H → wB J' Q C nx b pc ls st H
  | [], pc, ls, st, H, h => ⟨h.1, hJ _ _ _ _ h.2⟩
  | e :: t, pc, ls, st, H, h => ⟨h.1, wI_mono (fun ls st H q => wB_J hJ hCm t _ ls st H q) hCm (wI_J hJ h.2)⟩
end WJ
/-! ===== a method that passes, with invariants ===== -/
def bget : List aB → Nat → List VE × Option Nat
  | [], _ => ([], none)
  | q :: t, i => bif Nat.beq q.1 i then q.2 else bget t i
theorem bget_ok {cd : zK} {i : Nat} {k : aB → Bool} : ∀ {B : List aB}, blOK cd B → bfd B i k = true → ∃ b : aB, b.1 = i ∧ zget cd b.1 = b.2.1.map vq ++ vrest cd b.2.2 ∧ k b = true ∧ bget B i = b.2
  | [], _, h => by cases h
  | q :: t, hB, h => by
    unfold bfd at h
    unfold bget
    cases hb : Nat.beq q.1 i with
    | true =>
      rw [hb] at h
      exact ⟨q, Nat.eq_of_beq_eq_true hb, hB.1, h, rfl⟩
    | false =>
      rw [hb] at h
      exact bget_ok hB.2 h
abbrev pJ : Type := Nat → PL → List pv → PH → Prop
def IC (B : List aB) (Inv : pJ) (Q2 : Option pv → PH → Prop) (F : Nat → List pv → PH → (Option pv → PH → Prop) → Prop) : Nat → pJ
  | 0, t, ls, st, H => Inv t ls st H
  | k + 1, t, ls, st, H => Inv t ls st H ∨ wFB (IC B Inv Q2 F k) Q2 F (bget B t).2 (bget B t).1 t ls st H
abbrev pG : Type := Nat → pP × pR × List Nat
/-- what is known of calls -/
def FX (RG : pG) (lv : Nat) (g : Nat → Nat → Int) (mj : Nat) (as : List pv) (H : PH) (K : Option pv → PH → Prop) : Prop := (RG mj).1 as H ∧ ∀ r H', (RG mj).2.1 as H r H' → frm (RG mj).2.2 H H' → WT lv g H' → K r H'
def csRG (RG : pG) : List (Nat × aC) → Prop
  | [] => True
  | q :: t => (FnOK q.2 (RG q.2.1).1 (RG q.2.1).2.1 ∧ q.2.2.2.2.2.2.2.1.all (covm (RG q.2.1).2.2) = true) ∧ csRG RG t
theorem csRG_mem {RG : pG} : ∀ {cs : List (Nat × aC)}, csRG RG cs → ∀ q ∈ cs, FnOK q.2 (RG q.2.1).1 (RG q.2.1).2.1 ∧ q.2.2.2.2.2.2.2.1.all (covm (RG q.2.1).2.2) = true
  | [], _, q, hq => by cases hq
  | a :: t, h, q, hq => by
    rcases List.mem_cons.mp hq with rfl | e
    · exact h.1
    · exact csRG_mem h.2 q e
theorem am_okF {T : List aL} {B : List aB} {cs : List (Nat × aC)} {c : aC} {oc : Nat} {ini : Bool} {cc : ByteArray} {maxL : Nat} {rt : Option FieldType} {cd : zK} (hm : zget zM c.1 = some ((c.1, oc, ini, cc, maxL, rt), cd)) (hB : blOK cd B) (hml : Nat.ble ((c.2.2.1.map fun a => bif Nat.beq a.1 1 then 2 else 1).sum) maxL = true) (hc : amchk T B cs c = true) (hcs : csOK cs) {RG : pG} (hRG : csRG RG cs) {P : pP} {R : pR} (hF : ∀ (g : Nat → Nat → Int) (H : PH) (as : List pv), GOK g → WT c.2.2.2.2.2.1 g H → aargs c.2.2.1 as → (∀ f ∈ c.2.2.2.2.2.2.2.1, fok [] H f) → P as H → ∃ (K : Nat) (Inv : pJ), IC B Inv (R as H) (FX RG c.2.2.2.2.2.1 g) K 0 (parg 0 as) [] H ∧ ∀ (t : Nat) (ls : PL) (st : List pv) (H' : PH), Inv t ls st H' → (∃ l ∈ T, l.1 = t ∧ ∃ ls1, gam ls1 l.2.1 ls st H') → WT c.2.2.2.2.2.1 g H' → frm c.2.2.2.2.2.2.1 H H' → wFB (IC B Inv (R as H) (FX RG c.2.2.2.2.2.1 g) K) (R as H) (FX RG c.2.2.2.2.2.1 g) (bget B t).2 (bget B t).1 t ls st H') : FnOK c P R := by
  intro G us g H as hg hW ha hp hP
  unfold amchk at hc
  simp only [Bool.and_eq_true] at hc
  obtain ⟨⟨⟨⟨⟨⟨c1, c2⟩, c3⟩, c4⟩, c5⟩, c6⟩, c7⟩ := hc
  have c3 := Nat.le_of_ble_eq_true c3
  have c4 := Nat.le_of_ble_eq_true c4
  have hD : c.2.1 - 1 + 1 = c.2.1 := by omega
  obtain ⟨K, Inv, hI, hL⟩ := hF g H as hg hW ha hp hP
  refine ⟨oc, ini, cc, maxL, rt, cd, hm, by rw [aargs_cat ha]; exact Nat.le_of_ble_eq_true hml, ?_⟩
  have hcall : ∀ mj as H K1 K2, CX (csf cs) c.2.2.2.2.2.1 (c.2.1 - 1) g mj as H K1 → FX RG c.2.2.2.2.2.1 g mj as H K2 → Ca G us (c.2.1 - 1) mj as H (fun r H => K1 r H ∧ K2 r H) := by
    rintro mj as H K1 K2 ⟨d, p, hd, rfl, d2, d3, d4, d5, d6, d7⟩ ⟨f1, f2⟩
    obtain ⟨q, hq, rfl⟩ := List.mem_map.mp hd
    obtain ⟨w1, w2⟩ := csRG_mem hRG q (List.mem_filter.mp hq).1
    refine Ca_mono d2 ?_ (Fn_lv w1 d3 c4 hg d4 d5 d6 f1)
    rintro r H' ⟨z1, z2⟩
    exact ⟨d7 r H' z1, f2 r H' z2 (frm_sub w2 z1.2.2.2.1) z1.1⟩
  have hmono : ∀ mj as H (K K' : Option pv → PH → Prop), (∀ r H, K r H → K' r H) → Ca G us (c.2.1 - 1) mj as H K → Ca G us (c.2.1 - 1) mj as H K' := fun mj as H K K' h1 h2 => Ca_mono (Nat.le_refl _) h1 h2
  have key : ∀ (n k : Nat) (l : aL) (ls : PL) (st : List pv) (H' : PH), l ∈ T → (l.2.2.1 + mval ls l.2.2.2).toNat < n → (∃ ls1, sok c.2.2.2.2.2.1 c.2.2.2.2.2.2.1 g H ls1 l.2.1 ls st H') → IC B Inv (R as H) (FX RG c.2.2.2.2.2.1 g) k l.1 ls st H' → Tr G us cd (c.2.1 - 1 + 1) (zget cd l.1) l.1 ls st H' (fun r H2 => cpo c.2.2.2.2.2.1 c g as H r H2 ∧ R as H r H2) := by
    intro n
    induction n with
    | zero => intros; omega
    | succ n ih =>
      intro k l ls st H' hl hn hs hk
      obtain ⟨ls1, hs⟩ := hs
      have h1 := List.all_eq_true.mp c1 l hl
      simp only [Bool.and_eq_true] at h1
      obtain ⟨⟨d1, d2⟩, d3⟩ := h1
      obtain ⟨b, b1, b2, b3, b4⟩ := bget_ok hB d3
      rw [b1] at b2
      have hlow : 0 ≤ l.2.2.1 + mval ls l.2.2.2 := by
        split at d2
        · rename_i d hd
          have := mlow_ok hs.1.1 hd
          have := decide_eq_true_iff.mp d2
          omega
        · cases d2
      have hw : ∃ k', wFB (IC B Inv (R as H) (FX RG c.2.2.2.2.2.1 g) k') (R as H) (FX RG c.2.2.2.2.2.1 g) b.2.2 b.2.1 l.1 ls st H' := by
        have hi : Inv l.1 ls st H' → ∃ k', wFB (IC B Inv (R as H) (FX RG c.2.2.2.2.2.1 g) k') (R as H) (FX RG c.2.2.2.2.2.1 g) b.2.2 b.2.1 l.1 ls st H' := fun q => ⟨K, by
          have := hL l.1 ls st H' q ⟨l, hl, rfl, ls1, hs.1⟩ hs.2.1 hs.2.2
          rw [b4] at this
          exact this⟩
        match k, hk with
        | 0, hk => exact hi hk
        | k + 1, hk =>
          rcases hk with hk | hk
          · exact hi hk
          · rw [b4] at hk
            exact ⟨k, hk⟩
      obtain ⟨k', hw⟩ := hw
      refine tr_lab b.2.1 b.2.2 b2 ?_
      have hb := cB_okX (H0 := H) (ls0 := ls) (J := fun t ls' st' H2 => ∃ q ∈ T, q.1 = t ∧ (q.2.2.1 + mval ls' q.2.2.2).toNat < n ∧ ∃ ls1, sok c.2.2.2.2.2.1 c.2.2.2.2.2.2.1 g H ls1 q.2.1 ls' st' H2) (Q := fun r H2 => cpo c.2.2.2.2.2.1 c g as H r H2) (csf_ok hcs) c4 hg ?_ ?_ b.2.1 l.1 _ ls st H' b3 ⟨begin_ok hs.1 d1, hs.2⟩
      · have hand := wB_and hcall hmono b.2.1 l.1 ls st H' hb hw
        refine wB_J ?_ hmono b.2.1 l.1 ls st H' hand
        rintro t ls' st' H2 ⟨⟨q, q1, q2, q3, q4⟩, q5⟩
        rw [← q2] at q5 ⊢
        exact ih k' q ls' st' H2 q1 q3 q4 q5
      · intro t S ls' st' H2 hj hs'
        obtain ⟨q, q1, q2, q3⟩ := any_ok hj
        rw [Bool.and_eq_true] at q3
        have hg' : gam ls' q.2.1 ls' st' H2 := sle_ok q3.1 hs'.1
        refine ⟨q, q1, q2, ?_, ls', hg', hs'.2⟩
        have h2 := q3.2
        split at h2
        · rename_i d hd
          have e1 := mdif_ok hs'.1.1 hs.1.1 hd
          have e2 := decide_eq_true_iff.mp h2
          have h3 := List.all_eq_true.mp c1 q q1
          simp only [Bool.and_eq_true] at h3
          have h4 := h3.1.2
          split at h4
          · rename_i d' hd'
            have e3 := mlow_ok hg'.1 hd'
            have e4 := decide_eq_true_iff.mp h4
            omega
          · cases h4
        · cases h2
      · intro r H2 r1 r2 r3 r4
        refine ⟨r2, r1, ?_, r3, ?_, r4⟩
        · intro x _ f hf
          rw [List.isEmpty_iff.mp c5] at hf
          cases hf
        · intro x _ f hf
          rw [List.isEmpty_iff.mp c7] at hf
          cases hf
  obtain ⟨q, q1, q2, q3⟩ := any_ok c2
  have h0 := (args0_ok (H := H) (ls0 := []) 0 (parg 0 as) ha (fun j p h => h)).2
  have hov : ∀ f ∈ c.2.2.2.2.2.2.2.1, fok (parg 0 as) H f := by
    intro f hf x hx
    have h2 := Nat.eq_of_beq_eq_true (List.all_eq_true.mp c6 f hf)
    refine hp f hf x ?_
    obtain ⟨⟨k1, k2, k3⟩, k4⟩ := f
    have h2 : k1 = 2 := h2
    subst h2
    exact hx
  have := key _ K q (parg 0 as) [] H q1 (Nat.lt_succ_self _) ⟨[], sle_ok (ls0 := []) (S := (args0 0 c.2.2.1, [], c.2.2.2.2.2.2.2.1)) q3 ⟨h0, trivial, hov⟩, hW, frm_refl _ _⟩ (by rw [q2]; exact hI)
  rw [q2, hD] at this
  exact this
/-! what the checker knows at a place -/
noncomputable def kRng (T : List aL) (t i : Nat) (lo hi : Int) : Bool := T.all (fun l => !Nat.beq l.1 t || (hasL l.2.1.1 i && Nat.beq (atL l.2.1.1 i).1.1 0 && decide (lo ≤ (atL l.2.1.1 i).1.2.1) && decide ((atL l.2.1.1 i).1.2.2.1 ≤ hi)))
noncomputable def kRef (T : List aL) (t i ty : Nat) : Bool := T.all (fun l => !Nat.beq l.1 t || (hasL l.2.1.1 i && Nat.beq (atL l.2.1.1 i).1.1 2 && Nat.beq (atL l.2.1.1 i).1.2.2.2 ty))
noncomputable def kLng (T : List aL) (t i : Nat) : Bool := T.all (fun l => !Nat.beq l.1 t || (hasL l.2.1.1 i && Nat.beq (atL l.2.1.1 i).1.1 1))
noncomputable def kStk (T : List aL) (t : Nat) : Bool := T.all (fun l => !Nat.beq l.1 t || l.2.1.2.1.isEmpty)
section KN
variable {T : List aL} {t i : Nat} {ls : PL} {st : List pv} {H : PH}
theorem kRng_ok {lo hi : Int} (h : kRng T t i lo hi = true) (hg : ∃ l ∈ T, l.1 = t ∧ ∃ ls1, gam ls1 l.2.1 ls st H) : ∃ x, pget ls i = some (0, x) ∧ lo ≤ x ∧ x ≤ hi := by
  obtain ⟨l, hl, e, ls1, hgm⟩ := hg
  have h := List.all_eq_true.mp h l hl
  rw [e, Nat.beq_refl] at h
  simp only [Bool.not_true, Bool.false_or, Bool.and_eq_true, decide_eq_true_iff] at h
  obtain ⟨⟨⟨h1, h2⟩, h3⟩, h4⟩ := h
  obtain ⟨p, g1, g2⟩ := hgm.1 _ (atL_mem h1)
  have h2 := Nat.eq_of_beq_eq_true h2
  have q := aval_int g2.1 h2
  refine ⟨p.2, ?_, Int.le_trans h3 q.2.1, Int.le_trans q.2.2.1 h4⟩
  rw [← q.1]
  exact g1
theorem kRef_ok {ty : Nat} (h : kRef T t i ty = true) (hg : ∃ l ∈ T, l.1 = t ∧ ∃ ls1, gam ls1 l.2.1 ls st H) : ∃ x, pget ls i = some (2, x) ∧ 0 ≤ x ∧ x < 622 ∧ tau x.toNat = ty := by
  obtain ⟨l, hl, e, ls1, hgm⟩ := hg
  have h := List.all_eq_true.mp h l hl
  rw [e, Nat.beq_refl] at h
  simp only [Bool.not_true, Bool.false_or, Bool.and_eq_true] at h
  obtain ⟨⟨h1, h2⟩, h3⟩ := h
  obtain ⟨p, g1, g2⟩ := hgm.1 _ (atL_mem h1)
  have h2 := Nat.eq_of_beq_eq_true h2
  have h3 := Nat.eq_of_beq_eq_true h3
  have q := g2.1.2.2.2 h2
  have q0 : p.1 = 2 := g2.1.1.trans h2
  refine ⟨p.2, ?_, q.1, q.2.1, q.2.2.trans h3⟩
  rw [← q0]
  exact g1
theorem kLng_ok (h : kLng T t i = true) (hg : ∃ l ∈ T, l.1 = t ∧ ∃ ls1, gam ls1 l.2.1 ls st H) : ∃ x, pget ls i = some (1, x) := by
  obtain ⟨l, hl, e, ls1, hgm⟩ := hg
  have h := List.all_eq_true.mp h l hl
  rw [e, Nat.beq_refl] at h
  simp only [Bool.not_true, Bool.false_or, Bool.and_eq_true] at h
  obtain ⟨p, g1, g2⟩ := hgm.1 _ (atL_mem h.1)
  have q0 : p.1 = 1 := g2.1.1.trans (Nat.eq_of_beq_eq_true h.2)
  refine ⟨p.2, ?_⟩
  rw [← q0]
  exact g1
theorem kStk_ok (h : kStk T t = true) (hg : ∃ l ∈ T, l.1 = t ∧ ∃ ls1, gam ls1 l.2.1 ls st H) : st = [] := by
  obtain ⟨l, hl, e, ls1, hgm⟩ := hg
  have h := List.all_eq_true.mp h l hl
  rw [e, Nat.beq_refl] at h
  simp only [Bool.not_true, Bool.false_or] at h
  have h2 := hgm.2.1
  rw [List.isEmpty_iff.mp h] at h2
  cases st with
  | nil => rfl
  | cons a b => exact h2.elim
end KN
