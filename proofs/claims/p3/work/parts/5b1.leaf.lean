/-! ===== the class reads the law ===== -/
theorem pup_pup {H : PH} {c i v w : Int} : pup (pup H c i v) c i w = pup H c i w := by
  funext c' i'
  unfold pup
  by_cases h : c' = c ∧ i' = i
  · rw [if_pos h, if_pos h]
  · rw [if_neg h, if_neg h, if_neg h]
theorem pup_id {H : PH} {c i : Int} : pup H c i (H c i) = H := by
  funext c' i'
  unfold pup
  by_cases h : c' = c ∧ i' = i
  · rw [if_pos h, h.1, h.2]
  · rw [if_neg h]
theorem pup_r {H : PH} {c i v c' : Int} (h : ¬ c' = c) : pup H c i v c' = H c' := funext fun j => if_neg (fun q => h q.1)
theorem dgt_end {T : Int → Int} {z a v : Int} {k : Nat} (h : k = 0 ∨ ¬ isD (nxb T z a)) : dgt T z k a v = (a, v) := by
  cases k with
  | zero => rfl
  | succ k =>
    rcases h with h | h
    · cases h
    · exact if_neg h
theorem dgt_step {T : Int → Int} {z a v : Int} {k : Nat} (hk : 0 < k) (h0 : 0 ≤ a) (hz : a < z) (h : 48 ≤ T a ∧ T a ≤ 57) : dgt T z k a v = dgt T z (k - 1) (a + 1) (v * 10 + T a - 48) := by
  obtain ⟨j, rfl⟩ : ∃ j, k = j + 1 := ⟨k - 1, by omega⟩
  have e : nxb T z a = T a := if_pos ⟨h0, hz⟩
  have : dgt T z (j + 1) a v = if isD (nxb T z a) then dgt T z j (a + 1) (v * 10 + nxb T z a - 48) else (a, v) := rfl
  rw [this, e, if_pos h]
  rfl
/-- the law's cells -/
noncomputable def lawC (c : Nat) : Bool := !Nat.beq (tau c) 4 || (Nat.beq (zSh c).1 4 && Nat.beq (zSh c).2.1 4 && (match zrt c 0 with | some v => decide (v = (c : Int) + 1) | none => false) && (zrt c 2).isNone && (zrt c 3).isNone && Nat.blt (c + 1) 622 && Nat.beq (tau (c + 1)) 47 && Nat.beq (zSh (c + 1)).1 16 && Nat.beq (zSh (c + 1)).2.1 60)
theorem lawC_all : (List.range 622).all lawC = true := by decide +kernel
/-- a law's cell -/
def LC (c : Int) : Prop := 0 ≤ c ∧ c < 622 ∧ tau c.toNat = 4

theorem LC_f {c : Int} (h : LC c) : ((zSh c.toNat).1 = 4 ∧ (zSh c.toNat).2.1 = 4) ∧ (zrt c.toNat 0 = some (c + 1) ∧ zrt c.toNat 2 = none ∧ zrt c.toNat 3 = none) ∧ (c + 1 < 622 ∧ tau (c + 1).toNat = 47 ∧ (zSh (c + 1).toNat).1 = 16 ∧ (zSh (c + 1).toNat).2.1 = 60) ∧ (¬ c = 213 ∧ ¬ c = 214 ∧ ¬ c + 1 = 213 ∧ ¬ c + 1 = 214) ∧ (∀ X : PH, gv X c 0 = c + 1 ∧ gv X c 2 = X c 2 ∧ gv X c 3 = X c 3) := by
  obtain ⟨h0, h1, h2⟩ := h
  have q := List.all_eq_true.mp lawC_all c.toNat (List.mem_range.mpr (by omega))
  unfold lawC at q
  rw [h2] at q
  have e1 : c.toNat + 1 = (c + 1).toNat := by omega
  have ec : ((c.toNat : Nat) : Int) = c := by omega
  simp only [Nat.beq_refl, Bool.not_true, Bool.false_or, Bool.and_eq_true] at q
  obtain ⟨⟨⟨⟨⟨⟨⟨⟨a1, a2⟩, a3⟩, a4⟩, a5⟩, a6⟩, a7⟩, a8⟩, a9⟩ := q
  have z0 : zrt c.toNat 0 = some (c + 1) := by
    cases hz : zrt c.toNat 0 with
    | none => rw [hz] at a3; cases a3
    | some v =>
      rw [hz] at a3
      have := decide_eq_true_iff.mp a3
      rw [this, ec]
  have z2 := Option.isNone_iff_eq_none.mp a4
  have z3 := Option.isNone_iff_eq_none.mp a5
  have a6 := Nat.blt_eq.mp a6
  have a7 := Nat.eq_of_beq_eq_true a7
  rw [e1] at a7 a8 a9
  refine ⟨⟨Nat.eq_of_beq_eq_true a1, Nat.eq_of_beq_eq_true a2⟩, ⟨z0, z2, z3⟩, ⟨by omega, a7, Nat.eq_of_beq_eq_true a8, Nat.eq_of_beq_eq_true a9⟩, ⟨?_, ?_, ?_, ?_⟩, fun X => ⟨?_, gv_none (by exact z2), gv_none (by exact z3)⟩⟩
  · rintro rfl
    exact absurd h2 (by decide +kernel)
  · rintro rfl
    exact absurd h2 (by decide +kernel)
  · intro e
    rw [e] at a7
    exact absurd a7 (by decide +kernel)
  · intro e
    rw [e] at a7
    exact absurd a7 (by decide +kernel)
  · show gv X c 0 = c + 1
    unfold gv
    show (match zrt c.toNat (0 : Int).toNat with | some v => v | none => X c 0) = c + 1
    rw [show ((0 : Int)).toNat = 0 from rfl, z0]
def encC (x : Int) : Int := if 0 ≤ x then x else if x = -115 then 10000 else if x = -111 then 10001 else if x = -99 then 10002 else 11000 - x
def cdC (H : PH) (c : Int) : List Int := (List.range (H c 2).toNat).map (fun i : Nat => encC (H (c + 1) i))
/-- what the class has read -/
def sC (H : PH) (c : Int) : LwS := (H 213 2, H c 3, cdC H c)
theorem cdC_len {H : PH} {c : Int} (h : 0 ≤ H c 2) : ((cdC H c).length : Int) = H c 2 := by
  unfold cdC
  rw [List.length_map, List.length_range]
  omega
theorem cdC_eq {H H' : PH} {c : Int} (h1 : H' c 2 = H c 2) (h2 : H' (c + 1) = H (c + 1)) : cdC H' c = cdC H c := by
  unfold cdC
  rw [h1, h2]
theorem cdC_add {H : PH} {c x : Int} (hc : LC c) (h0 : 0 ≤ H c 2) : cdC (pup (pup H (c + 1) (H c 2) x) c 2 (H c 2 + 1)) c = cdC H c ++ [encC x] := by
  have e1 : pup (pup H (c + 1) (H c 2) x) c 2 (H c 2 + 1) c 2 = H c 2 + 1 := if_pos ⟨rfl, rfl⟩
  have e2 : pup (pup H (c + 1) (H c 2) x) c 2 (H c 2 + 1) (c + 1) = pup H (c + 1) (H c 2) x (c + 1) := pup_r (by omega)
  unfold cdC
  rw [e1, e2, show (H c 2 + 1).toNat = (H c 2).toNat + 1 by omega, List.range_succ, List.map_append]
  congr 1
  · refine List.map_congr_left fun i hi => ?_
    have hi := List.mem_range.mp hi
    have : pup H (c + 1) (H c 2) x (c + 1) (i : Int) = H (c + 1) i := if_neg (fun q => by have := q.2; omega)
    rw [this]
  · show [encC (pup H (c + 1) (H c 2) x (c + 1) ((H c 2).toNat : Int))] = [encC x]
    have : pup H (c + 1) (H c 2) x (c + 1) ((H c 2).toNat : Int) = x := if_pos ⟨rfl, by omega⟩
    rw [this]
theorem sC_eq {H H' : PH} {c : Int} (h0 : H' 213 2 = H 213 2) (h1 : H' c = H c) (h2 : H' (c + 1) = H (c + 1)) : sC H' c = sC H c := by
  unfold sC
  rw [h0, cdC_eq (by rw [h1]) h2, h1]
theorem sC_213 {H : PH} {c i v : Int} (hc : LC c) : sC (pup H 213 i v) c = (pup H 213 i v 213 2, (sC H c).2) := by
  have n := (LC_f hc).2.2.2.1
  unfold sC
  rw [cdC_eq (H' := pup H 213 i v) (H := H) (by rw [pup_r n.1]) (pup_r n.2.2.1), pup_r n.1]
theorem sC_3 {H : PH} {c v : Int} (hc : LC c) : sC (pup H c 3 v) c = (H 213 2, v, cdC H c) := by
  have n := (LC_f hc).2.2.2.1
  unfold sC
  rw [cdC_eq (H' := pup H c 3 v) (H := H) (if_neg (fun q => by have := q.2; omega)) (pup_r (by omega)), pup_r (fun q => n.1 q.symm)]
  rw [show pup H c 3 v c 3 = v from if_pos ⟨rfl, rfl⟩]
theorem sC_add {H : PH} {c x : Int} (hc : LC c) (h0 : 0 ≤ H c 2) : sC (pup (pup H (c + 1) (H c 2) x) c 2 (H c 2 + 1)) c = pst (sC H c) (encC x) := by
  have n := (LC_f hc).2.2.2.1
  unfold sC pst
  rw [cdC_add hc h0, pup_r (c' := 213) (fun q => n.1 q.symm), pup_r (c' := 213) (fun q => n.2.2.1 q.symm)]
  have : pup (pup H (c + 1) (H c 2) x) c 2 (H c 2 + 1) c 3 = H c 3 := by
    have e : pup (pup H (c + 1) (H c 2) x) c 2 (H c 2 + 1) c 3 = pup H (c + 1) (H c 2) x c 3 := if_neg (fun q => by have := q.2; omega)
    rw [e, pup_r (by omega)]
  rw [this]
theorem WT_law {lv : Nat} {g : Nat → Nat → Int} {H : PH} {c : Int} (h : WT lv g H) (hc : LC c) : (0 ≤ H c 2 ∧ H c 2 ≤ 60) := by
  obtain ⟨f1, f2, f3, f4, f5⟩ := LC_f hc
  obtain ⟨h0, h1, h2⟩ := hc
  have q := (h c.toNat 2 (by omega) (by rw [f1.2]; omega)).1
  rw [h2] at q
  have e : gv H (c.toNat : Int) ((2 : Nat) : Int) = H c 2 := by
    rw [show ((c.toNat : Nat) : Int) = c by omega]
    exact (f5 H).2.1
  rw [e] at q
  have q : aval (0, 0, 60, 1) (0, H c 2) := q
  exact ⟨(q.2.1 rfl).1, (q.2.1 rfl).2.1⟩
def Rnext : pR := fun _ H r H' => H = H' ∧ r = some (0, nxb (H 214) (H 213 1) (H 213 2))
theorem fn_next : FnOK cc_X10_next (fun _ _ => True) Rnext := Fn_of ct_X10_next rfl (fun G us g H as hg hW ha hp _ => by
  obtain ⟨p0, rfl, A0⟩ := aargs1 ha
  have e0 := arg_sing (n := 213) A0 rfl
  subst e0
  refine Ca_use (ca_X10_next H (rf_213_2 hW).1 (rf_213_2 hW).2 (rf_213_1 hW).2) (Nat.le_refl _) ?_
  rintro r H' ⟨rfl, rfl⟩
  have e : nx H = nxb (H 214) (H 213 1) (H 213 2) := by
    unfold nx nxb
    by_cases c : H 213 2 < H 213 1
    · rw [if_pos c, if_pos ⟨(rf_213_2 hW).1, c⟩]
    · rw [if_neg c, if_neg (fun q => c q.2)]
  rw [e]
  exact ⟨rfl, rfl⟩) (fun as H p H' q => by rw [Option.some.inj q.2]; exact Nat.zero_le 2)
def Rfail : pR := fun as H r H' => H' = pup H 213 3 (ai as 1) ∧ r = some (0, 0)
theorem fn_fail : FnOK cc_X10_fail (fun _ _ => True) Rfail := Fn_of ct_X10_fail rfl (fun G us g H as hg hW ha hp _ => by
  obtain ⟨p0, p1, rfl, A0, A1⟩ := aargs2 ha
  have e0 := arg_sing (n := 213) A0 rfl
  subst e0
  obtain ⟨x, rfl, _⟩ := arg_int A1
  exact ca_X10_fail x H) (fun as H p H' q => by rw [Option.some.inj q.2]; exact Nat.zero_le 2)
def Rskip : pR := fun as H r H' => (r = some (0, 0) ∧ H' = pup H 213 3 (H 213 2) ∧ ¬ nxb (H 214) (H 213 1) (H 213 2) = ai as 1) ∨ (r = some (0, 1) ∧ H' = pup H 213 2 (H 213 2 + 1) ∧ nxb (H 214) (H 213 1) (H 213 2) = ai as 1)
def RisD : pR := fun as H r H' => H = H' ∧ r = some (0, if 48 ≤ ai as 0 ∧ ai as 0 ≤ 57 then 1 else 0)
theorem fn_isD : FnOK cc_X10_isDigit (fun _ _ => True) RisD := Fn_of ct_X10_isDigit rfl (fun G us g H as hg hW ha hp _ => by
  obtain ⟨p0, rfl, A0⟩ := aargs1 ha
  obtain ⟨x, rfl, _⟩ := arg_int A0
  refine Ca_use (ca_X10_isDigit x H) (Nat.le_refl _) ?_
  rintro r H' ⟨rfl, rfl⟩
  exact ⟨rfl, rfl⟩) (fun as H p H' q => by rw [Option.some.inj q.2]; exact Nat.zero_le 2)
def RisS : pR := fun as H r H' => H = H' ∧ r = some (0, if ai as 0 = 43 ∨ ai as 0 = 45 then 1 else 0)
theorem fn_isS : FnOK cc_X4_isSumSign (fun _ _ => True) RisS := Fn_of ct_X4_isSumSign rfl (fun G us g H as hg hW ha hp _ => by
  obtain ⟨p0, rfl, A0⟩ := aargs1 ha
  obtain ⟨x, rfl, _⟩ := arg_int A0
  refine Ca_use (ca_X4_isSumSign x H) (Nat.le_refl _) ?_
  rintro r H' ⟨rfl, rfl⟩
  exact ⟨rfl, rfl⟩) (fun as H p H' q => by rw [Option.some.inj q.2]; exact Nat.zero_le 2)
def RisP : pR := fun as H r H' => H = H' ∧ r = some (0, if ai as 0 = 42 ∨ ai as 0 = 47 ∨ ai as 0 = 60 ∨ ai as 0 = 62 then 1 else 0)
theorem fn_isP : FnOK cc_X4_isProductSign (fun _ _ => True) RisP := Fn_of ct_X4_isProductSign rfl (fun G us g H as hg hW ha hp _ => by
  obtain ⟨p0, rfl, A0⟩ := aargs1 ha
  obtain ⟨x, rfl, _⟩ := arg_int A0
  refine Ca_use (ca_X4_isProductSign x H) (Nat.le_refl _) ?_
  rintro r H' ⟨rfl, rfl⟩
  exact ⟨rfl, rfl⟩) (fun as H p H' q => by rw [Option.some.inj q.2]; exact Nat.zero_le 2)

set_option maxRecDepth 20000 in
set_option maxHeartbeats 4000000 in
theorem ca_X4_addF {G : zG} {us : Nat} (c d x : Int) (H : PH) (c0 : 0 ≤ c) (c1 : c < 622) (s1 : (zSh c.toNat).1 = 4) (s2 : (zSh c.toNat).2.1 = 4) (d0 : 0 ≤ d) (d1 : d < 622) (s3 : (zSh d.toNat).1 = 16) (s4 : (zSh d.toNat).2.1 = 60) (z2 : zrt c.toNat 2 = none) (g0 : gv H c 0 = d) (g2 : gv H c 2 = H c 2) (g3 : gv (pup H d (H c 2) x) c 2 = H c 2) (r0 : 0 ≤ H c 2) (r1 : H c 2 ≤ 60) : Ca G us 1 50 [(2, c), (0, x)] H (fun r H' => r = none ∧ ((60 ≤ H c 2 ∧ H' = H) ∨ (H c 2 < 60 ∧ H' = pup (pup H d (H c 2) x) c 2 (H c 2 + 1)))) := by
  refine ⟨_, _, _, _, _, _, vm_X4_add, by simp [pcat], ?_⟩
  refine tr_lab (D := 0) (t := 0) vb_X4_add_0 _ ve_X4_add_0 ?_
  simp (maxDischargeDepth := 12) [vb_X4_add_0, wB, wI, k1, kI, kR, kL, k2, pget, pget_pset, pnl_pset, pnl_cons, pnl_nil, parg, ppush, pcat, zw_lit, zw_m1, zw_m2, zw_m3, zNC_eq, zrow, pup_app, pe, tg_4_0, tg_4_2, zfit, zisI, sh_590, s1, s2, s3, s4, g0, g2, g3, c0, c1, d0, d1, z2]
  repeat' (with_reducible (first | (refine And.intro ?_ ?_) | intro _))
  all_goals try (refine tr_lab (D := 0) (t := 32) vb_X4_add_32 _ ve_X4_add_32 ?_; simp (maxDischargeDepth := 12) [vb_X4_add_32, wB, wI, k1, kI, kR, kL, k2, pget, pget_pset, pnl_pset, pnl_cons, pnl_nil, parg, ppush, pcat, zw_lit, zw_m1, zw_m2, zw_m3, zNC_eq, zrow, pup_app, pe, tg_4_0, tg_4_2, zfit, zisI, sh_590, s1, s2, s3, s4, g0, g2, g3, c0, c1, d0, d1, z2])
  all_goals repeat' (with_reducible (first | (refine And.intro ?_ ?_) | intro _))
  all_goals (first | omega | (exact Or.inl (by omega)) | (exact Or.inr (by omega)) | (simp (disch := omega) only [zw_lit]; first | omega | (exact Or.inr (by omega)) | simp; omega) | skip)

def Radd : pR := fun as H r H' => r = none ∧ (H (ai as 0) 2 < 60 → H' = pup (pup H (ai as 0 + 1) (H (ai as 0) 2) (ai as 1)) (ai as 0) 2 (H (ai as 0) 2 + 1))
theorem fn_add : FnOK cc_X4_add (fun _ _ => True) Radd := Fn_of ct_X4_add rfl (fun G us g H as hg hW ha hp _ => by
  obtain ⟨p0, p1, rfl, A0, A1⟩ := aargs2 ha
  obtain ⟨c, rfl, hc, ht⟩ := arg_ref A0
  obtain ⟨x, rfl, _⟩ := arg_int A1
  have hL : LC (c : Int) := ⟨by omega, by omega, by rw [Int.toNat_natCast]; exact ht⟩
  obtain ⟨f1, f2, f3, f4, f5⟩ := LC_f hL
  have w := WT_law hW hL
  refine Ca_use (ca_X4_addF (c : Int) ((c : Int) + 1) x H hL.1 hL.2.1 f1.1 f1.2 (by omega) f3.1 f3.2.2.1 f3.2.2.2 f2.2.1 (f5 H).1 (f5 H).2.1 (by rw [(f5 _).2.1]; exact if_neg (fun q => by have := q.1; omega)) w.1 w.2) (Nat.le_refl _) ?_
  rintro r H' ⟨rfl, q⟩
  refine ⟨rfl, fun hlt => ?_⟩
  rcases q with ⟨q, _⟩ | ⟨_, q⟩
  · have : 60 ≤ H c 2 := q
    have : H c 2 < 60 := hlt
    omega
  · exact q) (fun as H p H' q => by cases q.1)

set_option maxRecDepth 20000 in
set_option maxHeartbeats 4000000 in
theorem lp_X10_digits_16F {G : zG} {us : Nat} {lv : Nat} {g : Nat → Nat → Int} (H0 : PH) (hW : WT lv g H0) (m : Nat) (t : Int)  (hm : m ≤ 4) (h0 : 0 ≤ H0 213 2) (h1 : H0 213 1 ≤ 600) (h2 : H0 213 2 ≤ 600) (ht : t = if zw (H0 213 2 + m) < H0 213 1 then zw (H0 213 2 + m) else H0 213 1) (ht2 : (t = H0 213 1 ∨ t = H0 213 2 + m) ∧ t ≤ H0 213 1 ∧ t ≤ H0 213 2 + m) : ∀ (n : Nat) (ls : PL) (H : PH) (a : Int) (v : Int), (t - a).toNat < n → pnl ls → pget ls 0 = some (2, 213) → pget ls 1 = some (0, (m : Int)) → pget ls 2 = some (0, v) → pget ls 3 = some (0, t) → H = pup H0 213 2 a → H0 213 2 ≤ a → a ≤ H0 213 2 + m → dgt (H0 214) (H0 213 1) m (H0 213 2) 0 = dgt (H0 214) (H0 213 1) (H0 213 2 + m - a).toNat a v → 0 ≤ v → v ≤ 9999 → (a - H0 213 2 = 0 → v ≤ 0) ∧ (a - H0 213 2 = 1 → v ≤ 9) ∧ (a - H0 213 2 = 2 → v ≤ 99) ∧ (a - H0 213 2 = 3 → v ≤ 999) → Tr G us kd_X10_digits 2 (zget kd_X10_digits 16) 16 ls [] H (fun r H' => ∃ a v, r = some (0, v) ∧ H' = pup H0 213 2 a ∧ dgt (H0 214) (H0 213 1) m (H0 213 2) 0 = (a, v)) := by
  intro n
  induction n with
  | zero => intros; omega
  | succ n ih =>
    intro ls H a v hn hnl l0 l1 l2 l3 hH ha0 ha1 hd hv0 hv1 hb
    subst hH
    have za : zw (a + 1) = a + 1 := zw_lit (by omega) (by omega)
    have e2 : pup H0 213 2 a 213 2 = a := rfl
    have hbyte : ∀ i : Int, 0 ≤ i → i < 600 → -2147483648 ≤ H0 214 i ∧ H0 214 i ≤ 2147483647 := fun i i0 i1 => ra_214 hW i0 i1
    have zv : 48 ≤ H0 214 a → H0 214 a ≤ 57 → zw (zw (zw (v * 10) + H0 214 a) - 48) = v * 10 + H0 214 a - 48 := fun x y => by
      rw [zw_lit (x := v * 10) (by omega) (by omega), zw_lit (x := v * 10 + H0 214 a) (by omega) (by omega), zw_lit (by omega) (by omega)]
    have hE : H0 213 1 ≤ a ∨ H0 213 2 + m ≤ a ∨ (a < H0 213 1 ∧ ¬ (48 ≤ H0 214 a ∧ H0 214 a ≤ 57)) → dgt (H0 214) (H0 213 1) m (H0 213 2) 0 = (a, v) := fun q => by
      rw [hd]
      refine dgt_end ?_
      rcases q with q | q | q
      · right
        have : nxb (H0 214) (H0 213 1) a = -1 := if_neg (by omega)
        rw [this]
        omega
      · left
        omega
      · right
        have : nxb (H0 214) (H0 213 1) a = H0 214 a := if_pos ⟨by omega, q.1⟩
        rw [this]
        exact q.2
    have hS : a < H0 213 1 → a < H0 213 2 + m → 48 ≤ H0 214 a → H0 214 a ≤ 57 → dgt (H0 214) (H0 213 1) m (H0 213 2) 0 = dgt (H0 214) (H0 213 1) (H0 213 2 + m - (a + 1)).toNat (a + 1) (v * 10 + H0 214 a - 48) := fun x y x2 y2 => by
      rw [hd, dgt_step (by omega) (by omega) x ⟨x2, y2⟩, show (H0 213 2 + m - (a + 1)).toNat = (H0 213 2 + m - a).toNat - 1 by omega]
    refine tr_lab (D := 1) (t := 16) vb_X10_digits_16 _ ve_X10_digits_16 ?_
    simp (maxDischargeDepth := 12) [vb_X10_digits_16, wB, wI, k1, kI, kR, kL, k2, pget, pget_pset, pnl_pset, pnl_cons, pnl_nil, parg, ppush, pcat, zw_lit, zw_m1, zw_m2, zw_m3, zNC_eq, zrow, pup_app, gv_213_0, gv_213_1, gv_213_2, pe, tg_10_0, tg_10_1, tg_10_2, zfit, zisI, sh_590, sh_213, sh_214, za, e2, zv, hnl, l0, l1, l2, l3]
    repeat' (with_reducible (first | (refine And.intro ?_ ?_) | intro _))
    all_goals try (refine Ca_use (ca_X10_isDigit _ _) (by omega) ?_; rintro _ _ ⟨rfl, rfl⟩; simp (maxDischargeDepth := 12) [wB, wI, k1, kI, kR, kL, k2, pget, pget_pset, pnl_pset, pnl_cons, pnl_nil, parg, ppush, pcat, zw_lit, zw_m1, zw_m2, zw_m3, zNC_eq, zrow, pup_app, gv_213_0, gv_213_1, gv_213_2, pe, tg_10_0, tg_10_1, tg_10_2, zfit, zisI, sh_590, sh_213, sh_214, za, e2, zv, hnl, l0, l1, l2, l3])
    all_goals repeat' (with_reducible (first | (refine And.intro ?_ ?_) | intro _))
    all_goals try (refine tr_lab (D := 1) (t := 70) vb_X10_digits_70 _ ve_X10_digits_70 ?_; simp (maxDischargeDepth := 12) [vb_X10_digits_70, wB, wI, k1, kI, kR, kL, k2, pget, pget_pset, pnl_pset, pnl_cons, pnl_nil, parg, ppush, pcat, zw_lit, zw_m1, zw_m2, zw_m3, zNC_eq, zrow, pup_app, gv_213_0, gv_213_1, gv_213_2, pe, tg_10_0, tg_10_1, tg_10_2, zfit, zisI, sh_590, sh_213, sh_214, za, e2, zv, hnl, l0, l1, l2, l3])
    all_goals repeat' (with_reducible (first | (refine And.intro ?_ ?_) | intro _))
    all_goals try (refine ih _ _ (a + 1) (v * 10 + H0 214 a - 48) ?_ ?_ ?_ ?_ ?_ ?_ ?_ ?_ ?_ ?_ ?_ ?_ ?_)
    all_goals try simp (maxDischargeDepth := 12) [pget_pset, pnl_pset, pnl_cons, pnl_nil, pget, hnl, pup_app, l0, l1, l2, l3]
    all_goals (first | omega | assumption | (exact pup_pup) | (exact ⟨_, _, rfl, rfl, hE (by omega)⟩) | (exact ⟨_, rfl, hE (by omega)⟩) | (rw [zv (by omega) (by omega)]; first | omega | exact hS (by omega) (by omega) (by omega) (by omega)) | (exact hS (by omega) (by omega) (by omega) (by omega)) | (constructor <;> omega) | skip)

set_option maxRecDepth 20000 in
set_option maxHeartbeats 4000000 in
theorem ca_X10_digitsF {G : zG} {us : Nat} {lv : Nat} {g : Nat → Nat → Int} (m : Nat) (H : PH) (hm : m ≤ 4) (hW : WT lv g H) (h0 : 0 ≤ H 213 2) (h2 : H 213 2 ≤ 600) (h1 : H 213 1 ≤ 600) : Ca G us 2 100 [(2, 213), (0, (m : Int))] H (fun r H' => ∃ a v, r = some (0, v) ∧ H' = pup H 213 2 a ∧ dgt (H 214) (H 213 1) m (H 213 2) 0 = (a, v)) := by
  have zm : zw (H 213 2 + m) = H 213 2 + m := zw_lit (by omega) (by omega)
  refine ⟨_, _, _, _, _, _, vm_X10_digits, by simp [pcat], ?_⟩
  refine tr_lab (D := 1) (t := 0) vb_X10_digits_0 _ ve_X10_digits_0 ?_
  simp (maxDischargeDepth := 12) [vb_X10_digits_0, wB, wI, k1, kI, kR, kL, k2, pget, pget_pset, pnl_pset, pnl_cons, pnl_nil, parg, ppush, pcat, zw_lit, zw_m1, zw_m2, zw_m3, zNC_eq, zrow, pup_app, gv_213_0, gv_213_1, gv_213_2, pe, tg_10_0, tg_10_1, tg_10_2, zfit, zisI, sh_590, sh_213]
  repeat' (with_reducible (first | (refine And.intro ?_ ?_) | intro _))
  all_goals try ((refine lp_X10_digits_16F H hW m _ hm h0 h1 h2 rfl ?_ 601 _ _ (H 213 2) 0 ?_ ?_ ?_ ?_ ?_ ?_ ?_ ?_ ?_ ?_ ?_ ?_ ?_) <;> (try simp (maxDischargeDepth := 12) [pget_pset, pnl_pset, pnl_cons, pnl_nil, pget, pup_app]))
  all_goals (first | omega | (exact pup_id.symm) | (rw [zm]; split <;> omega) | (split <;> omega) | (rw [show (H 213 2 + (m : Int) - H 213 2).toNat = m by omega]) | (constructor <;> omega) | (rw [zm]; constructor <;> split <;> omega) | skip)

def Rdgt : pR := fun as H r H' => ∃ a v, r = some (0, v) ∧ H' = pup H 213 2 a ∧ dgt (H 214) (H 213 1) (ai as 1).toNat (H 213 2) 0 = (a, v)
theorem fn_digits : FnOK cc_X10_digits (fun as _ => 0 ≤ ai as 1 ∧ ai as 1 ≤ 4) Rdgt := Fn_of ct_X10_digits rfl (fun G us g H as hg hW ha hp hP => by
  obtain ⟨p0, p1, rfl, A0, A1⟩ := aargs2 ha
  have e0 := arg_sing (n := 213) A0 rfl
  subst e0
  obtain ⟨x, rfl, _⟩ := arg_int A1
  have hP : 0 ≤ x ∧ x ≤ 4 := hP
  have ex : x = ((x.toNat : Nat) : Int) := by omega
  have h := ca_X10_digitsF (G := G) (us := us) x.toNat H (by omega) hW (rf_213_2 hW).1 (rf_213_2 hW).2 (rf_213_1 hW).2
  rw [← ex] at h
  exact h) (fun as H p H' q => by
  obtain ⟨a, v, e, _⟩ := q
  rw [Option.some.inj e]
  exact Nat.zero_le 2)
