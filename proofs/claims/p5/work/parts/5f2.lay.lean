/-! ===== laySettled ===== -/
def nlg (p : Option pv) : Prop := ∀ q, p = some q → q.1 ≠ 1
theorem nlg_some {p : pv} : nlg (some p) ↔ p.1 ≠ 1 := ⟨fun h => h p rfl, fun h q e => by cases e; exact h⟩
theorem nlg_none : nlg none ↔ True := ⟨fun _ => trivial, fun _ q e => by cases e⟩
theorem pget_flx {ls : PL} {i j : Nat} (hj : j ≠ i) (h : nlg (pget ls j)) : pget (ls.filter (fun q => !pdrop i false q)) j = pget ls j := by
  induction ls with
  | nil => rfl
  | cons q t ih =>
    have hp : pget (q :: t) j = if q.1 = j then some q.2 else pget t j := rfl
    rw [hp] at h
    rw [List.filter_cons, hp]
    by_cases e : q.1 = j
    · rw [if_pos e] at h
      have hq := h q.2 rfl
      have hd : pdrop i false q = false := by
        unfold pdrop
        rw [beq_eq_false_iff_ne.mpr (by omega), beq_eq_false_iff_ne.mpr hq, Bool.and_false]
        rfl
      rw [hd, if_pos e]
      show (if q.1 = j then some q.2 else pget (t.filter _) j) = _
      rw [if_pos e]
    · rw [if_neg e] at h
      rw [if_neg e, ← ih h]
      cases pdrop i false q with
      | true => rfl
      | false =>
        show (if q.1 = j then some q.2 else pget (t.filter _) j) = _
        rw [if_neg e]
theorem pget_pss {ls : PL} {i : Nat} {v : pv} : pget (pset ls i false v) i = some v := if_pos rfl
theorem pget_psx {ls : PL} {i j : Nat} {v : pv} (h : nlg (pget ls j)) : pget (pset ls i false v) j = if i = j then some v else pget ls j := by
  show (if i = j then some v else pget (ls.filter _) j) = _
  by_cases e : i = j
  · rw [if_pos e, if_pos e]
  · rw [if_neg e, if_neg e, pget_flx (fun q => e q.symm) h]
theorem rok_int {lo hi : Int} {s : Nat} {r : Option pv} (h : rok (some (0, lo, hi, s)) r) : ∃ x, r = some (0, x) ∧ lo ≤ x ∧ x ≤ hi := by
  match r, h with
  | some p, h =>
    obtain ⟨x, rfl, h1, h2, _⟩ := arg_int h
    exact ⟨x, rfl, h1, h2⟩
theorem ca_X12_takes_ {G : zG} {us : Nat} {g : Nat → Nat → Int} (hg : GOK g) (i b s : Int) (H : PH) (hW : WT 0 g H) (i0 : 0 ≤ i) (i1 : i ≤ 4) (b0 : 0 ≤ b) (b1 : b ≤ 11) (s0 : -1 ≤ s) (s1 : s ≤ 1) : Ca G us 4 262 [(2, 590), (0, i), (0, b), (0, s)] H (fun r H' => WT 0 g H' ∧ frm [83, 88, 89] H H' ∧ ∃ x, r = some (0, x) ∧ -2147483648 ≤ x ∧ x ≤ 2147483647) :=
  Ca_mono (by decide) (fun r H' q => ⟨q.1, q.2.2.2.1, rok_int q.2.1⟩) (ct_X12_takes_ G us g H _ hg hW ⟨sref 590 (by decide) rfl, vin i0 i1, vin b0 b1, vin s0 s1, trivial⟩ (fun f hf => by cases hf))
def ms (t : Int → Int) (i : Int) : Int := (if 0 ≤ i then 38416 * (12 - t 0) else 0) + (if 1 ≤ i then 2744 * (12 - t 1) else 0) + (if 2 ≤ i then 196 * (12 - t 2) else 0) + (if 3 ≤ i then 14 * (12 - t 3) else 0) + (if 4 ≤ i then (12 - t 4) else 0)
def tok (t : Int → Int) (i : Int) : Prop := (∀ j, 0 ≤ j → j < i → 0 ≤ t j ∧ t j ≤ 11) ∧ (0 ≤ i → -1 ≤ t i ∧ t i ≤ 11)
def up1 (t : Int → Int) (i v : Int) : Int → Int := fun j => if j = i then v else t j
theorem ms_all {t : Int → Int} {i b : Int} (h0 : 0 ≤ i) (h4 : i ≤ 4) (ht : tok t i) (hb : t i < b) (hb2 : b ≤ 12) : 0 < ms t i ∧ ms (up1 t i b) (i - 1) < ms t i ∧ ms (up1 t i b) i < ms t i ∧ (i ≤ 3 → ms (up1 (up1 t i b) (i + 1) (-1)) (i + 1) < ms t i) ∧ 0 ≤ ms (up1 t i b) (i - 1) := by
  obtain ⟨q1, q2⟩ := ht
  have q2 := q2 h0
  have r0 := q1 0 (by omega)
  have r1 := q1 1 (by omega)
  have r2 := q1 2 (by omega)
  have r3 := q1 3 (by omega)
  rcases (by omega : i = 0 ∨ i = 1 ∨ i = 2 ∨ i = 3 ∨ i = 4) with rfl | rfl | rfl | rfl | rfl <;> simp [ms, up1] at * <;> omega
theorem row618 {H H' : PH} (h : frm [83, 88, 89] H H') : H' 618 = H 618 := funext fun j => by
  have e := h 618 j (by decide) (by
    rw [show tau 618 = 103 from rfl]
    rfl)
  have e1 : ∀ X : PH, gv X ((618 : Nat) : Int) j = X 618 j := fun X => gv_none (zrt_row (c := 618) (by decide) (by decide +kernel))
  rw [e1, e1] at e
  exact e
theorem fld47 {H H' : PH} (h : frm [83, 88, 89] H H') : H' 590 47 = H 590 47 := h 590 47 (by decide) rfl

set_option maxRecDepth 20000 in
set_option maxHeartbeats 4000000 in
theorem lp_X12_laySettled_325 {G : zG} {us : Nat} {g : Nat → Nat → Int} (hg : GOK g) (H0 : PH) (M : Int) (ihx : ∀ (ls : PL) (off i : Int) (H : PH), ms (H 618) i < M → pget ls 0 = some (2, 590) → pget ls 1 = some (0, off) → pget ls 2 = some (0, i) → WT 0 g H → frm [12, 83, 84, 85, 86, 87, 88, 89, 90, 102, 103, 104, 105] H0 H → 1 ≤ H 590 47 → H 590 47 ≤ 5 → -1 ≤ i → i < H 590 47 → tok (H 618) i → -2147483648 ≤ off → off ≤ 2147483647 → Tr G us kd_X12_laySettled 8 (zget kd_X12_laySettled 185) 185 ls [] H (fun r H' => WT 0 g H' ∧ frm [12, 83, 84, 85, 86, 87, 88, 89, 90, 102, 103, 104, 105] H0 H' ∧ r = some (0, 1) ∧ 1 ≤ H' 590 47 ∧ H' 590 47 ≤ 5)) (off i : Int) (i0 : -1 ≤ i) (o0 : -2147483648 ≤ off) (o1 : off ≤ 2147483647) (T : Int → Int) (hT : ms T i < M) (hK : tok T i)   : ∀ (n : Nat) (ls : PL) (H : PH) (j : Int), (6 - j).toNat < n → pget ls 0 = some (2, 590) → pget ls 1 = some (0, off) → pget ls 2 = some (0, i) → pget ls 4 = some (0, j) → WT 0 g H → frm [12, 83, 84, 85, 86, 87, 88, 89, 90, 102, 103, 104, 105] H0 H → 1 ≤ H 590 47 → H 590 47 ≤ 5 → i < H 590 47 → H 618 = T → 0 ≤ j → Tr G us kd_X12_laySettled 8 (zget kd_X12_laySettled 325) 325 ls [] H (fun r H' => WT 0 g H' ∧ frm [12, 83, 84, 85, 86, 87, 88, 89, 90, 102, 103, 104, 105] H0 H' ∧ r = some (0, 1) ∧ 1 ≤ H' 590 47 ∧ H' 590 47 ≤ 5) := by
  intro n
  induction n with
  | zero => intros; omega
  | succ n ih =>
    intro ls H j hn  l0 l1 l2 l4 hW hF d1 d5 hid e618 j0
    have hw6 : ∀ x : Int, 0 ≤ x → x < 5 → -2147483648 ≤ H 618 x ∧ H 618 x ≤ 2147483647 := fun x h1 h2 => ra_618 hW h1 h2
    refine tr_lab (D := 7) (t := 325) vb_X12_laySettled_325 _ ve_X12_laySettled_325 ?_
    simp (maxDischargeDepth := 12) [vb_X12_laySettled_325, wB, wI, k1, kI, kR, kL, k2, pget, parg, ppush, pcat, zw_lit, zw_m1, zw_m2, zw_m3, zNC_eq, zrow, pup_app, pget_pss, pget_psx, nlg_some, nlg_none, gv_590_0, gv_590_20, gv_590_44, gv_590_45, gv_590_46, gv_590_47, gv_590_48, gv_590_49, pe, tg_12_0, tg_12_20, tg_12_44, tg_12_45, tg_12_46, tg_12_47, tg_12_48, tg_12_49, zfit, zisI, sh_590, sh_590, sh_618, sh_619, l0, l1, l2, l4]
    repeat' (with_reducible (first | (refine And.intro ?_ ?_) | intro _))
    all_goals try (refine tr_lab (D := 7) (t := 354) vb_X12_laySettled_354 _ ve_X12_laySettled_354 ?_; simp (maxDischargeDepth := 12) [vb_X12_laySettled_354, wB, wI, k1, kI, kR, kL, k2, pget, parg, ppush, pcat, zw_lit, zw_m1, zw_m2, zw_m3, zNC_eq, zrow, pup_app, pget_pss, pget_psx, nlg_some, nlg_none, gv_590_0, gv_590_20, gv_590_44, gv_590_45, gv_590_46, gv_590_47, gv_590_48, gv_590_49, pe, tg_12_0, tg_12_20, tg_12_44, tg_12_45, tg_12_46, tg_12_47, tg_12_48, tg_12_49, zfit, zisI, sh_590, sh_590, sh_618, sh_619, l0, l1, l2, l4])
    all_goals repeat' (with_reducible (first | (refine And.intro ?_ ?_) | intro _))
    all_goals try ((refine ihx _ off i _ ?_ ?_ ?_ ?_ ?_ ?_ ?_ ?_ ?_ ?_ ?_ ?_ ?_) <;> (try simp (maxDischargeDepth := 12) [pget_pss, pget_psx, nlg_some, nlg_none, pget, pup_app, l0, l1, l2]))
    all_goals try (refine ih _ _ (j + 1) ?_ ?_ ?_ ?_ ?_ ?_ ?_ ?_ ?_ ?_ ?_ ?_)
    all_goals try simp (maxDischargeDepth := 12) [pget_pss, pget_psx, nlg_some, nlg_none, pget, pup_app, l0, l1, l2, l4]
    all_goals (first | omega | assumption | ((repeat (first | assumption | exact frm_refl _ _ | (refine wa_619 ?_ (by omega) (by have := hw6 j (by omega) (by omega); omega) (by have := hw6 j (by omega) (by omega); omega)) | (refine fa_619 ?_ rfl))); done) | (rw [e618]; assumption) | (show H 618 = T; assumption) | (exact zw_lit (by omega) (by omega)) | skip)

set_option maxRecDepth 20000 in
set_option maxHeartbeats 4000000 in
theorem sg_X12_laySettled_301 {G : zG} {us : Nat} {g : Nat → Nat → Int} (hg : GOK g) (H0 : PH) (M : Int) (ihx : ∀ (ls : PL) (off i : Int) (H : PH), ms (H 618) i < M → pget ls 0 = some (2, 590) → pget ls 1 = some (0, off) → pget ls 2 = some (0, i) → WT 0 g H → frm [12, 83, 84, 85, 86, 87, 88, 89, 90, 102, 103, 104, 105] H0 H → 1 ≤ H 590 47 → H 590 47 ≤ 5 → -1 ≤ i → i < H 590 47 → tok (H 618) i → -2147483648 ≤ off → off ≤ 2147483647 → Tr G us kd_X12_laySettled 8 (zget kd_X12_laySettled 185) 185 ls [] H (fun r H' => WT 0 g H' ∧ frm [12, 83, 84, 85, 86, 87, 88, 89, 90, 102, 103, 104, 105] H0 H' ∧ r = some (0, 1) ∧ 1 ≤ H' 590 47 ∧ H' 590 47 ≤ 5)) (off i : Int) (i0 : 0 ≤ i) (o0 : -2147483648 ≤ off) (o1 : off ≤ 2147483647)  : ∀ (ls : PL) (H : PH), pget ls 0 = some (2, 590) → pget ls 1 = some (0, off) → pget ls 2 = some (0, i) → WT 0 g H → frm [12, 83, 84, 85, 86, 87, 88, 89, 90, 102, 103, 104, 105] H0 H → 1 ≤ H 590 47 → H 590 47 ≤ 5 → i < H 590 47 → ms (H 618) i < M → tok (H 618) i → Tr G us kd_X12_laySettled 8 (zget kd_X12_laySettled 301) 301 ls [] H (fun r H' => WT 0 g H' ∧ frm [12, 83, 84, 85, 86, 87, 88, 89, 90, 102, 103, 104, 105] H0 H' ∧ r = some (0, 1) ∧ 1 ≤ H' 590 47 ∧ H' 590 47 ≤ 5) := by
  intro ls H  l0 l1 l2 hW hF d1 d5 hid hT hK
  refine tr_lab (D := 7) (t := 301) vb_X12_laySettled_301 _ ve_X12_laySettled_301 ?_
  simp (maxDischargeDepth := 12) [vb_X12_laySettled_301, wB, wI, k1, kI, kR, kL, k2, pget, parg, ppush, pcat, zw_lit, zw_m1, zw_m2, zw_m3, zNC_eq, zrow, pup_app, pget_pss, pget_psx, nlg_some, nlg_none, gv_590_0, gv_590_20, gv_590_44, gv_590_45, gv_590_46, gv_590_47, gv_590_48, gv_590_49, pe, tg_12_0, tg_12_20, tg_12_44, tg_12_45, tg_12_46, tg_12_47, tg_12_48, tg_12_49, zfit, zisI, sh_590, sh_590, sh_618, sh_619, l0, l1, l2]
  repeat' (with_reducible (first | (refine And.intro ?_ ?_) | intro _))
  all_goals try (refine tr_lab (D := 7) (t := 317) vb_X12_laySettled_317 _ ve_X12_laySettled_317 ?_; simp (maxDischargeDepth := 12) [vb_X12_laySettled_317, wB, wI, k1, kI, kR, kL, k2, pget, parg, ppush, pcat, zw_lit, zw_m1, zw_m2, zw_m3, zNC_eq, zrow, pup_app, pget_pss, pget_psx, nlg_some, nlg_none, gv_590_0, gv_590_20, gv_590_44, gv_590_45, gv_590_46, gv_590_47, gv_590_48, gv_590_49, pe, tg_12_0, tg_12_20, tg_12_44, tg_12_45, tg_12_46, tg_12_47, tg_12_48, tg_12_49, zfit, zisI, sh_590, sh_590, sh_618, sh_619, l0, l1, l2])
  all_goals repeat' (with_reducible (first | (refine And.intro ?_ ?_) | intro _))
  all_goals try ((refine lp_X12_laySettled_325 hg H0 M ihx off i (by omega) o0 o1 (H 618) hT hK 7 _ _ 0 ?_ ?_ ?_ ?_ ?_ ?_ ?_ ?_ ?_ ?_ ?_ ?_) <;> (try simp (maxDischargeDepth := 12) [pget_pss, pget_psx, nlg_some, nlg_none, pget, pup_app, l0, l1, l2]))
  all_goals try (refine tr_lab (D := 7) (t := 354) vb_X12_laySettled_354 _ ve_X12_laySettled_354 ?_; simp (maxDischargeDepth := 12) [vb_X12_laySettled_354, wB, wI, k1, kI, kR, kL, k2, pget, parg, ppush, pcat, zw_lit, zw_m1, zw_m2, zw_m3, zNC_eq, zrow, pup_app, pget_pss, pget_psx, nlg_some, nlg_none, gv_590_0, gv_590_20, gv_590_44, gv_590_45, gv_590_46, gv_590_47, gv_590_48, gv_590_49, pe, tg_12_0, tg_12_20, tg_12_44, tg_12_45, tg_12_46, tg_12_47, tg_12_48, tg_12_49, zfit, zisI, sh_590, sh_590, sh_618, sh_619, l0, l1, l2])
  all_goals repeat' (with_reducible (first | (refine And.intro ?_ ?_) | intro _))
  all_goals try ((refine ihx _ off i _ ?_ ?_ ?_ ?_ ?_ ?_ ?_ ?_ ?_ ?_ ?_ ?_ ?_) <;> (try simp (maxDischargeDepth := 12) [pget_pss, pget_psx, nlg_some, nlg_none, pget, pup_app, l0, l1, l2]))
  all_goals (first | omega | assumption | ((repeat (first | assumption | (refine wf_590_48 ?_ (by omega) (by omega)) | (refine ff_590_48 ?_ rfl))); done) | rfl | skip)

theorem ca_lay_takes {G : zG} {us : Nat} {g : Nat → Nat → Int} (hg : GOK g) (i b s : Int) (H : PH) (hW : WT 0 g H) (i0 : 0 ≤ i) (i1 : i ≤ 4) (b0 : 0 ≤ b) (b1 : b ≤ 11) (s0 : -1 ≤ s) (s1 : s ≤ 1) : Ca G us 4 262 [(2, 590), (0, i), (0, b), (0, s)] H (fun r H' => WT 0 g H' ∧ (∀ H0 : PH, frm [12, 83, 84, 85, 86, 87, 88, 89, 90, 102, 103, 104, 105] H0 H → frm [12, 83, 84, 85, 86, 87, 88, 89, 90, 102, 103, 104, 105] H0 H') ∧ H' 590 47 = H 590 47 ∧ H' 618 = H 618 ∧ ∃ x, r = some (0, x) ∧ -2147483648 ≤ x ∧ x ≤ 2147483647) :=
  Ca_mono (Nat.le_refl _) (fun r H' q => ⟨q.1, fun H0 h0 => frm_trans h0 (frm_sub rfl q.2.1), fld47 q.2.1, row618 q.2.1, q.2.2⟩) (ca_X12_takes_ hg i b s H hW i0 i1 b0 b1 s0 s1)
theorem up618 {H : PH} {i b : Int} : (pup H 618 i b) 618 = up1 (H 618) i b := funext fun j => by
  unfold pup up1
  by_cases e : j = i
  · rw [if_pos ⟨rfl, e⟩, if_pos e]
  · rw [if_neg (fun q => e q.2), if_neg e]
theorem tok_dn {t : Int → Int} {i b : Int} (h : tok t i) : tok (up1 t i b) (i - 1) := by
  obtain ⟨q1, q2⟩ := h
  refine ⟨fun j h0 h1 => ?_, fun h0 => ?_⟩
  · unfold up1
    rw [if_neg (by omega)]
    exact q1 j h0 (by omega)
  · unfold up1
    rw [if_neg (by omega)]
    have := q1 (i - 1) h0 (by omega)
    omega
theorem tok_at {t : Int → Int} {i b : Int} (h : tok t i) (b0 : -1 ≤ b) (b1 : b ≤ 11) : tok (up1 t i b) i := by
  obtain ⟨q1, q2⟩ := h
  refine ⟨fun j h0 h1 => ?_, fun h0 => ?_⟩
  · unfold up1
    rw [if_neg (by omega)]
    exact q1 j h0 h1
  · unfold up1
    rw [if_pos rfl]
    exact ⟨b0, b1⟩
theorem tok_up {t : Int → Int} {i : Int} (h : tok t i) (h0 : 0 ≤ i) (hi : 0 ≤ t i) : tok (up1 t (i + 1) (-1)) (i + 1) := by
  obtain ⟨q1, q2⟩ := h
  have q2 := q2 h0
  refine ⟨fun j a c => ?_, fun _ => ?_⟩
  · unfold up1
    rw [if_neg (by omega)]
    by_cases e : j = i
    · rw [e]
      omega
    · exact q1 j a (by omega)
  · unfold up1
    rw [if_pos rfl]
    omega
theorem ms_pos {t : Int → Int} {i : Int} (h4 : i ≤ 4) (ht : tok t i) : 0 ≤ ms t i := by
  by_cases h0 : 0 ≤ i
  · have := (ms_all h0 h4 ht (b := 12) (by have := ht.2 h0; omega) (by omega)).1
    omega
  · unfold ms
    simp (disch := omega) only [if_neg]
    omega
set_option maxRecDepth 20000 in
set_option maxHeartbeats 4000000 in
theorem sg_X12_laySettled_268 {G : zG} {us : Nat} {g : Nat → Nat → Int} (hg : GOK g) (H0 : PH) (M : Int) (ihx : ∀ (ls : PL) (off i : Int) (H : PH), ms (H 618) i < M → pget ls 0 = some (2, 590) → pget ls 1 = some (0, off) → pget ls 2 = some (0, i) → WT 0 g H → frm [12, 83, 84, 85, 86, 87, 88, 89, 90, 102, 103, 104, 105] H0 H → 1 ≤ H 590 47 → H 590 47 ≤ 5 → -1 ≤ i → i < H 590 47 → tok (H 618) i → -2147483648 ≤ off → off ≤ 2147483647 → Tr G us kd_X12_laySettled 8 (zget kd_X12_laySettled 185) 185 ls [] H (fun r H' => WT 0 g H' ∧ frm [12, 83, 84, 85, 86, 87, 88, 89, 90, 102, 103, 104, 105] H0 H' ∧ r = some (0, 1) ∧ 1 ≤ H' 590 47 ∧ H' 590 47 ≤ 5)) (off i : Int) (i0 : 0 ≤ i) (o0 : -2147483648 ≤ off) (o1 : off ≤ 2147483647) (b : Int) (i4 : i ≤ 4) (b0 : 0 ≤ b) (b1 : b ≤ 11)  : ∀ (ls : PL) (H : PH), pget ls 0 = some (2, 590) → pget ls 1 = some (0, off) → pget ls 2 = some (0, i) → pget ls 3 = some (0, b) → WT 0 g H → frm [12, 83, 84, 85, 86, 87, 88, 89, 90, 102, 103, 104, 105] H0 H → 1 ≤ H 590 47 → H 590 47 ≤ 5 → i < H 590 47 → ms (H 618) i < M → (i ≤ 3 → ms (up1 (H 618) (i + 1) (-1)) (i + 1) < M) → tok (H 618) i → 0 ≤ H 618 i → Tr G us kd_X12_laySettled 8 (zget kd_X12_laySettled 268) 268 ls [] H (fun r H' => WT 0 g H' ∧ frm [12, 83, 84, 85, 86, 87, 88, 89, 90, 102, 103, 104, 105] H0 H' ∧ r = some (0, 1) ∧ 1 ≤ H' 590 47 ∧ H' 590 47 ≤ 5) := by
  intro ls H  l0 l1 l2 l3 hW hF d1 d5 hid hT hTd hK hKi
  have zi : zw (i + 1) = i + 1 := zw_lit (by omega) (by omega)
  refine tr_lab (D := 7) (t := 268) vb_X12_laySettled_268 _ ve_X12_laySettled_268 ?_
  simp (maxDischargeDepth := 12) [vb_X12_laySettled_268, wB, wI, k1, kI, kR, kL, k2, pget, parg, ppush, pcat, zw_lit, zw_m1, zw_m2, zw_m3, zNC_eq, zrow, pup_app, pget_pss, pget_psx, nlg_some, nlg_none, gv_590_0, gv_590_20, gv_590_44, gv_590_45, gv_590_46, gv_590_47, gv_590_48, gv_590_49, pe, tg_12_0, tg_12_20, tg_12_44, tg_12_45, tg_12_46, tg_12_47, tg_12_48, tg_12_49, zfit, zisI, sh_590, sh_590, sh_618, zi, l0, l1, l2, l3]
  repeat' (with_reducible (first | (refine And.intro ?_ ?_) | intro _))
  all_goals try (refine Ca_use (ca_lay_takes hg _ _ _ _ (by assumption) (by omega) (by omega) (by omega) (by omega) (by omega) (by omega)) (by omega) ?_; rintro _ _ ⟨hW2, hF2, f47, f618, x, rfl, x0, x1⟩; simp (maxDischargeDepth := 12) [wB, wI, k1, kI, kR, kL, k2, pget, parg, ppush, pcat, zw_lit, zw_m1, zw_m2, zw_m3, zNC_eq, zrow, pup_app, pget_pss, pget_psx, nlg_some, nlg_none, gv_590_0, gv_590_20, gv_590_44, gv_590_45, gv_590_46, gv_590_47, gv_590_48, gv_590_49, pe, tg_12_0, tg_12_20, tg_12_44, tg_12_45, tg_12_46, tg_12_47, tg_12_48, tg_12_49, zfit, zisI, sh_590, sh_590, sh_618, zi, l0, l1, l2, l3])
  all_goals repeat' (with_reducible (first | (refine And.intro ?_ ?_) | intro _))
  all_goals try ((refine sg_X12_laySettled_301 hg H0 M ihx (zw (off + x)) i i0 (zw_lo _) (zw_hi _) _ _ ?_ ?_ ?_ ?_ ?_ ?_ ?_ ?_ ?_ ?_) <;> (try simp (maxDischargeDepth := 12) [pget_pss, pget_psx, nlg_some, nlg_none, pget, pup_app, l0, l1, l2]))
  all_goals try (refine tr_lab (D := 7) (t := 354) vb_X12_laySettled_354 _ ve_X12_laySettled_354 ?_; simp (maxDischargeDepth := 12) [vb_X12_laySettled_354, wB, wI, k1, kI, kR, kL, k2, pget, parg, ppush, pcat, zw_lit, zw_m1, zw_m2, zw_m3, zNC_eq, zrow, pup_app, pget_pss, pget_psx, nlg_some, nlg_none, gv_590_0, gv_590_20, gv_590_44, gv_590_45, gv_590_46, gv_590_47, gv_590_48, gv_590_49, pe, tg_12_0, tg_12_20, tg_12_44, tg_12_45, tg_12_46, tg_12_47, tg_12_48, tg_12_49, zfit, zisI, sh_590, sh_590, sh_618, zi, l0, l1, l2, l3])
  all_goals repeat' (with_reducible (first | (refine And.intro ?_ ?_) | intro _))
  all_goals try ((refine ihx _ (zw (off + x)) (i + 1) _ ?_ ?_ ?_ ?_ ?_ ?_ ?_ ?_ ?_ ?_ ?_ ?_ ?_) <;> (try simp (maxDischargeDepth := 12) [pget_pss, pget_psx, nlg_some, nlg_none, pget, pup_app, l0, l1, l2]))
  all_goals (first | omega | assumption | (exact zw_lo _) | (exact zw_hi _) | (rw [f618]; assumption) | (rw [up618, f618]; exact hTd (by omega)) | (rw [up618, f618]; exact tok_up hK i0 hKi) | ((repeat (first | assumption | (exact hF2 _ hF) | (refine wa_618 ?_ (by omega) (by omega) (by omega)) | (refine fa_618 ?_ rfl))); done) | skip)

set_option maxRecDepth 20000 in
set_option maxHeartbeats 4000000 in
theorem sg_X12_laySettled_249 {G : zG} {us : Nat} {g : Nat → Nat → Int} (hg : GOK g) (H0 : PH) (M : Int) (ihx : ∀ (ls : PL) (off i : Int) (H : PH), ms (H 618) i < M → pget ls 0 = some (2, 590) → pget ls 1 = some (0, off) → pget ls 2 = some (0, i) → WT 0 g H → frm [12, 83, 84, 85, 86, 87, 88, 89, 90, 102, 103, 104, 105] H0 H → 1 ≤ H 590 47 → H 590 47 ≤ 5 → -1 ≤ i → i < H 590 47 → tok (H 618) i → -2147483648 ≤ off → off ≤ 2147483647 → Tr G us kd_X12_laySettled 8 (zget kd_X12_laySettled 185) 185 ls [] H (fun r H' => WT 0 g H' ∧ frm [12, 83, 84, 85, 86, 87, 88, 89, 90, 102, 103, 104, 105] H0 H' ∧ r = some (0, 1) ∧ 1 ≤ H' 590 47 ∧ H' 590 47 ≤ 5)) (off i : Int) (i0 : 0 ≤ i) (o0 : -2147483648 ≤ off) (o1 : off ≤ 2147483647) (b : Int) (i4 : i ≤ 4)  : ∀ (ls : PL) (H : PH), pget ls 0 = some (2, 590) → pget ls 1 = some (0, off) → pget ls 2 = some (0, i) → pget ls 3 = some (0, b) → WT 0 g H → frm [12, 83, 84, 85, 86, 87, 88, 89, 90, 102, 103, 104, 105] H0 H → 1 ≤ H 590 47 → H 590 47 ≤ 5 → i < H 590 47 → M = ms (H 618) i → tok (H 618) i → H 618 i < b → b ≤ 12 → Tr G us kd_X12_laySettled 8 (zget kd_X12_laySettled 249) 249 ls [] H (fun r H' => WT 0 g H' ∧ frm [12, 83, 84, 85, 86, 87, 88, 89, 90, 102, 103, 104, 105] H0 H' ∧ r = some (0, 1) ∧ 1 ≤ H' 590 47 ∧ H' 590 47 ≤ 5) := by
  intro ls H  l0 l1 l2 l3 hW hF d1 d5 hid hM hK hb hb2
  have hk := hK.2 i0
  have hm := ms_all i0 i4 hK hb hb2
  have zd : zw (i + 4294967295) = i - 1 := by simp only [zw]; omega
  have zd2 : zw (i + -1) = i - 1 := by simp only [zw]; omega
  refine tr_lab (D := 7) (t := 249) vb_X12_laySettled_249 _ ve_X12_laySettled_249 ?_
  simp (maxDischargeDepth := 12) [vb_X12_laySettled_249, wB, wI, k1, kI, kR, kL, k2, pget, parg, ppush, pcat, zw_lit, zw_m1, zw_m2, zw_m3, zNC_eq, zrow, pup_app, pget_pss, pget_psx, nlg_some, nlg_none, gv_590_0, gv_590_20, gv_590_44, gv_590_45, gv_590_46, gv_590_47, gv_590_48, gv_590_49, pe, tg_12_0, tg_12_20, tg_12_44, tg_12_45, tg_12_46, tg_12_47, tg_12_48, tg_12_49, zfit, zisI, sh_590, sh_590, sh_618, zd, zd2, l0, l1, l2, l3]
  repeat' (with_reducible (first | (refine And.intro ?_ ?_) | intro _))
  all_goals try ((refine sg_X12_laySettled_268 hg H0 M ihx off i i0 o0 o1 b i4 (by omega) (by omega) _ _ ?_ ?_ ?_ ?_ ?_ ?_ ?_ ?_ ?_ ?_ ?_ ?_ ?_) <;> (try simp (maxDischargeDepth := 12) [pget_pss, pget_psx, nlg_some, nlg_none, pget, pup_app, l0, l1, l2, l3]))
  all_goals try ((refine ihx _ off (i - 1) _ ?_ ?_ ?_ ?_ ?_ ?_ ?_ ?_ ?_ ?_ ?_ ?_ ?_) <;> (try simp (maxDischargeDepth := 12) [pget_pss, pget_psx, nlg_some, nlg_none, pget, pup_app, l0, l1, l2]))
  all_goals (first | omega | assumption | (rw [up618, hM]; first | exact hm.2.1 | exact hm.2.2.1 | exact hm.2.2.2.1) | (rw [up618]; first | exact tok_at hK (by omega) (by omega) | exact tok_dn hK) | ((repeat (first | assumption | (exact hF2 _ hF) | (refine wa_618 ?_ (by omega) (by omega) (by omega)) | (refine fa_618 ?_ rfl))); done) | skip)

set_option maxRecDepth 20000 in
set_option maxHeartbeats 4000000 in
theorem lp_X12_laySettled_223 {G : zG} {us : Nat} {g : Nat → Nat → Int} (hg : GOK g) (H0 : PH) (M : Int) (ihx : ∀ (ls : PL) (off i : Int) (H : PH), ms (H 618) i < M → pget ls 0 = some (2, 590) → pget ls 1 = some (0, off) → pget ls 2 = some (0, i) → WT 0 g H → frm [12, 83, 84, 85, 86, 87, 88, 89, 90, 102, 103, 104, 105] H0 H → 1 ≤ H 590 47 → H 590 47 ≤ 5 → -1 ≤ i → i < H 590 47 → tok (H 618) i → -2147483648 ≤ off → off ≤ 2147483647 → Tr G us kd_X12_laySettled 8 (zget kd_X12_laySettled 185) 185 ls [] H (fun r H' => WT 0 g H' ∧ frm [12, 83, 84, 85, 86, 87, 88, 89, 90, 102, 103, 104, 105] H0 H' ∧ r = some (0, 1) ∧ 1 ≤ H' 590 47 ∧ H' 590 47 ≤ 5)) (off i : Int) (i0 : 0 ≤ i) (o0 : -2147483648 ≤ off) (o1 : off ≤ 2147483647) (i4 : i ≤ 4) (H : PH)  : ∀ (n : Nat) (ls : PL) (b : Int), (12 - b).toNat < n → pget ls 0 = some (2, 590) → pget ls 1 = some (0, off) → pget ls 2 = some (0, i) → pget ls 3 = some (0, b) → WT 0 g H → frm [12, 83, 84, 85, 86, 87, 88, 89, 90, 102, 103, 104, 105] H0 H → 1 ≤ H 590 47 → H 590 47 ≤ 5 → i < H 590 47 → M = ms (H 618) i → tok (H 618) i → H 618 i < b → b ≤ 12 → Tr G us kd_X12_laySettled 8 (zget kd_X12_laySettled 223) 223 ls [] H (fun r H' => WT 0 g H' ∧ frm [12, 83, 84, 85, 86, 87, 88, 89, 90, 102, 103, 104, 105] H0 H' ∧ r = some (0, 1) ∧ 1 ≤ H' 590 47 ∧ H' 590 47 ≤ 5) := by
  intro n
  induction n with
  | zero => intros; omega
  | succ n ih =>
    intro ls b hn  l0 l1 l2 l3 hW hF d1 d5 hid hM hK hb hb2
    have hk := hK.2 i0
    have z1 : zw (12 * i) = 12 * i := zw_lit (by omega) (by omega)
    refine tr_lab (D := 7) (t := 223) vb_X12_laySettled_223 _ ve_X12_laySettled_223 ?_
    simp (maxDischargeDepth := 12) [vb_X12_laySettled_223, wB, wI, k1, kI, kR, kL, k2, pget, parg, ppush, pcat, zw_lit, zw_m1, zw_m2, zw_m3, zNC_eq, zrow, pup_app, pget_pss, pget_psx, nlg_some, nlg_none, gv_590_0, gv_590_20, gv_590_44, gv_590_45, gv_590_46, gv_590_47, gv_590_48, gv_590_49, pe, tg_12_0, tg_12_20, tg_12_44, tg_12_45, tg_12_46, tg_12_47, tg_12_48, tg_12_49, zfit, zisI, sh_590, sh_590, sh_620, z1, l0, l1, l2, l3]
    repeat' (with_reducible (first | (refine And.intro ?_ ?_) | intro _))
    all_goals try ((refine sg_X12_laySettled_249 hg H0 M ihx off i i0 o0 o1 b i4 _ _ ?_ ?_ ?_ ?_ ?_ ?_ ?_ ?_ ?_ ?_ ?_ ?_ ?_) <;> (try simp (maxDischargeDepth := 12) [pget_pss, pget_psx, nlg_some, nlg_none, pget, pup_app, l0, l1, l2, l3]))
    all_goals try (refine ih _ (b + 1) ?_ ?_ ?_ ?_ ?_ ?_ ?_ ?_ ?_ ?_ ?_ ?_ ?_ ?_)
    all_goals try simp (maxDischargeDepth := 12) [pget_pss, pget_psx, nlg_some, nlg_none, pget, pup_app, l0, l1, l2, l3]
    all_goals (first | omega | assumption | ((simp (disch := omega) only [zw_lit]) <;> omega) | skip)

set_option maxRecDepth 20000 in
set_option maxHeartbeats 4000000 in
theorem sg_X12_laySettled_214 {G : zG} {us : Nat} {g : Nat → Nat → Int} (hg : GOK g) (H0 : PH) (M : Int) (ihx : ∀ (ls : PL) (off i : Int) (H : PH), ms (H 618) i < M → pget ls 0 = some (2, 590) → pget ls 1 = some (0, off) → pget ls 2 = some (0, i) → WT 0 g H → frm [12, 83, 84, 85, 86, 87, 88, 89, 90, 102, 103, 104, 105] H0 H → 1 ≤ H 590 47 → H 590 47 ≤ 5 → -1 ≤ i → i < H 590 47 → tok (H 618) i → -2147483648 ≤ off → off ≤ 2147483647 → Tr G us kd_X12_laySettled 8 (zget kd_X12_laySettled 185) 185 ls [] H (fun r H' => WT 0 g H' ∧ frm [12, 83, 84, 85, 86, 87, 88, 89, 90, 102, 103, 104, 105] H0 H' ∧ r = some (0, 1) ∧ 1 ≤ H' 590 47 ∧ H' 590 47 ≤ 5)) (off i : Int) (i0 : 0 ≤ i) (o0 : -2147483648 ≤ off) (o1 : off ≤ 2147483647) (i4 : i ≤ 4)  : ∀ (ls : PL) (H : PH), pget ls 0 = some (2, 590) → pget ls 1 = some (0, off) → pget ls 2 = some (0, i) → WT 0 g H → frm [12, 83, 84, 85, 86, 87, 88, 89, 90, 102, 103, 104, 105] H0 H → 1 ≤ H 590 47 → H 590 47 ≤ 5 → i < H 590 47 → M = ms (H 618) i → tok (H 618) i → Tr G us kd_X12_laySettled 8 (zget kd_X12_laySettled 214) 214 ls [] H (fun r H' => WT 0 g H' ∧ frm [12, 83, 84, 85, 86, 87, 88, 89, 90, 102, 103, 104, 105] H0 H' ∧ r = some (0, 1) ∧ 1 ≤ H' 590 47 ∧ H' 590 47 ≤ 5) := by
  intro ls H  l0 l1 l2 hW hF d1 d5 hid hM hK
  have hk := hK.2 i0
  have z1 : zw (H 618 i + 1) = H 618 i + 1 := zw_lit (by omega) (by omega)
  refine tr_lab (D := 7) (t := 214) vb_X12_laySettled_214 _ ve_X12_laySettled_214 ?_
  simp (maxDischargeDepth := 12) [vb_X12_laySettled_214, wB, wI, k1, kI, kR, kL, k2, pget, parg, ppush, pcat, zw_lit, zw_m1, zw_m2, zw_m3, zNC_eq, zrow, pup_app, pget_pss, pget_psx, nlg_some, nlg_none, gv_590_0, gv_590_20, gv_590_44, gv_590_45, gv_590_46, gv_590_47, gv_590_48, gv_590_49, pe, tg_12_0, tg_12_20, tg_12_44, tg_12_45, tg_12_46, tg_12_47, tg_12_48, tg_12_49, zfit, zisI, sh_590, sh_590, sh_618, z1, l0, l1, l2]
  repeat' (with_reducible (first | (refine And.intro ?_ ?_) | intro _))
  all_goals try ((refine lp_X12_laySettled_223 hg H0 M ihx off i i0 o0 o1 i4 H 14 _ (H 618 i + 1) ?_ ?_ ?_ ?_ ?_ ?_ ?_ ?_ ?_ ?_ ?_ ?_ ?_ ?_) <;> (try simp (maxDischargeDepth := 12) [pget_pss, pget_psx, nlg_some, nlg_none, pget, pup_app, l0, l1, l2, z1]))
  all_goals (first | omega | assumption | skip)

set_option maxRecDepth 20000 in
set_option maxHeartbeats 4000000 in
theorem sg_X12_laySettled_185 {G : zG} {us : Nat} {g : Nat → Nat → Int} (hg : GOK g) (H0 : PH) (H : PH) (M : Int) (ihx : ∀ (ls : PL) (off i : Int) (H : PH), ms (H 618) i < M → pget ls 0 = some (2, 590) → pget ls 1 = some (0, off) → pget ls 2 = some (0, i) → WT 0 g H → frm [12, 83, 84, 85, 86, 87, 88, 89, 90, 102, 103, 104, 105] H0 H → 1 ≤ H 590 47 → H 590 47 ≤ 5 → -1 ≤ i → i < H 590 47 → tok (H 618) i → -2147483648 ≤ off → off ≤ 2147483647 → Tr G us kd_X12_laySettled 8 (zget kd_X12_laySettled 185) 185 ls [] H (fun r H' => WT 0 g H' ∧ frm [12, 83, 84, 85, 86, 87, 88, 89, 90, 102, 103, 104, 105] H0 H' ∧ r = some (0, 1) ∧ 1 ≤ H' 590 47 ∧ H' 590 47 ≤ 5)) (off i : Int) (i0 : -1 ≤ i) (o0 : -2147483648 ≤ off) (o1 : off ≤ 2147483647) (hM : M = ms (H 618) i)  : ∀ (ls : PL) , pget ls 0 = some (2, 590) → pget ls 1 = some (0, off) → pget ls 2 = some (0, i) → WT 0 g H → frm [12, 83, 84, 85, 86, 87, 88, 89, 90, 102, 103, 104, 105] H0 H → 1 ≤ H 590 47 → H 590 47 ≤ 5 → i < H 590 47 → tok (H 618) i → Tr G us kd_X12_laySettled 8 (zget kd_X12_laySettled 185) 185 ls [] H (fun r H' => WT 0 g H' ∧ frm [12, 83, 84, 85, 86, 87, 88, 89, 90, 102, 103, 104, 105] H0 H' ∧ r = some (0, 1) ∧ 1 ≤ H' 590 47 ∧ H' 590 47 ≤ 5) := by
  intro ls   l0 l1 l2 hW hF d1 d5 hid hK
  have hk := hK.2
  refine tr_lab (D := 7) (t := 185) vb_X12_laySettled_185 _ ve_X12_laySettled_185 ?_
  simp (maxDischargeDepth := 12) [vb_X12_laySettled_185, wB, wI, k1, kI, kR, kL, k2, pget, parg, ppush, pcat, zw_lit, zw_m1, zw_m2, zw_m3, zNC_eq, zrow, pup_app, pget_pss, pget_psx, nlg_some, nlg_none, gv_590_0, gv_590_20, gv_590_44, gv_590_45, gv_590_46, gv_590_47, gv_590_48, gv_590_49, pe, tg_12_0, tg_12_20, tg_12_44, tg_12_45, tg_12_46, tg_12_47, tg_12_48, tg_12_49, zfit, zisI, sh_590, sh_590, sh_618, l0, l1, l2]
  repeat' (with_reducible (first | (refine And.intro ?_ ?_) | intro _))
  all_goals try (refine Ca_use (ca_lay_takes hg _ _ _ _ (by assumption) (by omega) (by omega) (by omega) (by omega) (by omega) (by omega)) (by omega) ?_; rintro _ _ ⟨hW2, hF2, f47, f618, x, rfl, x0, x1⟩; simp (maxDischargeDepth := 12) [wB, wI, k1, kI, kR, kL, k2, pget, parg, ppush, pcat, zw_lit, zw_m1, zw_m2, zw_m3, zNC_eq, zrow, pup_app, pget_pss, pget_psx, nlg_some, nlg_none, gv_590_0, gv_590_20, gv_590_44, gv_590_45, gv_590_46, gv_590_47, gv_590_48, gv_590_49, pe, tg_12_0, tg_12_20, tg_12_44, tg_12_45, tg_12_46, tg_12_47, tg_12_48, tg_12_49, zfit, zisI, sh_590, sh_590, sh_618, l0, l1, l2])
  all_goals repeat' (with_reducible (first | (refine And.intro ?_ ?_) | intro _))
  all_goals try ((first | ((refine sg_X12_laySettled_214 hg H0 M ihx (zw (off + x)) i (by omega) (zw_lo _) (zw_hi _) (by omega) _ _ ?_ ?_ ?_ ?_ ?_ ?_ ?_ ?_ ?_ ?_) <;> (try simp (maxDischargeDepth := 12) [pget_pss, pget_psx, nlg_some, nlg_none, pget, pup_app, l0, l1, l2])) | ((refine sg_X12_laySettled_214 hg H0 M ihx off i (by omega) o0 o1 (by omega) _ _ ?_ ?_ ?_ ?_ ?_ ?_ ?_ ?_ ?_ ?_) <;> (try simp (maxDischargeDepth := 12) [pget_pss, pget_psx, nlg_some, nlg_none, pget, pup_app, l0, l1, l2]))))
  all_goals try (refine tr_lab (D := 7) (t := 357) vb_X12_laySettled_357 _ ve_X12_laySettled_357 ?_; simp (maxDischargeDepth := 12) [vb_X12_laySettled_357, wB, wI, k1, kI, kR, kL, k2, pget, parg, ppush, pcat, zw_lit, zw_m1, zw_m2, zw_m3, zNC_eq, zrow, pup_app, pget_pss, pget_psx, nlg_some, nlg_none, gv_590_0, gv_590_20, gv_590_44, gv_590_45, gv_590_46, gv_590_47, gv_590_48, gv_590_49, pe, tg_12_0, tg_12_20, tg_12_44, tg_12_45, tg_12_46, tg_12_47, tg_12_48, tg_12_49, zfit, zisI, sh_590, sh_590, sh_618, l0, l1, l2])
  all_goals repeat' (with_reducible (first | (refine And.intro ?_ ?_) | intro _))
  all_goals (first | omega | assumption | (rw [f618]; assumption) | (exact hF2 _ hF) | (exact ⟨hW, hF, rfl, d1, d5⟩) | skip)

theorem lay_185 {G : zG} {us : Nat} {g : Nat → Nat → Int} (hg : GOK g) (H0 : PH) : ∀ (n : Nat) (ls : PL) (off i : Int) (H : PH), ms (H 618) i < n → pget ls 0 = some (2, 590) → pget ls 1 = some (0, off) → pget ls 2 = some (0, i) → WT 0 g H → frm [12, 83, 84, 85, 86, 87, 88, 89, 90, 102, 103, 104, 105] H0 H → 1 ≤ H 590 47 → H 590 47 ≤ 5 → -1 ≤ i → i < H 590 47 → tok (H 618) i → -2147483648 ≤ off → off ≤ 2147483647 → Tr G us kd_X12_laySettled 8 (zget kd_X12_laySettled 185) 185 ls [] H (fun r H' => WT 0 g H' ∧ frm [12, 83, 84, 85, 86, 87, 88, 89, 90, 102, 103, 104, 105] H0 H' ∧ r = some (0, 1) ∧ 1 ≤ H' 590 47 ∧ H' 590 47 ≤ 5)
  | 0, ls, off, i, H, hn, l0, l1, l2, hW, hF, d1, d5, i0, hid, hK, o0, o1 => by
    have := ms_pos (by omega) hK
    omega
  | n + 1, ls, off, i, H, hn, l0, l1, l2, hW, hF, d1, d5, i0, hid, hK, o0, o1 => sg_X12_laySettled_185 hg H0 H (ms (H 618) i) (fun ls off i H h => lay_185 hg H0 n ls off i H (by omega)) off i i0 o0 o1 rfl ls l0 l1 l2 hW hF d1 d5 hid hK
def cq_X12_laySettled : aC := (261, 8, [(2, 0, 0, 12)], some (0, 0, 1, 1), [], 0, [12, 83, 84, 85, 86, 87, 88, 89, 90, 102, 103, 104, 105], [], [], [])
def tq_X12_laySettled_0 : List aL := [(0, ([(0, ((2, 0, 0, 12), (0, 0, 0), (0, 0), []))], [], []), 542, [(2, 0), (3, 0)]),
  (103, ([(0, ((2, 0, 0, 12), (0, 0, 0), (0, 0), [])), (1, ((0, -2147483648, 2147483647, 1), (0, 0, 0), (0, 0), [])), (2, ((0, 0, 12, 1), (0, 0, 0), (0, 0), []))], [], [((2, 590, 47), 1, 5)]), 332, [(2, 0), (3, 0)]),
  (105, ([(0, ((2, 0, 0, 12), (0, 0, 0), (0, 0), [])), (1, ((0, -2147483648, 2147483647, 1), (0, 0, 0), (0, 0), [])), (2, ((0, 0, 5, 1), (0, 0, 0), (0, 0), []))], [], [((2, 590, 47), 1, 5)]), 330, [(2, -55), (3, 0)]),
  (11, ([(0, ((2, 0, 0, 12), (0, 0, 0), (0, 0), [])), (1, ((0, 0, 0, 0), (0, 0, 0), (0, 0), []))], [], [((2, 590, 47), 0, 0)]), 541, [(2, 0), (3, 0)]),
  (11, ([(0, ((2, 0, 0, 12), (0, 0, 0), (0, 0), [])), (1, ((0, 1, 1, 0), (0, 0, 0), (0, 0), []))], [], [((2, 590, 47), 0, 1)]), 538, [(2, 0), (3, 0)]),
  (11, ([(0, ((2, 0, 0, 12), (0, 0, 0), (0, 0), [])), (1, ((0, 10, 10, 0), (0, 0, 0), (0, 0), []))], [], [((2, 590, 47), 0, 10)]), 511, [(2, 0), (3, 0)]),
  (11, ([(0, ((2, 0, 0, 12), (0, 0, 0), (0, 0), [])), (1, ((0, 11, 11, 0), (0, 0, 0), (0, 0), []))], [], [((2, 590, 47), 0, 11)]), 508, [(2, 0), (3, 0)]),
  (11, ([(0, ((2, 0, 0, 12), (0, 0, 0), (0, 0), [])), (1, ((0, 12, 12, 0), (0, 0, 0), (0, 0), []))], [], [((2, 590, 47), 0, 12)]), 505, [(2, 0), (3, 0)]),
  (11, ([(0, ((2, 0, 0, 12), (0, 0, 0), (0, 0), [])), (1, ((0, 13, 13, 0), (0, 0, 0), (0, 0), []))], [], [((2, 590, 47), 0, 13)]), 502, [(2, 0), (3, 0)]),
  (11, ([(0, ((2, 0, 0, 12), (0, 0, 0), (0, 0), [])), (1, ((0, 14, 14, 0), (0, 0, 0), (0, 0), []))], [], [((2, 590, 47), 0, 14)]), 499, [(2, 0), (3, 0)]),
  (11, ([(0, ((2, 0, 0, 12), (0, 0, 0), (0, 0), [])), (1, ((0, 15, 15, 0), (0, 0, 0), (0, 0), []))], [], [((2, 590, 47), 0, 15)]), 496, [(2, 0), (3, 0)]),
  (11, ([(0, ((2, 0, 0, 12), (0, 0, 0), (0, 0), [])), (1, ((0, 16, 16, 0), (0, 0, 0), (0, 0), []))], [], [((2, 590, 47), 0, 16)]), 493, [(2, 0), (3, 0)]),
  (11, ([(0, ((2, 0, 0, 12), (0, 0, 0), (0, 0), [])), (1, ((0, 17, 17, 0), (0, 0, 0), (0, 0), []))], [], [((2, 590, 47), 0, 17)]), 490, [(2, 0), (3, 0)]),
  (11, ([(0, ((2, 0, 0, 12), (0, 0, 0), (0, 0), [])), (1, ((0, 18, 18, 0), (0, 0, 0), (0, 0), []))], [], [((2, 590, 47), 0, 18)]), 487, [(2, 0), (3, 0)]),
  (11, ([(0, ((2, 0, 0, 12), (0, 0, 0), (0, 0), [])), (1, ((0, 19, 19, 0), (0, 0, 0), (0, 0), []))], [], [((2, 590, 47), 0, 19)]), 484, [(2, 0), (3, 0)]),
  (11, ([(0, ((2, 0, 0, 12), (0, 0, 0), (0, 0), [])), (1, ((0, 2, 2, 0), (0, 0, 0), (0, 0), []))], [], [((2, 590, 47), 0, 2)]), 535, [(2, 0), (3, 0)]),
  (11, ([(0, ((2, 0, 0, 12), (0, 0, 0), (0, 0), [])), (1, ((0, 20, 20, 0), (0, 0, 0), (0, 0), []))], [], [((2, 590, 47), 0, 20)]), 481, [(2, 0), (3, 0)]),
  (11, ([(0, ((2, 0, 0, 12), (0, 0, 0), (0, 0), [])), (1, ((0, 21, 21, 0), (0, 0, 0), (0, 0), []))], [], [((2, 590, 47), 0, 21)]), 478, [(2, 0), (3, 0)]),
  (11, ([(0, ((2, 0, 0, 12), (0, 0, 0), (0, 0), [])), (1, ((0, 22, 22, 0), (0, 0, 0), (0, 0), []))], [], [((2, 590, 47), 0, 22)]), 475, [(2, 0), (3, 0)]),
  (11, ([(0, ((2, 0, 0, 12), (0, 0, 0), (0, 0), [])), (1, ((0, 23, 23, 0), (0, 0, 0), (0, 0), []))], [], [((2, 590, 47), 0, 23)]), 472, [(2, 0), (3, 0)])]
def tq_X12_laySettled_1 : List aL := [(11, ([(0, ((2, 0, 0, 12), (0, 0, 0), (0, 0), [])), (1, ((0, 24, 24, 0), (0, 0, 0), (0, 0), []))], [], [((2, 590, 47), 0, 24)]), 469, [(2, 0), (3, 0)]),
  (11, ([(0, ((2, 0, 0, 12), (0, 0, 0), (0, 0), [])), (1, ((0, 25, 25, 0), (0, 0, 0), (0, 0), []))], [], [((2, 590, 47), 0, 25)]), 466, [(2, 0), (3, 0)]),
  (11, ([(0, ((2, 0, 0, 12), (0, 0, 0), (0, 0), [])), (1, ((0, 26, 26, 0), (0, 0, 0), (0, 0), []))], [], [((2, 590, 47), 0, 26)]), 463, [(2, 0), (3, 0)]),
  (11, ([(0, ((2, 0, 0, 12), (0, 0, 0), (0, 0), [])), (1, ((0, 27, 27, 0), (0, 0, 0), (0, 0), []))], [], [((2, 590, 47), 0, 27)]), 460, [(2, 0), (3, 0)]),
  (11, ([(0, ((2, 0, 0, 12), (0, 0, 0), (0, 0), [])), (1, ((0, 28, 28, 0), (0, 0, 0), (0, 0), []))], [], [((2, 590, 47), 0, 28)]), 457, [(2, 0), (3, 0)]),
  (11, ([(0, ((2, 0, 0, 12), (0, 0, 0), (0, 0), [])), (1, ((0, 29, 29, 0), (0, 0, 0), (0, 0), []))], [], [((2, 590, 47), 0, 29)]), 454, [(2, 0), (3, 0)]),
  (11, ([(0, ((2, 0, 0, 12), (0, 0, 0), (0, 0), [])), (1, ((0, 3, 3, 0), (0, 0, 0), (0, 0), []))], [], [((2, 590, 47), 0, 3)]), 532, [(2, 0), (3, 0)]),
  (11, ([(0, ((2, 0, 0, 12), (0, 0, 0), (0, 0), [])), (1, ((0, 30, 30, 0), (0, 0, 0), (0, 0), []))], [], [((2, 590, 47), 0, 30)]), 451, [(2, 0), (3, 0)]),
  (11, ([(0, ((2, 0, 0, 12), (0, 0, 0), (0, 0), [])), (1, ((0, 31, 31, 0), (0, 0, 0), (0, 0), []))], [], [((2, 590, 47), 0, 31)]), 448, [(2, 0), (3, 0)]),
  (11, ([(0, ((2, 0, 0, 12), (0, 0, 0), (0, 0), [])), (1, ((0, 32, 32, 0), (0, 0, 0), (0, 0), []))], [], [((2, 590, 47), 0, 32)]), 445, [(2, 0), (3, 0)]),
  (11, ([(0, ((2, 0, 0, 12), (0, 0, 0), (0, 0), [])), (1, ((0, 33, 33, 0), (0, 0, 0), (0, 0), []))], [], [((2, 590, 47), 0, 33)]), 442, [(2, 0), (3, 0)]),
  (11, ([(0, ((2, 0, 0, 12), (0, 0, 0), (0, 0), [])), (1, ((0, 34, 34, 0), (0, 0, 0), (0, 0), []))], [], [((2, 590, 47), 0, 34)]), 439, [(2, 0), (3, 0)]),
  (11, ([(0, ((2, 0, 0, 12), (0, 0, 0), (0, 0), [])), (1, ((0, 35, 35, 0), (0, 0, 0), (0, 0), []))], [], [((2, 590, 47), 0, 35)]), 436, [(2, 0), (3, 0)]),
  (11, ([(0, ((2, 0, 0, 12), (0, 0, 0), (0, 0), [])), (1, ((0, 36, 36, 0), (0, 0, 0), (0, 0), []))], [], [((2, 590, 47), 0, 36)]), 433, [(2, 0), (3, 0)]),
  (11, ([(0, ((2, 0, 0, 12), (0, 0, 0), (0, 0), [])), (1, ((0, 37, 37, 0), (0, 0, 0), (0, 0), []))], [], [((2, 590, 47), 0, 37)]), 430, [(2, 0), (3, 0)]),
  (11, ([(0, ((2, 0, 0, 12), (0, 0, 0), (0, 0), [])), (1, ((0, 38, 38, 0), (0, 0, 0), (0, 0), []))], [], [((2, 590, 47), 0, 38)]), 427, [(2, 0), (3, 0)]),
  (11, ([(0, ((2, 0, 0, 12), (0, 0, 0), (0, 0), [])), (1, ((0, 39, 39, 0), (0, 0, 0), (0, 0), []))], [], [((2, 590, 47), 0, 39)]), 424, [(2, 0), (3, 0)]),
  (11, ([(0, ((2, 0, 0, 12), (0, 0, 0), (0, 0), [])), (1, ((0, 4, 4, 0), (0, 0, 0), (0, 0), []))], [], [((2, 590, 47), 0, 4)]), 529, [(2, 0), (3, 0)]),
  (11, ([(0, ((2, 0, 0, 12), (0, 0, 0), (0, 0), [])), (1, ((0, 40, 40, 0), (0, 0, 0), (0, 0), []))], [], [((2, 590, 47), 0, 40)]), 421, [(2, 0), (3, 0)]),
  (11, ([(0, ((2, 0, 0, 12), (0, 0, 0), (0, 0), [])), (1, ((0, 41, 41, 0), (0, 0, 0), (0, 0), []))], [], [((2, 590, 47), 0, 41)]), 418, [(2, 0), (3, 0)])]
def tq_X12_laySettled_2 : List aL := [(11, ([(0, ((2, 0, 0, 12), (0, 0, 0), (0, 0), [])), (1, ((0, 42, 42, 0), (0, 0, 0), (0, 0), []))], [], [((2, 590, 47), 0, 42)]), 415, [(2, 0), (3, 0)]),
  (11, ([(0, ((2, 0, 0, 12), (0, 0, 0), (0, 0), [])), (1, ((0, 43, 43, 0), (0, 0, 0), (0, 0), []))], [], [((2, 590, 47), 0, 43)]), 412, [(2, 0), (3, 0)]),
  (11, ([(0, ((2, 0, 0, 12), (0, 0, 0), (0, 0), [])), (1, ((0, 44, 44, 0), (0, 0, 0), (0, 0), []))], [], [((2, 590, 47), 0, 44)]), 409, [(2, 0), (3, 0)]),
  (11, ([(0, ((2, 0, 0, 12), (0, 0, 0), (0, 0), [])), (1, ((0, 45, 45, 0), (0, 0, 0), (0, 0), []))], [], [((2, 590, 47), 0, 45)]), 406, [(2, 0), (3, 0)]),
  (11, ([(0, ((2, 0, 0, 12), (0, 0, 0), (0, 0), [])), (1, ((0, 46, 46, 0), (0, 0, 0), (0, 0), []))], [], [((2, 590, 47), 0, 46)]), 403, [(2, 0), (3, 0)]),
  (11, ([(0, ((2, 0, 0, 12), (0, 0, 0), (0, 0), [])), (1, ((0, 47, 47, 0), (0, 0, 0), (0, 0), []))], [], [((2, 590, 47), 0, 47)]), 400, [(2, 0), (3, 0)]),
  (11, ([(0, ((2, 0, 0, 12), (0, 0, 0), (0, 0), [])), (1, ((0, 48, 48, 0), (0, 0, 0), (0, 0), []))], [], [((2, 590, 47), 0, 48)]), 397, [(2, 0), (3, 0)]),
  (11, ([(0, ((2, 0, 0, 12), (0, 0, 0), (0, 0), [])), (1, ((0, 49, 49, 0), (0, 0, 0), (0, 0), []))], [], [((2, 590, 47), 0, 49)]), 394, [(2, 0), (3, 0)]),
  (11, ([(0, ((2, 0, 0, 12), (0, 0, 0), (0, 0), [])), (1, ((0, 5, 5, 0), (0, 0, 0), (0, 0), []))], [], [((2, 590, 47), 0, 5)]), 526, [(2, 0), (3, 0)]),
  (11, ([(0, ((2, 0, 0, 12), (0, 0, 0), (0, 0), [])), (1, ((0, 50, 50, 0), (0, 0, 0), (0, 0), []))], [], [((2, 590, 47), 0, 50)]), 391, [(2, 0), (3, 0)]),
  (11, ([(0, ((2, 0, 0, 12), (0, 0, 0), (0, 0), [])), (1, ((0, 51, 51, 0), (0, 0, 0), (0, 0), []))], [], [((2, 590, 47), 0, 51)]), 388, [(2, 0), (3, 0)]),
  (11, ([(0, ((2, 0, 0, 12), (0, 0, 0), (0, 0), [])), (1, ((0, 52, 52, 0), (0, 0, 0), (0, 0), []))], [], [((2, 590, 47), 0, 52)]), 385, [(2, 0), (3, 0)]),
  (11, ([(0, ((2, 0, 0, 12), (0, 0, 0), (0, 0), [])), (1, ((0, 53, 53, 0), (0, 0, 0), (0, 0), []))], [], [((2, 590, 47), 0, 53)]), 382, [(2, 0), (3, 0)]),
  (11, ([(0, ((2, 0, 0, 12), (0, 0, 0), (0, 0), [])), (1, ((0, 54, 54, 0), (0, 0, 0), (0, 0), []))], [], [((2, 590, 47), 0, 54)]), 379, [(2, 0), (3, 0)]),
  (11, ([(0, ((2, 0, 0, 12), (0, 0, 0), (0, 0), [])), (1, ((0, 55, 55, 0), (0, 0, 0), (0, 0), []))], [], [((2, 590, 47), 0, 55)]), 376, [(2, 0), (3, 0)]),
  (11, ([(0, ((2, 0, 0, 12), (0, 0, 0), (0, 0), [])), (1, ((0, 56, 56, 0), (0, 0, 0), (0, 0), []))], [], [((2, 590, 47), 0, 56)]), 373, [(2, 0), (3, 0)]),
  (11, ([(0, ((2, 0, 0, 12), (0, 0, 0), (0, 0), [])), (1, ((0, 57, 57, 0), (0, 0, 0), (0, 0), []))], [], [((2, 590, 47), 0, 57)]), 370, [(2, 0), (3, 0)]),
  (11, ([(0, ((2, 0, 0, 12), (0, 0, 0), (0, 0), [])), (1, ((0, 58, 58, 0), (0, 0, 0), (0, 0), []))], [], [((2, 590, 47), 0, 58)]), 367, [(2, 0), (3, 0)]),
  (11, ([(0, ((2, 0, 0, 12), (0, 0, 0), (0, 0), [])), (1, ((0, 59, 59, 0), (0, 0, 0), (0, 0), []))], [], [((2, 590, 47), 0, 59)]), 364, [(2, 0), (3, 0)]),
  (11, ([(0, ((2, 0, 0, 12), (0, 0, 0), (0, 0), [])), (1, ((0, 6, 6, 0), (0, 0, 0), (0, 0), []))], [], [((2, 590, 47), 0, 6)]), 523, [(2, 0), (3, 0)])]
def tq_X12_laySettled_3 : List aL := [(11, ([(0, ((2, 0, 0, 12), (0, 0, 0), (0, 0), [])), (1, ((0, 60, 60, 0), (0, 0, 0), (0, 0), []))], [], [((2, 590, 47), 0, 60)]), 361, [(2, 0), (3, 0)]),
  (11, ([(0, ((2, 0, 0, 12), (0, 0, 0), (0, 0), [])), (1, ((0, 7, 7, 0), (0, 0, 0), (0, 0), []))], [], [((2, 590, 47), 0, 7)]), 520, [(2, 0), (3, 0)]),
  (11, ([(0, ((2, 0, 0, 12), (0, 0, 0), (0, 0), [])), (1, ((0, 8, 8, 0), (0, 0, 0), (0, 0), []))], [], [((2, 590, 47), 0, 8)]), 517, [(2, 0), (3, 0)]),
  (11, ([(0, ((2, 0, 0, 12), (0, 0, 0), (0, 0), [])), (1, ((0, 9, 9, 0), (0, 0, 0), (0, 0), []))], [], [((2, 590, 47), 0, 9)]), 514, [(2, 0), (3, 0)]),
  (115, ([(0, ((2, 0, 0, 12), (0, 0, 0), (0, 0), [])), (1, ((0, -2147483648, 2147483647, 1), (0, 0, 0), (0, 0), [])), (2, ((0, 0, 4, 1), (0, 0, 0), (0, 0), [])), (3, ((0, 0, 12, 1), (0, 0, 0), (0, 0), []))], [], [((2, 590, 47), 1, 5)]), 328, [(2, -55), (3, -4)]),
  (157, ([(0, ((2, 0, 0, 12), (0, 0, 0), (0, 0), [])), (1, ((0, -2147483648, 2147483647, 1), (0, 0, 0), (0, 0), [])), (2, ((0, 0, 4, 1), (0, 0, 0), (0, 0), [])), (3, ((0, 0, 11, 1), (0, 0, 0), (0, 0), []))], [((0, 0, 59, 1), (0, 0, 0), (0, 0), []), ((2, 0, 0, 105), (0, 0, 0), (0, 0), [])], [((2, 590, 47), 1, 5)]), 327, [(2, -55), (3, -4)]),
  (158, ([(0, ((2, 0, 0, 12), (0, 0, 0), (0, 0), [])), (1, ((0, -2147483648, 2147483647, 1), (0, 0, 0), (0, 0), [])), (2, ((0, 0, 4, 1), (0, 0, 0), (0, 0), [])), (3, ((0, 0, 11, 1), (0, 0, 0), (0, 0), []))], [((0, 0, 1, 1), (0, 0, 0), (0, 0), []), ((0, 0, 59, 1), (0, 0, 0), (0, 0), []), ((2, 0, 0, 105), (0, 0, 0), (0, 0), [])], [((2, 590, 47), 1, 5)]), 326, [(2, -55), (3, -4)]),
  (165, ([(0, ((2, 0, 0, 12), (0, 0, 0), (0, 0), [])), (1, ((0, -2147483648, 2147483647, 1), (0, 0, 0), (0, 0), [])), (2, ((0, 0, 4, 1), (0, 0, 0), (0, 0), [])), (3, ((0, 12, 12, 1), (0, 0, 0), (0, 0), []))], [], [((2, 590, 47), 1, 5)]), 277, [(2, -55), (3, 0)]),
  (171, ([(0, ((2, 0, 0, 12), (0, 0, 0), (0, 0), [])), (1, ((0, -2147483648, 2147483647, 1), (0, 0, 0), (0, 0), [])), (2, ((0, 1, 5, 1), (0, 0, 0), (0, 0), []))], [], [((2, 590, 47), 1, 5)]), 1, [(2, 0), (3, 0)]),
  (35, ([(0, ((2, 0, 0, 12), (0, 0, 0), (0, 0), [])), (1, ((0, 0, 0, 0), (0, 0, 0), (0, 0), []))], [], [((2, 590, 47), 0, 0)]), 540, [(2, 0), (3, 0)]),
  (35, ([(0, ((2, 0, 0, 12), (0, 0, 0), (0, 0), [])), (1, ((0, 1, 1, 0), (0, 0, 0), (0, 0), []))], [], [((2, 590, 47), 0, 1)]), 537, [(2, 0), (3, 0)]),
  (35, ([(0, ((2, 0, 0, 12), (0, 0, 0), (0, 0), [])), (1, ((0, 10, 10, 0), (0, 0, 0), (0, 0), []))], [], [((2, 590, 47), 0, 10)]), 510, [(2, 0), (3, 0)]),
  (35, ([(0, ((2, 0, 0, 12), (0, 0, 0), (0, 0), [])), (1, ((0, 11, 11, 0), (0, 0, 0), (0, 0), []))], [], [((2, 590, 47), 0, 11)]), 507, [(2, 0), (3, 0)]),
  (35, ([(0, ((2, 0, 0, 12), (0, 0, 0), (0, 0), [])), (1, ((0, 12, 12, 0), (0, 0, 0), (0, 0), []))], [], [((2, 590, 47), 0, 12)]), 504, [(2, 0), (3, 0)]),
  (35, ([(0, ((2, 0, 0, 12), (0, 0, 0), (0, 0), [])), (1, ((0, 13, 13, 0), (0, 0, 0), (0, 0), []))], [], [((2, 590, 47), 0, 13)]), 501, [(2, 0), (3, 0)]),
  (35, ([(0, ((2, 0, 0, 12), (0, 0, 0), (0, 0), [])), (1, ((0, 14, 14, 0), (0, 0, 0), (0, 0), []))], [], [((2, 590, 47), 0, 14)]), 498, [(2, 0), (3, 0)]),
  (35, ([(0, ((2, 0, 0, 12), (0, 0, 0), (0, 0), [])), (1, ((0, 15, 15, 0), (0, 0, 0), (0, 0), []))], [], [((2, 590, 47), 0, 15)]), 495, [(2, 0), (3, 0)]),
  (35, ([(0, ((2, 0, 0, 12), (0, 0, 0), (0, 0), [])), (1, ((0, 16, 16, 0), (0, 0, 0), (0, 0), []))], [], [((2, 590, 47), 0, 16)]), 492, [(2, 0), (3, 0)]),
  (35, ([(0, ((2, 0, 0, 12), (0, 0, 0), (0, 0), [])), (1, ((0, 17, 17, 0), (0, 0, 0), (0, 0), []))], [], [((2, 590, 47), 0, 17)]), 489, [(2, 0), (3, 0)]),
  (35, ([(0, ((2, 0, 0, 12), (0, 0, 0), (0, 0), [])), (1, ((0, 18, 18, 0), (0, 0, 0), (0, 0), []))], [], [((2, 590, 47), 0, 18)]), 486, [(2, 0), (3, 0)])]
def tq_X12_laySettled_4 : List aL := [(35, ([(0, ((2, 0, 0, 12), (0, 0, 0), (0, 0), [])), (1, ((0, 19, 19, 0), (0, 0, 0), (0, 0), []))], [], [((2, 590, 47), 0, 19)]), 483, [(2, 0), (3, 0)]),
  (35, ([(0, ((2, 0, 0, 12), (0, 0, 0), (0, 0), [])), (1, ((0, 2, 2, 0), (0, 0, 0), (0, 0), []))], [], [((2, 590, 47), 0, 2)]), 534, [(2, 0), (3, 0)]),
  (35, ([(0, ((2, 0, 0, 12), (0, 0, 0), (0, 0), [])), (1, ((0, 20, 20, 0), (0, 0, 0), (0, 0), []))], [], [((2, 590, 47), 0, 20)]), 480, [(2, 0), (3, 0)]),
  (35, ([(0, ((2, 0, 0, 12), (0, 0, 0), (0, 0), [])), (1, ((0, 21, 21, 0), (0, 0, 0), (0, 0), []))], [], [((2, 590, 47), 0, 21)]), 477, [(2, 0), (3, 0)]),
  (35, ([(0, ((2, 0, 0, 12), (0, 0, 0), (0, 0), [])), (1, ((0, 22, 22, 0), (0, 0, 0), (0, 0), []))], [], [((2, 590, 47), 0, 22)]), 474, [(2, 0), (3, 0)]),
  (35, ([(0, ((2, 0, 0, 12), (0, 0, 0), (0, 0), [])), (1, ((0, 23, 23, 0), (0, 0, 0), (0, 0), []))], [], [((2, 590, 47), 0, 23)]), 471, [(2, 0), (3, 0)]),
  (35, ([(0, ((2, 0, 0, 12), (0, 0, 0), (0, 0), [])), (1, ((0, 24, 24, 0), (0, 0, 0), (0, 0), []))], [], [((2, 590, 47), 0, 24)]), 468, [(2, 0), (3, 0)]),
  (35, ([(0, ((2, 0, 0, 12), (0, 0, 0), (0, 0), [])), (1, ((0, 25, 25, 0), (0, 0, 0), (0, 0), []))], [], [((2, 590, 47), 0, 25)]), 465, [(2, 0), (3, 0)]),
  (35, ([(0, ((2, 0, 0, 12), (0, 0, 0), (0, 0), [])), (1, ((0, 26, 26, 0), (0, 0, 0), (0, 0), []))], [], [((2, 590, 47), 0, 26)]), 462, [(2, 0), (3, 0)]),
  (35, ([(0, ((2, 0, 0, 12), (0, 0, 0), (0, 0), [])), (1, ((0, 27, 27, 0), (0, 0, 0), (0, 0), []))], [], [((2, 590, 47), 0, 27)]), 459, [(2, 0), (3, 0)]),
  (35, ([(0, ((2, 0, 0, 12), (0, 0, 0), (0, 0), [])), (1, ((0, 28, 28, 0), (0, 0, 0), (0, 0), []))], [], [((2, 590, 47), 0, 28)]), 456, [(2, 0), (3, 0)]),
  (35, ([(0, ((2, 0, 0, 12), (0, 0, 0), (0, 0), [])), (1, ((0, 29, 29, 0), (0, 0, 0), (0, 0), []))], [], [((2, 590, 47), 0, 29)]), 453, [(2, 0), (3, 0)]),
  (35, ([(0, ((2, 0, 0, 12), (0, 0, 0), (0, 0), [])), (1, ((0, 3, 3, 0), (0, 0, 0), (0, 0), []))], [], [((2, 590, 47), 0, 3)]), 531, [(2, 0), (3, 0)]),
  (35, ([(0, ((2, 0, 0, 12), (0, 0, 0), (0, 0), [])), (1, ((0, 30, 30, 0), (0, 0, 0), (0, 0), []))], [], [((2, 590, 47), 0, 30)]), 450, [(2, 0), (3, 0)]),
  (35, ([(0, ((2, 0, 0, 12), (0, 0, 0), (0, 0), [])), (1, ((0, 31, 31, 0), (0, 0, 0), (0, 0), []))], [], [((2, 590, 47), 0, 31)]), 447, [(2, 0), (3, 0)]),
  (35, ([(0, ((2, 0, 0, 12), (0, 0, 0), (0, 0), [])), (1, ((0, 32, 32, 0), (0, 0, 0), (0, 0), []))], [], [((2, 590, 47), 0, 32)]), 444, [(2, 0), (3, 0)]),
  (35, ([(0, ((2, 0, 0, 12), (0, 0, 0), (0, 0), [])), (1, ((0, 33, 33, 0), (0, 0, 0), (0, 0), []))], [], [((2, 590, 47), 0, 33)]), 441, [(2, 0), (3, 0)]),
  (35, ([(0, ((2, 0, 0, 12), (0, 0, 0), (0, 0), [])), (1, ((0, 34, 34, 0), (0, 0, 0), (0, 0), []))], [], [((2, 590, 47), 0, 34)]), 438, [(2, 0), (3, 0)]),
  (35, ([(0, ((2, 0, 0, 12), (0, 0, 0), (0, 0), [])), (1, ((0, 35, 35, 0), (0, 0, 0), (0, 0), []))], [], [((2, 590, 47), 0, 35)]), 435, [(2, 0), (3, 0)]),
  (35, ([(0, ((2, 0, 0, 12), (0, 0, 0), (0, 0), [])), (1, ((0, 36, 36, 0), (0, 0, 0), (0, 0), []))], [], [((2, 590, 47), 0, 36)]), 432, [(2, 0), (3, 0)])]
def tq_X12_laySettled_5 : List aL := [(35, ([(0, ((2, 0, 0, 12), (0, 0, 0), (0, 0), [])), (1, ((0, 37, 37, 0), (0, 0, 0), (0, 0), []))], [], [((2, 590, 47), 0, 37)]), 429, [(2, 0), (3, 0)]),
  (35, ([(0, ((2, 0, 0, 12), (0, 0, 0), (0, 0), [])), (1, ((0, 38, 38, 0), (0, 0, 0), (0, 0), []))], [], [((2, 590, 47), 0, 38)]), 426, [(2, 0), (3, 0)]),
  (35, ([(0, ((2, 0, 0, 12), (0, 0, 0), (0, 0), [])), (1, ((0, 39, 39, 0), (0, 0, 0), (0, 0), []))], [], [((2, 590, 47), 0, 39)]), 423, [(2, 0), (3, 0)]),
  (35, ([(0, ((2, 0, 0, 12), (0, 0, 0), (0, 0), [])), (1, ((0, 4, 4, 0), (0, 0, 0), (0, 0), []))], [], [((2, 590, 47), 0, 4)]), 528, [(2, 0), (3, 0)]),
  (35, ([(0, ((2, 0, 0, 12), (0, 0, 0), (0, 0), [])), (1, ((0, 40, 40, 0), (0, 0, 0), (0, 0), []))], [], [((2, 590, 47), 0, 40)]), 420, [(2, 0), (3, 0)]),
  (35, ([(0, ((2, 0, 0, 12), (0, 0, 0), (0, 0), [])), (1, ((0, 41, 41, 0), (0, 0, 0), (0, 0), []))], [], [((2, 590, 47), 0, 41)]), 417, [(2, 0), (3, 0)]),
  (35, ([(0, ((2, 0, 0, 12), (0, 0, 0), (0, 0), [])), (1, ((0, 42, 42, 0), (0, 0, 0), (0, 0), []))], [], [((2, 590, 47), 0, 42)]), 414, [(2, 0), (3, 0)]),
  (35, ([(0, ((2, 0, 0, 12), (0, 0, 0), (0, 0), [])), (1, ((0, 43, 43, 0), (0, 0, 0), (0, 0), []))], [], [((2, 590, 47), 0, 43)]), 411, [(2, 0), (3, 0)]),
  (35, ([(0, ((2, 0, 0, 12), (0, 0, 0), (0, 0), [])), (1, ((0, 44, 44, 0), (0, 0, 0), (0, 0), []))], [], [((2, 590, 47), 0, 44)]), 408, [(2, 0), (3, 0)]),
  (35, ([(0, ((2, 0, 0, 12), (0, 0, 0), (0, 0), [])), (1, ((0, 45, 45, 0), (0, 0, 0), (0, 0), []))], [], [((2, 590, 47), 0, 45)]), 405, [(2, 0), (3, 0)]),
  (35, ([(0, ((2, 0, 0, 12), (0, 0, 0), (0, 0), [])), (1, ((0, 46, 46, 0), (0, 0, 0), (0, 0), []))], [], [((2, 590, 47), 0, 46)]), 402, [(2, 0), (3, 0)]),
  (35, ([(0, ((2, 0, 0, 12), (0, 0, 0), (0, 0), [])), (1, ((0, 47, 47, 0), (0, 0, 0), (0, 0), []))], [], [((2, 590, 47), 0, 47)]), 399, [(2, 0), (3, 0)]),
  (35, ([(0, ((2, 0, 0, 12), (0, 0, 0), (0, 0), [])), (1, ((0, 48, 48, 0), (0, 0, 0), (0, 0), []))], [], [((2, 590, 47), 0, 48)]), 396, [(2, 0), (3, 0)]),
  (35, ([(0, ((2, 0, 0, 12), (0, 0, 0), (0, 0), [])), (1, ((0, 49, 49, 0), (0, 0, 0), (0, 0), []))], [], [((2, 590, 47), 0, 49)]), 393, [(2, 0), (3, 0)]),
  (35, ([(0, ((2, 0, 0, 12), (0, 0, 0), (0, 0), [])), (1, ((0, 5, 5, 0), (0, 0, 0), (0, 0), []))], [], [((2, 590, 47), 0, 5)]), 525, [(2, 0), (3, 0)]),
  (35, ([(0, ((2, 0, 0, 12), (0, 0, 0), (0, 0), [])), (1, ((0, 50, 50, 0), (0, 0, 0), (0, 0), []))], [], [((2, 590, 47), 0, 50)]), 390, [(2, 0), (3, 0)]),
  (35, ([(0, ((2, 0, 0, 12), (0, 0, 0), (0, 0), [])), (1, ((0, 51, 51, 0), (0, 0, 0), (0, 0), []))], [], [((2, 590, 47), 0, 51)]), 387, [(2, 0), (3, 0)]),
  (35, ([(0, ((2, 0, 0, 12), (0, 0, 0), (0, 0), [])), (1, ((0, 52, 52, 0), (0, 0, 0), (0, 0), []))], [], [((2, 590, 47), 0, 52)]), 384, [(2, 0), (3, 0)]),
  (35, ([(0, ((2, 0, 0, 12), (0, 0, 0), (0, 0), [])), (1, ((0, 53, 53, 0), (0, 0, 0), (0, 0), []))], [], [((2, 590, 47), 0, 53)]), 381, [(2, 0), (3, 0)]),
  (35, ([(0, ((2, 0, 0, 12), (0, 0, 0), (0, 0), [])), (1, ((0, 54, 54, 0), (0, 0, 0), (0, 0), []))], [], [((2, 590, 47), 0, 54)]), 378, [(2, 0), (3, 0)])]
def tq_X12_laySettled_6 : List aL := [(35, ([(0, ((2, 0, 0, 12), (0, 0, 0), (0, 0), [])), (1, ((0, 55, 55, 0), (0, 0, 0), (0, 0), []))], [], [((2, 590, 47), 0, 55)]), 375, [(2, 0), (3, 0)]),
  (35, ([(0, ((2, 0, 0, 12), (0, 0, 0), (0, 0), [])), (1, ((0, 56, 56, 0), (0, 0, 0), (0, 0), []))], [], [((2, 590, 47), 0, 56)]), 372, [(2, 0), (3, 0)]),
  (35, ([(0, ((2, 0, 0, 12), (0, 0, 0), (0, 0), [])), (1, ((0, 57, 57, 0), (0, 0, 0), (0, 0), []))], [], [((2, 590, 47), 0, 57)]), 369, [(2, 0), (3, 0)]),
  (35, ([(0, ((2, 0, 0, 12), (0, 0, 0), (0, 0), [])), (1, ((0, 58, 58, 0), (0, 0, 0), (0, 0), []))], [], [((2, 590, 47), 0, 58)]), 366, [(2, 0), (3, 0)]),
  (35, ([(0, ((2, 0, 0, 12), (0, 0, 0), (0, 0), [])), (1, ((0, 59, 59, 0), (0, 0, 0), (0, 0), []))], [], [((2, 590, 47), 0, 59)]), 363, [(2, 0), (3, 0)]),
  (35, ([(0, ((2, 0, 0, 12), (0, 0, 0), (0, 0), [])), (1, ((0, 6, 6, 0), (0, 0, 0), (0, 0), []))], [], [((2, 590, 47), 0, 6)]), 522, [(2, 0), (3, 0)]),
  (35, ([(0, ((2, 0, 0, 12), (0, 0, 0), (0, 0), [])), (1, ((0, 7, 7, 0), (0, 0, 0), (0, 0), []))], [], [((2, 590, 47), 0, 7)]), 519, [(2, 0), (3, 0)]),
  (35, ([(0, ((2, 0, 0, 12), (0, 0, 0), (0, 0), [])), (1, ((0, 8, 8, 0), (0, 0, 0), (0, 0), []))], [], [((2, 590, 47), 0, 8)]), 516, [(2, 0), (3, 0)]),
  (35, ([(0, ((2, 0, 0, 12), (0, 0, 0), (0, 0), [])), (1, ((0, 9, 9, 0), (0, 0, 0), (0, 0), []))], [], [((2, 590, 47), 0, 9)]), 513, [(2, 0), (3, 0)]),
  (55, ([(0, ((2, 0, 0, 12), (0, 0, 0), (0, 0), [])), (1, ((0, 0, 0, 0), (0, 0, 0), (0, 0), []))], [], [((2, 590, 47), 0, 1)]), 539, [(2, 0), (3, 0)]),
  (55, ([(0, ((2, 0, 0, 12), (0, 0, 0), (0, 0), [])), (1, ((0, 1, 1, 0), (0, 0, 0), (0, 0), []))], [], [((2, 590, 47), 0, 2)]), 536, [(2, 0), (3, 0)]),
  (55, ([(0, ((2, 0, 0, 12), (0, 0, 0), (0, 0), [])), (1, ((0, 10, 10, 0), (0, 0, 0), (0, 0), []))], [], [((2, 590, 47), 0, 11)]), 509, [(2, 0), (3, 0)]),
  (55, ([(0, ((2, 0, 0, 12), (0, 0, 0), (0, 0), [])), (1, ((0, 11, 11, 0), (0, 0, 0), (0, 0), []))], [], [((2, 590, 47), 0, 12)]), 506, [(2, 0), (3, 0)]),
  (55, ([(0, ((2, 0, 0, 12), (0, 0, 0), (0, 0), [])), (1, ((0, 12, 12, 0), (0, 0, 0), (0, 0), []))], [], [((2, 590, 47), 0, 13)]), 503, [(2, 0), (3, 0)]),
  (55, ([(0, ((2, 0, 0, 12), (0, 0, 0), (0, 0), [])), (1, ((0, 13, 13, 0), (0, 0, 0), (0, 0), []))], [], [((2, 590, 47), 0, 14)]), 500, [(2, 0), (3, 0)]),
  (55, ([(0, ((2, 0, 0, 12), (0, 0, 0), (0, 0), [])), (1, ((0, 14, 14, 0), (0, 0, 0), (0, 0), []))], [], [((2, 590, 47), 0, 15)]), 497, [(2, 0), (3, 0)]),
  (55, ([(0, ((2, 0, 0, 12), (0, 0, 0), (0, 0), [])), (1, ((0, 15, 15, 0), (0, 0, 0), (0, 0), []))], [], [((2, 590, 47), 0, 16)]), 494, [(2, 0), (3, 0)]),
  (55, ([(0, ((2, 0, 0, 12), (0, 0, 0), (0, 0), [])), (1, ((0, 16, 16, 0), (0, 0, 0), (0, 0), []))], [], [((2, 590, 47), 0, 17)]), 491, [(2, 0), (3, 0)]),
  (55, ([(0, ((2, 0, 0, 12), (0, 0, 0), (0, 0), [])), (1, ((0, 17, 17, 0), (0, 0, 0), (0, 0), []))], [], [((2, 590, 47), 0, 18)]), 488, [(2, 0), (3, 0)]),
  (55, ([(0, ((2, 0, 0, 12), (0, 0, 0), (0, 0), [])), (1, ((0, 18, 18, 0), (0, 0, 0), (0, 0), []))], [], [((2, 590, 47), 0, 19)]), 485, [(2, 0), (3, 0)])]
def tq_X12_laySettled_7 : List aL := [(55, ([(0, ((2, 0, 0, 12), (0, 0, 0), (0, 0), [])), (1, ((0, 19, 19, 0), (0, 0, 0), (0, 0), []))], [], [((2, 590, 47), 0, 20)]), 482, [(2, 0), (3, 0)]),
  (55, ([(0, ((2, 0, 0, 12), (0, 0, 0), (0, 0), [])), (1, ((0, 2, 2, 0), (0, 0, 0), (0, 0), []))], [], [((2, 590, 47), 0, 3)]), 533, [(2, 0), (3, 0)]),
  (55, ([(0, ((2, 0, 0, 12), (0, 0, 0), (0, 0), [])), (1, ((0, 20, 20, 0), (0, 0, 0), (0, 0), []))], [], [((2, 590, 47), 0, 21)]), 479, [(2, 0), (3, 0)]),
  (55, ([(0, ((2, 0, 0, 12), (0, 0, 0), (0, 0), [])), (1, ((0, 21, 21, 0), (0, 0, 0), (0, 0), []))], [], [((2, 590, 47), 0, 22)]), 476, [(2, 0), (3, 0)]),
  (55, ([(0, ((2, 0, 0, 12), (0, 0, 0), (0, 0), [])), (1, ((0, 22, 22, 0), (0, 0, 0), (0, 0), []))], [], [((2, 590, 47), 0, 23)]), 473, [(2, 0), (3, 0)]),
  (55, ([(0, ((2, 0, 0, 12), (0, 0, 0), (0, 0), [])), (1, ((0, 23, 23, 0), (0, 0, 0), (0, 0), []))], [], [((2, 590, 47), 0, 24)]), 470, [(2, 0), (3, 0)]),
  (55, ([(0, ((2, 0, 0, 12), (0, 0, 0), (0, 0), [])), (1, ((0, 24, 24, 0), (0, 0, 0), (0, 0), []))], [], [((2, 590, 47), 0, 25)]), 467, [(2, 0), (3, 0)]),
  (55, ([(0, ((2, 0, 0, 12), (0, 0, 0), (0, 0), [])), (1, ((0, 25, 25, 0), (0, 0, 0), (0, 0), []))], [], [((2, 590, 47), 0, 26)]), 464, [(2, 0), (3, 0)]),
  (55, ([(0, ((2, 0, 0, 12), (0, 0, 0), (0, 0), [])), (1, ((0, 26, 26, 0), (0, 0, 0), (0, 0), []))], [], [((2, 590, 47), 0, 27)]), 461, [(2, 0), (3, 0)]),
  (55, ([(0, ((2, 0, 0, 12), (0, 0, 0), (0, 0), [])), (1, ((0, 27, 27, 0), (0, 0, 0), (0, 0), []))], [], [((2, 590, 47), 0, 28)]), 458, [(2, 0), (3, 0)]),
  (55, ([(0, ((2, 0, 0, 12), (0, 0, 0), (0, 0), [])), (1, ((0, 28, 28, 0), (0, 0, 0), (0, 0), []))], [], [((2, 590, 47), 0, 29)]), 455, [(2, 0), (3, 0)]),
  (55, ([(0, ((2, 0, 0, 12), (0, 0, 0), (0, 0), [])), (1, ((0, 29, 29, 0), (0, 0, 0), (0, 0), []))], [], [((2, 590, 47), 0, 30)]), 452, [(2, 0), (3, 0)]),
  (55, ([(0, ((2, 0, 0, 12), (0, 0, 0), (0, 0), [])), (1, ((0, 3, 3, 0), (0, 0, 0), (0, 0), []))], [], [((2, 590, 47), 0, 4)]), 530, [(2, 0), (3, 0)]),
  (55, ([(0, ((2, 0, 0, 12), (0, 0, 0), (0, 0), [])), (1, ((0, 30, 30, 0), (0, 0, 0), (0, 0), []))], [], [((2, 590, 47), 0, 31)]), 449, [(2, 0), (3, 0)]),
  (55, ([(0, ((2, 0, 0, 12), (0, 0, 0), (0, 0), [])), (1, ((0, 31, 31, 0), (0, 0, 0), (0, 0), []))], [], [((2, 590, 47), 0, 32)]), 446, [(2, 0), (3, 0)]),
  (55, ([(0, ((2, 0, 0, 12), (0, 0, 0), (0, 0), [])), (1, ((0, 32, 32, 0), (0, 0, 0), (0, 0), []))], [], [((2, 590, 47), 0, 33)]), 443, [(2, 0), (3, 0)]),
  (55, ([(0, ((2, 0, 0, 12), (0, 0, 0), (0, 0), [])), (1, ((0, 33, 33, 0), (0, 0, 0), (0, 0), []))], [], [((2, 590, 47), 0, 34)]), 440, [(2, 0), (3, 0)]),
  (55, ([(0, ((2, 0, 0, 12), (0, 0, 0), (0, 0), [])), (1, ((0, 34, 34, 0), (0, 0, 0), (0, 0), []))], [], [((2, 590, 47), 0, 35)]), 437, [(2, 0), (3, 0)]),
  (55, ([(0, ((2, 0, 0, 12), (0, 0, 0), (0, 0), [])), (1, ((0, 35, 35, 0), (0, 0, 0), (0, 0), []))], [], [((2, 590, 47), 0, 36)]), 434, [(2, 0), (3, 0)]),
  (55, ([(0, ((2, 0, 0, 12), (0, 0, 0), (0, 0), [])), (1, ((0, 36, 36, 0), (0, 0, 0), (0, 0), []))], [], [((2, 590, 47), 0, 37)]), 431, [(2, 0), (3, 0)])]
def tq_X12_laySettled_8 : List aL := [(55, ([(0, ((2, 0, 0, 12), (0, 0, 0), (0, 0), [])), (1, ((0, 37, 37, 0), (0, 0, 0), (0, 0), []))], [], [((2, 590, 47), 0, 38)]), 428, [(2, 0), (3, 0)]),
  (55, ([(0, ((2, 0, 0, 12), (0, 0, 0), (0, 0), [])), (1, ((0, 38, 38, 0), (0, 0, 0), (0, 0), []))], [], [((2, 590, 47), 0, 39)]), 425, [(2, 0), (3, 0)]),
  (55, ([(0, ((2, 0, 0, 12), (0, 0, 0), (0, 0), [])), (1, ((0, 39, 39, 0), (0, 0, 0), (0, 0), []))], [], [((2, 590, 47), 0, 40)]), 422, [(2, 0), (3, 0)]),
  (55, ([(0, ((2, 0, 0, 12), (0, 0, 0), (0, 0), [])), (1, ((0, 4, 4, 0), (0, 0, 0), (0, 0), []))], [], [((2, 590, 47), 0, 5)]), 527, [(2, 0), (3, 0)]),
  (55, ([(0, ((2, 0, 0, 12), (0, 0, 0), (0, 0), [])), (1, ((0, 40, 40, 0), (0, 0, 0), (0, 0), []))], [], [((2, 590, 47), 0, 41)]), 419, [(2, 0), (3, 0)]),
  (55, ([(0, ((2, 0, 0, 12), (0, 0, 0), (0, 0), [])), (1, ((0, 41, 41, 0), (0, 0, 0), (0, 0), []))], [], [((2, 590, 47), 0, 42)]), 416, [(2, 0), (3, 0)]),
  (55, ([(0, ((2, 0, 0, 12), (0, 0, 0), (0, 0), [])), (1, ((0, 42, 42, 0), (0, 0, 0), (0, 0), []))], [], [((2, 590, 47), 0, 43)]), 413, [(2, 0), (3, 0)]),
  (55, ([(0, ((2, 0, 0, 12), (0, 0, 0), (0, 0), [])), (1, ((0, 43, 43, 0), (0, 0, 0), (0, 0), []))], [], [((2, 590, 47), 0, 44)]), 410, [(2, 0), (3, 0)]),
  (55, ([(0, ((2, 0, 0, 12), (0, 0, 0), (0, 0), [])), (1, ((0, 44, 44, 0), (0, 0, 0), (0, 0), []))], [], [((2, 590, 47), 0, 45)]), 407, [(2, 0), (3, 0)]),
  (55, ([(0, ((2, 0, 0, 12), (0, 0, 0), (0, 0), [])), (1, ((0, 45, 45, 0), (0, 0, 0), (0, 0), []))], [], [((2, 590, 47), 0, 46)]), 404, [(2, 0), (3, 0)]),
  (55, ([(0, ((2, 0, 0, 12), (0, 0, 0), (0, 0), [])), (1, ((0, 46, 46, 0), (0, 0, 0), (0, 0), []))], [], [((2, 590, 47), 0, 47)]), 401, [(2, 0), (3, 0)]),
  (55, ([(0, ((2, 0, 0, 12), (0, 0, 0), (0, 0), [])), (1, ((0, 47, 47, 0), (0, 0, 0), (0, 0), []))], [], [((2, 590, 47), 0, 48)]), 398, [(2, 0), (3, 0)]),
  (55, ([(0, ((2, 0, 0, 12), (0, 0, 0), (0, 0), [])), (1, ((0, 48, 48, 0), (0, 0, 0), (0, 0), []))], [], [((2, 590, 47), 0, 49)]), 395, [(2, 0), (3, 0)]),
  (55, ([(0, ((2, 0, 0, 12), (0, 0, 0), (0, 0), [])), (1, ((0, 49, 49, 0), (0, 0, 0), (0, 0), []))], [], [((2, 590, 47), 0, 50)]), 392, [(2, 0), (3, 0)]),
  (55, ([(0, ((2, 0, 0, 12), (0, 0, 0), (0, 0), [])), (1, ((0, 5, 5, 0), (0, 0, 0), (0, 0), []))], [], [((2, 590, 47), 0, 6)]), 524, [(2, 0), (3, 0)]),
  (55, ([(0, ((2, 0, 0, 12), (0, 0, 0), (0, 0), [])), (1, ((0, 50, 50, 0), (0, 0, 0), (0, 0), []))], [], [((2, 590, 47), 0, 51)]), 389, [(2, 0), (3, 0)]),
  (55, ([(0, ((2, 0, 0, 12), (0, 0, 0), (0, 0), [])), (1, ((0, 51, 51, 0), (0, 0, 0), (0, 0), []))], [], [((2, 590, 47), 0, 52)]), 386, [(2, 0), (3, 0)]),
  (55, ([(0, ((2, 0, 0, 12), (0, 0, 0), (0, 0), [])), (1, ((0, 52, 52, 0), (0, 0, 0), (0, 0), []))], [], [((2, 590, 47), 0, 53)]), 383, [(2, 0), (3, 0)]),
  (55, ([(0, ((2, 0, 0, 12), (0, 0, 0), (0, 0), [])), (1, ((0, 53, 53, 0), (0, 0, 0), (0, 0), []))], [], [((2, 590, 47), 0, 54)]), 380, [(2, 0), (3, 0)]),
  (55, ([(0, ((2, 0, 0, 12), (0, 0, 0), (0, 0), [])), (1, ((0, 54, 54, 0), (0, 0, 0), (0, 0), []))], [], [((2, 590, 47), 0, 55)]), 377, [(2, 0), (3, 0)])]
def tq_X12_laySettled_9 : List aL := [(55, ([(0, ((2, 0, 0, 12), (0, 0, 0), (0, 0), [])), (1, ((0, 55, 55, 0), (0, 0, 0), (0, 0), []))], [], [((2, 590, 47), 0, 56)]), 374, [(2, 0), (3, 0)]),
  (55, ([(0, ((2, 0, 0, 12), (0, 0, 0), (0, 0), [])), (1, ((0, 56, 56, 0), (0, 0, 0), (0, 0), []))], [], [((2, 590, 47), 0, 57)]), 371, [(2, 0), (3, 0)]),
  (55, ([(0, ((2, 0, 0, 12), (0, 0, 0), (0, 0), [])), (1, ((0, 57, 57, 0), (0, 0, 0), (0, 0), []))], [], [((2, 590, 47), 0, 58)]), 368, [(2, 0), (3, 0)]),
  (55, ([(0, ((2, 0, 0, 12), (0, 0, 0), (0, 0), [])), (1, ((0, 58, 58, 0), (0, 0, 0), (0, 0), []))], [], [((2, 590, 47), 0, 59)]), 365, [(2, 0), (3, 0)]),
  (55, ([(0, ((2, 0, 0, 12), (0, 0, 0), (0, 0), [])), (1, ((0, 59, 59, 0), (0, 0, 0), (0, 0), []))], [], [((2, 590, 47), 0, 60)]), 362, [(2, 0), (3, 0)]),
  (55, ([(0, ((2, 0, 0, 12), (0, 0, 0), (0, 0), [])), (1, ((0, 6, 6, 0), (0, 0, 0), (0, 0), []))], [], [((2, 590, 47), 0, 7)]), 521, [(2, 0), (3, 0)]),
  (55, ([(0, ((2, 0, 0, 12), (0, 0, 0), (0, 0), [])), (1, ((0, 7, 7, 0), (0, 0, 0), (0, 0), []))], [], [((2, 590, 47), 0, 8)]), 518, [(2, 0), (3, 0)]),
  (55, ([(0, ((2, 0, 0, 12), (0, 0, 0), (0, 0), [])), (1, ((0, 8, 8, 0), (0, 0, 0), (0, 0), []))], [], [((2, 590, 47), 0, 9)]), 515, [(2, 0), (3, 0)]),
  (55, ([(0, ((2, 0, 0, 12), (0, 0, 0), (0, 0), [])), (1, ((0, 9, 9, 0), (0, 0, 0), (0, 0), []))], [], [((2, 590, 47), 0, 10)]), 512, [(2, 0), (3, 0)]),
  (61, ([(0, ((2, 0, 0, 12), (0, 0, 0), (0, 0), [])), (1, ((0, 0, 60, 1), (0, 0, 0), (0, 0), []))], [], [((2, 590, 47), 0, 60)]), 360, [(2, 0), (3, 0)]),
  (75, ([(0, ((2, 0, 0, 12), (0, 0, 0), (0, 0), [])), (1, ((0, 0, 60, 1), (0, 0, 0), (0, 0), []))], [], [((2, 590, 47), 1, 5)]), 359, [(2, 0), (3, 0)]),
  (79, ([(0, ((2, 0, 0, 12), (0, 0, 0), (0, 0), [])), (1, ((0, -2147483648, 2147483647, 1), (0, 0, 0), (0, 0), [])), (2, ((0, 0, 12, 1), (0, 0, 0), (0, 0), []))], [], [((2, 590, 47), 1, 5)]), 357, [(2, -2), (3, 0)])]
def tq_X12_laySettled : List aL := tq_X12_laySettled_0 ++ (tq_X12_laySettled_1 ++ (tq_X12_laySettled_2 ++ (tq_X12_laySettled_3 ++ (tq_X12_laySettled_4 ++ (tq_X12_laySettled_5 ++ (tq_X12_laySettled_6 ++ (tq_X12_laySettled_7 ++ (tq_X12_laySettled_8 ++ (tq_X12_laySettled_9)))))))))
def aq_X12_laySettled : List aL := [(185, ([(0, ((2, 0, 0, 12), (0, 0, 0), (0, 0), [])), (1, ((0, -2147483648, 2147483647, 1), (0, 0, 0), (0, 0), [])), (2, ((0, 0, 0, 0), (0, 0, 0), (0, 0), []))], [], [((2, 618, 0), -1, -1), ((2, 590, 47), 1, 5)]), 0, [(2, 0), (3, 0)])]
def bq_X12_laySettled : List aB := [(0, vb_X12_laySettled_0, some 11), (11, vb_X12_laySettled_11, some 35), (35, vb_X12_laySettled_35, some 55), (55, vb_X12_laySettled_55, some 61), (61, vb_X12_laySettled_61, some 75), (75, vb_X12_laySettled_75, some 79), (79, vb_X12_laySettled_79, some 103), (103, vb_X12_laySettled_103, some 105), (105, vb_X12_laySettled_105, some 115), (115, vb_X12_laySettled_115, some 157), (157, vb_X12_laySettled_157, some 158), (158, vb_X12_laySettled_158, some 165), (165, vb_X12_laySettled_165, some 171), (171, vb_X12_laySettled_171, some 185)]
def zq_X12_laySettled : List (Nat × aC) := [(1, cc_X12_layReads), (67, (cc_X12_isIn (1) (1) 0 (5) (5) 0)), (92, cc_X12_offOf), (133, cc_X12_isBill), (147, cc_X12_isNear)]
theorem tk_X12_laySettled_0 : tq_X12_laySettled_0.all (lchkA (some (0, 0, 0, 0)) (tq_X12_laySettled ++ aq_X12_laySettled) bq_X12_laySettled zq_X12_laySettled cq_X12_laySettled) = true := by decide +kernel
theorem tk_X12_laySettled_1 : tq_X12_laySettled_1.all (lchkA (some (0, 0, 0, 0)) (tq_X12_laySettled ++ aq_X12_laySettled) bq_X12_laySettled zq_X12_laySettled cq_X12_laySettled) = true := by decide +kernel
theorem tk_X12_laySettled_2 : tq_X12_laySettled_2.all (lchkA (some (0, 0, 0, 0)) (tq_X12_laySettled ++ aq_X12_laySettled) bq_X12_laySettled zq_X12_laySettled cq_X12_laySettled) = true := by decide +kernel
theorem tk_X12_laySettled_3 : tq_X12_laySettled_3.all (lchkA (some (0, 0, 0, 0)) (tq_X12_laySettled ++ aq_X12_laySettled) bq_X12_laySettled zq_X12_laySettled cq_X12_laySettled) = true := by decide +kernel
theorem tk_X12_laySettled_4 : tq_X12_laySettled_4.all (lchkA (some (0, 0, 0, 0)) (tq_X12_laySettled ++ aq_X12_laySettled) bq_X12_laySettled zq_X12_laySettled cq_X12_laySettled) = true := by decide +kernel
theorem tk_X12_laySettled_5 : tq_X12_laySettled_5.all (lchkA (some (0, 0, 0, 0)) (tq_X12_laySettled ++ aq_X12_laySettled) bq_X12_laySettled zq_X12_laySettled cq_X12_laySettled) = true := by decide +kernel
theorem tk_X12_laySettled_6 : tq_X12_laySettled_6.all (lchkA (some (0, 0, 0, 0)) (tq_X12_laySettled ++ aq_X12_laySettled) bq_X12_laySettled zq_X12_laySettled cq_X12_laySettled) = true := by decide +kernel
theorem tk_X12_laySettled_7 : tq_X12_laySettled_7.all (lchkA (some (0, 0, 0, 0)) (tq_X12_laySettled ++ aq_X12_laySettled) bq_X12_laySettled zq_X12_laySettled cq_X12_laySettled) = true := by decide +kernel
theorem tk_X12_laySettled_8 : tq_X12_laySettled_8.all (lchkA (some (0, 0, 0, 0)) (tq_X12_laySettled ++ aq_X12_laySettled) bq_X12_laySettled zq_X12_laySettled cq_X12_laySettled) = true := by decide +kernel
theorem tk_X12_laySettled_9 : tq_X12_laySettled_9.all (lchkA (some (0, 0, 0, 0)) (tq_X12_laySettled ++ aq_X12_laySettled) bq_X12_laySettled zq_X12_laySettled cq_X12_laySettled) = true := by decide +kernel
theorem kq_X12_laySettled : amchkA (some (0, 0, 0, 0)) tq_X12_laySettled aq_X12_laySettled bq_X12_laySettled zq_X12_laySettled cq_X12_laySettled = true := amA_of (all_app tk_X12_laySettled_0 (all_app tk_X12_laySettled_1 (all_app tk_X12_laySettled_2 (all_app tk_X12_laySettled_3 (all_app tk_X12_laySettled_4 (all_app tk_X12_laySettled_5 (all_app tk_X12_laySettled_6 (all_app tk_X12_laySettled_7 (all_app tk_X12_laySettled_8 (tk_X12_laySettled_9)))))))))) (by decide +kernel)
theorem bk_X12_laySettled : blOK kd_X12_laySettled bq_X12_laySettled := ⟨ve_X12_laySettled_0, ve_X12_laySettled_11, ve_X12_laySettled_35, ve_X12_laySettled_55, ve_X12_laySettled_61, ve_X12_laySettled_75, ve_X12_laySettled_79, ve_X12_laySettled_103, ve_X12_laySettled_105, ve_X12_laySettled_115, ve_X12_laySettled_157, ve_X12_laySettled_158, ve_X12_laySettled_165, ve_X12_laySettled_171, trivial⟩
theorem zk_X12_laySettled : csOK zq_X12_laySettled := ⟨ct_X12_layReads, (ct_X12_isIn (1) (1) 0 (5) (5) 0), ct_X12_offOf, ct_X12_isBill, ct_X12_isNear, trivial⟩
def cz_X12_laySettled : aC := (261, 8, [(2, 0, 0, 12)], some (0, 0, 1, 1), [], 0, [12, 83, 84, 85, 86, 87, 88, 89, 90, 102, 103, 104, 105], [], [(1, 1, ((2, 590, 47), 1, 5))], [])
theorem mem_sok0 {lv : Nat} {md : List Nat} {g : Nat → Nat → Int} {H0 : PH} {ls1 ls : PL} {S : aS} {st : List pv} {H : PH} (h : sok lv md g H0 ls1 S ls st H) (e : S.2.1 = []) : st = [] := by
  have := h.1.2.1
  rw [e] at this
  cases st with
  | nil => rfl
  | cons a t => exact this.elim
theorem get_int {ls1 ls : PL} {H : PH} {al : List (Nat × aE)} {v : Nat} {lo hi : Int} {s : Nat} {o : aG} {w : Nat × Int} {k : List aK} (h : lok ls1 ls H al) (hm : (v, ((0, lo, hi, s), o, w, k)) ∈ al) : ∃ x, pget ls v = some (0, x) ∧ lo ≤ x ∧ x ≤ hi := by
  obtain ⟨p, g1, g2⟩ := h _ hm
  obtain ⟨x, rfl, h1, h2, _⟩ := arg_int g2.1
  exact ⟨x, g1, h1, h2⟩
theorem get_ref {ls1 ls : PL} {H : PH} {al : List (Nat × aE)} {v t : Nat} {o : aG} {w : Nat × Int} {k : List aK} {a b : Int} (h : lok ls1 ls H al) (hm : (v, ((2, a, b, t), o, w, k)) ∈ al) (c : Nat) (hs : (tsh t).2.2 = c + 1) : pget ls v = some (2, (c : Int)) := by
  obtain ⟨p, g1, g2⟩ := h _ hm
  have := g2.1
  obtain ⟨q1, q2, q3, q4⟩ := this
  have q4 := q4 rfl
  rw [g1]
  obtain ⟨p1, p2⟩ := p
  have q1 : p1 = 2 := q1
  subst q1
  have e : p2 = c := by
    have h1 := tau_all p2.toNat (by omega)
    simp only [Bool.and_eq_true, Bool.or_eq_true] at h1
    have h2 := h1.1.1.2
    have q5 : tau p2.toNat = t := q4.2.2
    rw [q5, hs] at h2
    rcases h2 with h2 | h2
    · have := Nat.eq_of_beq_eq_true h2
      omega
    · have := Nat.eq_of_beq_eq_true h2
      have : 0 ≤ p2 := q4.1
      omega
  rw [e]
theorem ct_X12_laySettled' : CtOK cz_X12_laySettled := by
  intro G us g H as hg hW ha hp
  refine am_okQ (c := cq_X12_laySettled) vm_X12_laySettled bk_X12_laySettled (by decide) kq_X12_laySettled zk_X12_laySettled hg hW ha hp ?_ ?_
  · intro r H2 h1 h2 h3 h4
    obtain ⟨x, rfl, x0, x1⟩ := rok_int h1
    refine ⟨h2, vin (by omega) (by omega), fun _ _ f hf => (by cases hf), h3, fun y hy f hf f1 f2 => ?_, fun f hf => (by cases hf)⟩
    cases hy
    rcases List.mem_cons.mp hf with rfl | hf
    · have f1 : (1 : Int) ≤ x := f1
      omega
    · cases hf
  · intro l hl ls1 ls st H' hs
    rw [List.mem_singleton.mp hl] at hs ⊢
    have est := mem_sok0 hs rfl
    subst est
    obtain ⟨⟨h1, h2, h3⟩, hW', hF'⟩ := hs
    have l0 := get_ref h1 (v := 0) (t := 12) (List.mem_cons_self) 590 (by decide +kernel)
    obtain ⟨off, l1, o0, o1⟩ := get_int h1 (v := 1) (List.mem_cons_of_mem _ List.mem_cons_self)
    obtain ⟨i, l2, i0, i1⟩ := get_int h1 (v := 2) (List.mem_cons_of_mem _ (List.mem_cons_of_mem _ List.mem_cons_self))
    have f1 := h3 _ (List.mem_cons_self) (gv H' 618 0) rfl
    have f2 := h3 _ (List.mem_cons_of_mem _ List.mem_cons_self) (gv H' 590 47) rfl
    have e1 : gv H' 618 0 = H' 618 0 := gv_none (zrt_row (c := 618) (by decide) (by decide +kernel))
    have e2 : gv H' 590 47 = H' 590 47 := rfl
    rw [e1] at f1
    rw [e2] at f2
    have f1 : (-1 : Int) ≤ H' 618 0 ∧ H' 618 0 ≤ -1 := f1
    have f2 : (1 : Int) ≤ H' 590 47 ∧ H' 590 47 ≤ 5 := f2
    have ei : i = 0 := by omega
    subst ei
    have hK : tok (H' 618) 0 := ⟨fun j j0 j1 => by omega, fun _ => by omega⟩
    have hT := lay_185 (G := G) (us := us) hg H ((ms (H' 618) 0).toNat + 1) ls off 0 H' (by omega) l0 l1 l2 hW' hF' f2.1 f2.2 (by omega) (by omega) hK o0 o1
    refine Tr_mono (by decide) (fun r H2 q => ?_) hT
    obtain ⟨q1, q2, rfl, q4, q5⟩ := q
    refine ⟨q1, vin (by omega) (by omega), fun _ _ f hf => (by cases hf), q2, fun y hy f hf f1 f2 => ?_, fun f hf => (by cases hf)⟩
    rcases List.mem_cons.mp hf with rfl | hf
    · intro z hz
      have hz : gv H2 590 47 = z := hz
      have e3 : gv H2 590 47 = H2 590 47 := rfl
      rw [e3] at hz
      show (1 : Int) ≤ z ∧ z ≤ 5
      omega
    · cases hf
