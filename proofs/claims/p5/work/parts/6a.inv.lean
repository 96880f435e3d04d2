/-! ===== what holds between calls, beside the types ===== -/
noncomputable def gH (H : PH) : Nat → Nat → Int := fun c i => gv H c i
theorem fz_two (t i : Nat) : fz 2 t i = false := rfl
theorem WT_self {lv : Nat} {g : Nat → Nat → Int} {H : PH} (h : WT lv g H) : WT 0 (gH H) H := fun c i h1 h2 => ⟨(h c i h1 h2).1, fun _ => rfl⟩
theorem WT_two {lv : Nat} {g g' : Nat → Nat → Int} {H : PH} (h : WT lv g H) : WT 2 g' H := fun c i h1 h2 => ⟨(h c i h1 h2).1, fun q => by rw [fz_two] at q; cases q⟩
theorem gv_592 {H : PH} (i : Int) : gv H 592 i = H 592 i := gv_none (zrt_row (c := 592) (by decide) (by decide +kernel))
/-- a row like the model's: its types and its law -/
def ROK (t : Int → Int) : Prop := (∀ k, 0 ≤ k → k < 1124 → aval (allT k.toNat) ((allT k.toNat).1, t k)) ∧ lwf (fun k : Nat => t k)
def IM (H : PH) : Prop := lwf (fun k : Nat => H 591 k) ∧ ∀ d, 0 ≤ d → d < H 590 2 → ROK (fun k => H 592 (1124 * d + k))
theorem ROK_congr {t t' : Int → Int} (h : ∀ k, 0 ≤ k → k < 1124 → t' k = t k) (ht : ROK t) : ROK t' :=
  ⟨fun k k0 kk1 => by rw [h k k0 kk1]; exact ht.1 k k0 kk1, lwf_congr (f := fun k : Nat => t k) (fun k a b => h k (by omega) (by omega)) ht.2⟩
theorem ROK_H {lv : Nat} {g : Nat → Nat → Int} {H : PH} (hW : WT lv g H) (hM : IM H) : ROK (H 591) := ⟨fun k k0 kk1 => (WT_row hW k0 kk1).1, hM.1⟩
theorem GOK_gH {H : PH} (h : IM H) : GOK (gH H) := lwf_congr (f := fun k : Nat => H 591 k) (fun k _ _ => gv_591 (k : Int)) h.1
theorem WT_wr {g : Nat → Nat → Int} {H : PH} {k v : Int} (hW : WT 2 g H) (k0 : 0 ≤ k) (kk1 : k < 1124) (hv : aval (allT k.toNat) ((allT k.toNat).1, v)) : WT 2 g (pup H 591 k v) := by
  have e : ((k.toNat : Nat) : Int) = k := by omega
  have := WT_up (c := 591) (i := k.toNat) (v := v) hW (by
    have := zrt_row (c := 591) (i := k.toNat) (by decide) (by decide +kernel)
    exact this) (by rw [show tau 591 = 32 from rfl, fty_32]; exact hv) (by rw [show tau 591 = 32 from rfl]; rfl)
  rw [e] at this
  exact this
def SM (H H' : PH) : Prop := H' 590 2 = H 590 2 ∧ (∀ k, 10 ≤ k → k < 76 → H' 591 k = H 591 k) ∧ (∀ k, 0 ≤ k → k < 22480 → H' 592 k = H 592 k)
theorem IM_same {lv : Nat} {g : Nat → Nat → Int} {H H' : PH} (hW : WT lv g H) (hs : SM H H') (h : IM H) : IM H' := by
  obtain ⟨s1, s2, s3⟩ := hs
  have hd := rf_590_2 hW
  refine ⟨lwf_congr (f := fun k : Nat => H 591 k) (fun k a b => s2 k (by omega) (by omega)) h.1, fun d d0 d1 => ?_⟩
  exact ROK_congr (fun k k0 kk1 => s3 _ (by omega) (by omega)) (h.2 d d0 (by omega))
theorem SM_trans {H H' H'' : PH} (h : SM H H') (h' : SM H' H'') : SM H H'' := ⟨h'.1.trans h.1, fun k a b => (h'.2.1 k a b).trans (h.2.1 k a b), fun k a b => (h'.2.2 k a b).trans (h.2.2 k a b)⟩
theorem SM_frz {H H' : PH} (h : WT 0 (gH H) H') : SM H H' ∧ H' 590 4 = H 590 4 := by
  have f : ∀ c i : Nat, c < 622 → i < (zSh c).2.1 → fz 0 (tau c) i = true → gv H' c i = gv H c i := fun c i a b q => (h c i a b).2 q
  refine ⟨⟨f 590 2 (by decide) (by decide +kernel) (by decide +kernel), fun k a b => ?_, fun k a b => ?_⟩, f 590 4 (by decide) (by decide +kernel) (by decide +kernel)⟩
  · have e : ((k.toNat : Nat) : Int) = k := by omega
    have := f 591 k.toNat (by decide) (by rw [sh_591']; omega) (fz_law (by omega) (by omega) (by omega))
    rw [e] at this
    have e1 : ∀ X : PH, gv X ((591 : Nat) : Int) k = X 591 k := fun X => gv_591 k
    rw [e1, e1] at this
    exact this
  · have e : ((k.toNat : Nat) : Int) = k := by omega
    have := f 592 k.toNat (by decide) (by rw [show (zSh 592).2.1 = 22480 from rfl]; omega) (by rw [show tau 592 = 33 from rfl]; rfl)
    rw [e] at this
    have e1 : ∀ X : PH, gv X ((592 : Nat) : Int) k = X 592 k := fun X => gv_592 k
    rw [e1, e1] at this
    exact this
theorem SM_frm {md : List Nat} {H H' : PH} (h : frm md H H') (h1 : inmd md 12 2 = false) (h2 : inmdT md 32 = false) (h3 : inmdT md 33 = false) (hm : md.all (fun m => Nat.ble m 999 || Nat.beq (m % 1000) 12 || Nat.blt (m % 1000) 32) = true) : SM H H' := by
  have key : ∀ t : Nat, (t = 32 ∨ t = 33) → inmdT md t = false → ∀ y : Int, inmd md t y = false := by
    intro t ht hT y
    unfold inmd
    unfold inmdT at hT
    rw [List.any_eq_false] at hT ⊢
    intro m hmm
    have a := hT m hmm
    have b := List.all_eq_true.mp hm m hmm
    rw [Bool.or_eq_true] at a
    rw [Bool.or_eq_true, Bool.or_eq_true] at b
    intro q
    rw [Bool.or_eq_true, Bool.or_eq_true] at q
    rcases q with (q | q) | q
    · exact a (Or.inl q)
    · exact a (Or.inr q)
    · rw [Bool.and_eq_true, Bool.and_eq_true] at q
      have q1 := Nat.le_of_ble_eq_true q.1.1
      have q2 := Nat.eq_of_beq_eq_true q.1.2
      rcases b with (b | b) | b
      · have := Nat.le_of_ble_eq_true b
        omega
      · have := Nat.eq_of_beq_eq_true b
        omega
      · have := Nat.blt_eq.mp b
        omega
  refine ⟨h 590 2 (by decide) h1, fun k _ _ => ?_, fun k _ _ => ?_⟩
  · have := h 591 k (by decide) (key 32 (Or.inl rfl) h2 k)
    have e1 : ∀ X : PH, gv X ((591 : Nat) : Int) k = X 591 k := fun X => gv_591 k
    rw [e1, e1] at this
    exact this
  · have := h 592 k (by decide) (key 33 (Or.inr rfl) h3 k)
    have e1 : ∀ X : PH, gv X ((592 : Nat) : Int) k = X 592 k := fun X => gv_592 k
    rw [e1, e1] at this
    exact this
theorem w2_590_2 {g : Nat → Nat → Int} {H : PH} {v : Int} (h : WT 2 g H) (h1 : 0 ≤ v) (h2 : v ≤ 20) : WT 2 g (pup H 590 2 v) := WT_wf (c := 590) (i := 2) (lo := 0) (hi := 20) h (by decide +kernel) (by decide +kernel) h1 h2
theorem w2_592 {g : Nat → Nat → Int} {H : PH} {i v : Int} (h : WT 2 g H) (h0 : 0 ≤ i) (h1 : -2147483648 ≤ v) (h2 : v ≤ 2147483647) : WT 2 g (pup H 592 i v) := WT_wa (c := 592) (n := 22480) (lo := -2147483648) (hi := 2147483647) h (by decide +kernel) (by decide +kernel) h0 h1 h2
theorem in_591 {lv : Nat} {g : Nat → Nat → Int} {H : PH} (hW : WT lv g H) {k : Int} (k0 : 0 ≤ k) (kk1 : k < 1124) : -2147483648 ≤ H 591 k ∧ H 591 k ≤ 2147483647 := by
  have h := (WT_row hW k0 kk1).1
  rcases allT_c k.toNat (by omega) with e | ⟨a, e⟩ | ⟨a, e⟩ | ⟨a, e⟩ | ⟨a, e⟩ | ⟨a, b, ⟨d, e⟩ | ⟨d, e⟩ | ⟨d, e⟩ | ⟨d, e⟩⟩ | ⟨a, b, e⟩ <;> rw [e] at h <;> have h1 := (h.2.1 rfl).1 <;> have h2 := (h.2.1 rfl).2.1 <;> simp only [vtop] at h1 h2 <;> omega
