/-! ===== rows alike but for couples' places behind the couples ===== -/
def AT (A B : Int → Int) : Prop := 0 ≤ A 1 ∧ ∀ j, 0 ≤ j → j < 1124 → (j < 76 + 2 * A 1 ∨ 92 ≤ j) → A j = B j
theorem AT_c {A B : Int → Int} (h : AT A B) {j : Int} (q : 0 ≤ j ∧ j < 1124 ∧ (j < 76 ∨ 92 ≤ j)) : A j = B j := h.2 j q.1 q.2.1 (by have := h.1; omega)
theorem AT_refl {A : Int → Int} (h : 0 ≤ A 1) : AT A A := ⟨h, fun _ _ _ _ => rfl⟩
theorem AT_AG {A B : Int → Int} (h : 0 ≤ A 1) (g : AG A B) : AT A B := ⟨h, fun j j0 j1 _ => g j j0 j1⟩
theorem AT_symm {A B : Int → Int} (h : AT A B) : AT B A := by
  have e := AT_c h (j := 1) (by decide)
  exact ⟨by have := h.1; omega, fun j j0 j1 q => (h.2 j j0 j1 (by omega)).symm⟩
theorem AT_trans {A B C : Int → Int} (h : AT A B) (g : AT B C) : AT A C := by
  have e := AT_c h (j := 1) (by decide)
  exact ⟨h.1, fun j j0 j1 q => (h.2 j j0 j1 q).trans (g.2 j j0 j1 (by omega))⟩
theorem AT_EB {A B : Int → Int} (h : AT A B) {b : Int} (hb : 0 ≤ b ∧ b < 12) (s1 : A (92 + 26 * b) ≤ 8) (s2 : A (92 + 26 * b + 13) ≤ 6) : EB A B (92 + 26 * b) := by
  have c : ∀ j : Int, 92 ≤ j ∧ j < 1124 → A j = B j := fun j q => AT_c h (by omega)
  exact ⟨c _ (by omega), fun i i0 i1 => c _ (by omega), c _ (by omega), c _ (by omega), c _ (by omega), c _ (by omega), c _ (by omega), fun i i0 i1 => ⟨c _ (by omega), c _ (by omega)⟩⟩
theorem AT_EL {A B : Int → Int} (h : AT A B) {k : Int} (hk : 0 ≤ k ∧ k < 60) (s1 : A (404 + 12 * k + 3) ≤ 8) : EL A B (404 + 12 * k) := by
  have c : ∀ j : Int, 92 ≤ j ∧ j < 1124 → A j = B j := fun j q => AT_c h (by omega)
  exact ⟨c _ (by omega), c _ (by omega), c _ (by omega), c _ (by omega), fun i i0 i1 => c _ (by omega)⟩
/-- sizes within a row -/
def SZ (A : Int → Int) : Prop := A 0 ≤ 12 ∧ A 1 ≤ 8 ∧ A 2 ≤ 60 ∧ A 11 ≤ 60 ∧ (∀ b, 0 ≤ b → b < A 0 → A (92 + 26 * b) ≤ 8 ∧ A (92 + 26 * b + 13) ≤ 6) ∧ ∀ k, 0 ≤ k → k < A 2 → A (404 + 12 * k + 3) ≤ 8
theorem SZ_of {A : Int → Int} (h : MB A) (h11 : A 11 ≤ 60) : SZ A := ⟨h.1.2, h.2.1.2, h.2.2.1.2, h11, fun b b0 b1 => ⟨(h.2.2.2.1 b b0 (by have := h.1; omega)).2, (h.2.2.2.2.1 b b0 (by have := h.1; omega)).2⟩, fun k k0 k1 => (h.2.2.2.2.2.1 k k0 (by have := h.2.2.1; omega)).2⟩
theorem SZ_REq {A C : Int → Int} (r : REq A C) (h : SZ C) : SZ A := by
  obtain ⟨h0, h1, h2, h3, h4, h5⟩ := h
  obtain ⟨r0, r1, r2, r3, r4⟩ := r
  have e0 := r0 0 (by decide) (by decide)
  have e1 := r0 1 (by decide) (by decide)
  have e2 := r0 2 (by decide) (by decide)
  have e11 := r0 11 (by decide) (by decide)
  refine ⟨by omega, by omega, by omega, by omega, fun b b0 b1 => ?_, fun k k0 k1 => ?_⟩
  · have := h4 b b0 (by omega)
    obtain ⟨x1, _, _, _, _, _, x2, _⟩ := r2 b b0 b1
    omega
  · have := h5 k k0 (by omega)
    obtain ⟨_, _, _, x1, _⟩ := r3 k k0 k1
    omega
theorem AT_REq {A B : Int → Int} (h : AT A B) (s : SZ A) : REq A B := by
  obtain ⟨s0, s1, s2, s3, s4, s5⟩ := s
  have := h.1
  exact ⟨fun i i0 i1 => AT_c h (by omega), fun i i0 i1 => ⟨h.2 _ (by omega) (by omega) (by omega), h.2 _ (by omega) (by omega) (by omega)⟩, fun b b0 b1 => AT_EB h ⟨b0, by omega⟩ (s4 b b0 b1).1 (s4 b b0 b1).2, fun k k0 k1 => AT_EL h ⟨k0, by omega⟩ (s5 k k0 k1), fun k k0 k1 => AT_c h (by omega)⟩
theorem nrF_eq {f f' : Int → Int} : ∀ (n : Nat) (b : Int) (s : nS), (∀ x, b ≤ x → x < b + n → f x = f' x) → nrF f n b s = nrF f' n b s
  | 0, _, _, _ => rfl
  | n + 1, b, s, h => by
    unfold nrF
    have e : nrS f b s = nrS f' b s := by
      unfold nrS
      rw [h b (by omega) (by omega)]
    rw [e]
    exact nrF_eq n (b + 1) _ (fun x x0 x1 => h x (by omega) (by omega))
theorem smR_eq {A B : Int → Int} {s s' : Int} : ∀ (n : Nat) (i : Int), (∀ j, i ≤ j → j < i + n → A (s + j) = B (s + j) ∧ A (s' + j) = B (s' + j)) → smR A s s' n i = smR B s s' n i
  | 0, _, _ => rfl
  | n + 1, i, h => by
    unfold smR
    rw [(h i (by omega) (by omega)).1, (h i (by omega) (by omega)).2, smR_eq n (i + 1) (fun j q1 q2 => h j (by omega) (by omega))]
theorem agF_eqN {w w' : Nat → Int} {a b c : Int} : ∀ (n k : Nat) (s : pS), (∀ j, k ≤ j → j < k + n → w j = w' j) → agF w a b c n k s = agF w' a b c n k s
  | 0, _, _, _ => rfl
  | n + 1, k, s, h => by
    unfold agF
    rw [h k (by omega) (by omega)]
    exact agF_eqN n (k + 1) _ (fun j q1 q2 => h j (by omega) (by omega))
theorem AT_ag {A B : Int → Int} (h : AT A B) (h11 : A 11 ≤ 60) (a b c : Int) : agA A a b c = agA B a b c := by
  unfold agA agV
  rw [← AT_c h (j := 10) (by decide), ← AT_c h (j := 11) (by decide)]
  rw [agF_eqN (w := fun k => A (12 + k)) (w' := fun k => B (12 + k)) (A 11).toNat 0 _ (fun j j0 j1 => AT_c h (by omega))]
theorem AT_SZ {A : Int → Int} (ok : OKR A) : SZ A := SZ_of ok.1 (OKR_11 ok).2
theorem AT_ap {A B : Int → Int} (h : AT A B) (ok : OKR A) {l s b : Int} (hl : 92 ≤ l ∧ l < 1124) (hs : 92 ≤ s ∧ s + A l ≤ 1124) (hb : 0 ≤ b ∧ b < 12) : apB A l s b = apB B l s b :=
  apB_EQ (chA_EQ (AT_REq h (AT_SZ ok))) (ok.1.2.2.2.1 b hb.1 hb.2).1 (AT_EB h hb (ok.1.2.2.2.1 b hb.1 hb.2).2 (ok.1.2.2.2.2.1 b hb.1 hb.2).2) (AT_c h (by omega)) (fun i i0 i1 => AT_c h (by omega))
theorem AT_rd {A B : Int → Int} (h : AT A B) (ok : OKR A) {k : Int} (hk : 0 ≤ k ∧ k < 60) : rdL A k = rdL B k := by
  have a0 := ok.1.1
  have k8 := (ok.1.2.2.2.2.2.1 k hk.1 hk.2).2
  have e : nrZ A (404 + 12 * k + 3) (404 + 12 * k + 4) = nrZ B (404 + 12 * k + 3) (404 + 12 * k + 4) := by
    unfold nrZ
    rw [← AT_c h (j := 0) (by decide)]
    exact nrF_eq _ _ _ (fun x x0 x1 => AT_ap h ok (by omega) (by omega) (by omega))
  unfold rdL rdA
  rw [e, ← AT_c h (j := 3) (by decide)]
theorem AT_smL {A B : Int → Int} (h : AT A B) (ok : OKR A) {k k' : Int} (hk : 0 ≤ k ∧ k < 60) (hk' : 0 ≤ k' ∧ k' < 60) : smL A k k' = smL B k k' := by
  have k8 := (ok.1.2.2.2.2.2.1 k hk.1 hk.2).2
  unfold smL
  rw [smR_eq (A := A) (B := B) _ _ (fun j j0 j1 => ⟨AT_c h (by omega), AT_c h (by omega)⟩), AT_c h (j := 404 + 12 * k + 3) (by omega), AT_c h (j := 404 + 12 * k' + 3) (by omega)]
theorem AT_hpI {A B : Int → Int} (h : AT A B) (ok : OKR A) {k : Int} {t : tS} (hk : 0 ≤ k ∧ k < 60) (ht : ∀ x, 0 ≤ x → x < t.1 → 0 ≤ t.2.1 x ∧ t.2.1 x < 60) : hpI A k t = hpI B k t := by
  unfold hpI
  exact fdR_eq _ _ _ (fun x x0 x1 => AT_smL h ok hk (ht x x0 (by omega)))
theorem AT_tlS {A B : Int → Int} (h : AT A B) (ok : OKR A) {k : Int} {t : tS} (hk : 0 ≤ k ∧ k < 60) (ht : ∀ x, 0 ≤ x → x < t.1 → 0 ≤ t.2.1 x ∧ t.2.1 x < 60) : tlS A k t = tlS B k t := by
  unfold tlS tlH tlI
  rw [AT_hpI h ok hk ht, AT_rd h ok hk, AT_c h (j := 404 + 12 * k) (by omega), AT_c h (j := 404 + 12 * k + 2) (by omega)]
theorem AT_tlF {A B : Int → Int} (h : AT A B) (ok : OKR A) : ∀ (n : Nat) (k : Int) (t : tS), 0 ≤ k → k + n ≤ 60 → (0 ≤ t.1 ∧ t.1 ≤ k) → (∀ x, 0 ≤ x → x < t.1 → 0 ≤ t.2.1 x ∧ t.2.1 x < 60) → tlF A n k t = tlF B n k t
  | 0, _, _, _, _, _, _ => rfl
  | n + 1, k, t, h0, h1, ht, hf => by
    unfold tlF
    obtain ⟨i1, i2⟩ := tlS_in (A := A) (k := k) ⟨h0, by omega⟩ ht hf
    rw [← AT_tlS h ok ⟨h0, by omega⟩ hf]
    exact AT_tlF h ok n (k + 1) _ (by omega) (by omega) i1 i2
theorem AT_tlZ {A B : Int → Int} (h : AT A B) (ok : OKR A) : tlZ A = tlZ B := by
  have a2 := ok.1.2.2.1
  unfold tlZ
  rw [← AT_c h (j := 2) (by decide)]
  exact AT_tlF h ok _ _ _ (by decide) (by omega) ⟨by decide, by decide⟩ (fun x x0 x1 => absurd x1 (by simp only; omega))
theorem AT_due {A B : Int → Int} (h : AT A B) (ok : OKR A) {b : Int} (hb : 0 ≤ b ∧ b < 12) : dueA A b = dueA B b := by
  have b6 := (ok.1.2.2.2.2.1 b hb.1 hb.2).2
  unfold dueA
  rw [duF_eq (kd' := fun i => B (92 + 26 * b + 14 + 2 * i)) (am' := fun i => B (92 + 26 * b + 14 + 2 * i + 1)) _ 0 _ (fun x x0 _ => ⟨AT_c h (j := 92 + 26 * b + 14 + 2 * x) (by omega), AT_c h (j := 92 + 26 * b + 14 + 2 * x + 1) (by omega)⟩)]
  rw [AT_c h (j := 92 + 26 * b + 13) (by omega), AT_c h (j := 92 + 26 * b + 9) (by omega)]
theorem AT_agd {A B : Int → Int} (h : AT A B) (ok : OKR A) {s : Int} (s0 : 0 ≤ s) : agdA A s = agdA B s := by
  have a0 := ok.1.1
  unfold agdA
  rw [AT_tlZ h ok, AT_ag h (OKR_11 ok).2, ← AT_c h (j := 0) (by decide)]
  split
  · rw [AT_c h (j := 92 + 26 * s + 9) (by omega)]
  · rfl
theorem AT_off {A B : Int → Int} (h : AT A B) (ok : OKR A) {s : Int} (s0 : 0 ≤ s) : offA A s = offA B s := by
  have a0 := ok.1.1
  unfold offA
  rw [AT_tlZ h ok, AT_agd h ok s0, ← AT_c h (j := 0) (by decide)]
  split
  · split
    · rw [AT_due h ok ⟨s0, by omega⟩]
    · rfl
  · rfl
theorem AT_wnt {A B : Int → Int} (h : AT A B) (ok : OKR A) {s : Int} (s0 : 0 ≤ s) : wntA A s = wntA B s := by
  have a0 := ok.1.1
  unfold wntA
  rw [AT_agd h ok s0, ← AT_c h (j := 0) (by decide)]
  split
  · rw [AT_due h ok ⟨s0, by omega⟩]
  · rfl
theorem AT_apf {A B : Int → Int} (h : AT A B) (ok : OKR A) {s b : Int} (s0 : 0 ≤ s) (s1 : s < 12 + (tlZ A).1) (hb : 0 ≤ b ∧ b < 12) : apfA A s b = apfA B s b := by
  have a2 := ok.1.2.2.1
  have t : ∀ x, 0 ≤ x → x < (tlZ A).1 → 0 ≤ (tlZ A).2.1 x ∧ (tlZ A).2.1 x < 60 := tlF_in A _ _ _ (by decide) (by omega) ⟨by decide, by decide⟩ (fun x x0 x1 => absurd x1 (by simp only; omega))
  unfold apfA bapA lapA
  rw [← AT_tlZ h ok]
  split
  · have := (ok.1.2.2.2.1 s s0 (by omega)).2
    exact AT_ap h ok (by omega) (by omega) hb
  · have q := t (s - 12) (by omega) (by omega)
    have := (ok.1.2.2.2.2.2.1 _ q.1 q.2).2
    exact AT_ap h ok (by omega) (by omega) hb
theorem tlF_nn {A : Int → Int} : ∀ (n : Nat) (k : Int) (t : tS), 0 ≤ t.1 → 0 ≤ (tlF A n k t).1
  | 0, _, _, q => q
  | n + 1, k, t, q => by
    unfold tlF
    refine tlF_nn n (k + 1) _ ?_
    unfold tlS tlH
    simp only
    split
    · simp only
      omega
    · exact q
theorem tlZ_nn {A : Int → Int} : 0 ≤ (tlZ A).1 := tlF_nn _ _ _ (by decide)
theorem AT_far {A B : Int → Int} (h : AT A B) (ok : OKR A) {s b : Int} (s0 : 0 ≤ s) (hb : 0 ≤ b ∧ b < 12) : farA A s b = farA B s b := by
  unfold farA
  rw [← AT_off h ok s0, ← AT_wnt h ok hb.1]
  split
  · rename_i q
    refine AT_apf h ok s0 ?_ hb
    have q := q.1
    unfold offA at q
    split at q
    · have := tlZ_nn (A := A)
      omega
    · split at q
      · omega
      · omega
  · rfl
theorem AT_fK {A B : Int → Int} (h : AT A B) (ok : OKR A) {k : Int} (k0 : 0 ≤ k) : farK A k = farK B k := AT_far h ok (by omega) (by omega)
def MTe (s t : mS) : Prop := (∀ x, 0 ≤ x → s.1 x = t.1 x) ∧ (∀ x, 0 ≤ x → s.2.1 x = t.2.1 x) ∧ s.2.2 = t.2.2
theorem xup_e {f g : Int → Int} {i u v : Int} (h : ∀ x, 0 ≤ x → f x = g x) (e : u = v) : ∀ x, 0 ≤ x → xup f i u x = xup g i v x := fun x x0 => by
  unfold xup
  rw [h x x0, e]
theorem AT_mtS {A B : Int → Int} (h : AT A B) (ok : OKR A) {d k : Int} {s t : mS} (k0 : 0 ≤ k) (e : MTe s t) : MTe (mtS A d k s) (mtS B d k t) := by
  obtain ⟨e1, e2, e3⟩ := e
  have c1 := e1 (k / 12) (by omega)
  have c2 := e2 (k % 12) (by omega)
  unfold mtS
  rw [← AT_fK h ok k0, ← c1, ← c2, ← e3]
  split
  · exact ⟨xup_e e1 rfl, xup_e e2 rfl, rfl⟩
  · exact ⟨e1, e2, e3⟩
theorem AT_mtF {A B : Int → Int} (h : AT A B) (ok : OKR A) {d : Int} : ∀ (n : Nat) (k : Int) (s t : mS), 0 ≤ k → MTe s t → MTe (mtF A d n k s) (mtF B d n k t)
  | 0, _, _, _, _, e => e
  | n + 1, k, s, t, k0, e => AT_mtF h ok n (k + 1) _ _ (by omega) (AT_mtS h ok k0 e)
theorem AT_mtG {A B : Int → Int} (h : AT A B) (ok : OKR A) : ∀ (n : Nat) (d : Int) (s t : mS), MTe s t → MTe (mtG A n d s) (mtG B n d t)
  | 0, _, _, _, e => e
  | n + 1, d, s, t, e => AT_mtG h ok n (d + 1) _ _ (AT_mtF h ok _ _ _ _ (by decide) e)
theorem AT_mtZ {A B : Int → Int} (h : AT A B) (ok : OKR A) : MTe (mtZ A) (mtZ B) := by
  unfold mtZ
  rw [← AT_c h (j := 4) (by decide)]
  exact AT_mtG h ok _ _ _ _ ⟨fun x x0 => AT_off h ok x0, fun x x0 => AT_wnt h ok x0, rfl⟩
theorem AT_TCf {A B : Int → Int} (h : AT A B) (ok : OKR A) {H : PH} (t : TCf A H) : TCf B H := by
  obtain ⟨t1, t2, t3, t4⟩ := t
  unfold TCf
  rw [← AT_tlZ h ok, ← AT_c h (j := 2) (by decide)]
  have a2 := ok.1.2.2.1
  exact ⟨t1, t2, fun x x0 x1 => by rw [← AT_rd h ok ⟨x0, by omega⟩]; exact t3 x x0 x1, fun x x0 x1 => by rw [← AT_agd h ok x0]; exact t4 x x0 x1⟩
theorem AT_MCf {A B : Int → Int} (h : AT A B) (ok : OKR A) {H : PH} (t : MCf A H) : MCf B H := by
  obtain ⟨t1, t2, t3, t4⟩ := t
  obtain ⟨e1, e2, e3⟩ := AT_mtZ h ok
  unfold MCf XM at *
  rw [← AT_tlZ h ok, ← e3]
  refine ⟨t1, fun x x0 x1 => ?_, fun x x0 x1 => by rw [← AT_wnt h ok x0]; exact t3 x x0 x1, fun x x0 x1 => by rw [← e1 x x0]; exact t4.1 x x0 x1, fun x x0 x1 => by rw [← e2 x x0]; exact t4.2.1 x x0 x1, t4.2.2⟩
  obtain ⟨q1, q2⟩ := t2 x x0 x1
  refine ⟨by rw [← AT_off h ok x0]; exact q1, fun y y0 y1 y2 y3 => ?_⟩
  rw [← AT_apf h ok x0 x1 ⟨y0, y1⟩]
  exact q2 y y0 y1 (by rw [AT_off h ok x0]; exact y2) (by rw [AT_wnt h ok y0]; exact y3)
theorem AT_MCC {A B : Int → Int} (h : AT A B) (ok : OKR A) {H : PH} (t : MCC A H) : MCC B H := ⟨fun q => AT_TCf h ok (t.1 q), fun q => ⟨(t.2 q).1, AT_MCf h ok (t.2 q).2⟩⟩

theorem REq_trans {A B C : Int → Int} (h : REq A B) (g : REq B C) : REq A C := by
  obtain ⟨h0, h1, h2, h3, h4⟩ := h
  obtain ⟨g0, g1, g2, g3, g4⟩ := g
  have e0 := h0 0 (by decide) (by decide)
  have e1 := h0 1 (by decide) (by decide)
  have e2 := h0 2 (by decide) (by decide)
  have e11 := h0 11 (by decide) (by decide)
  refine ⟨fun i i0 i1 => (h0 i i0 i1).trans (g0 i i0 i1), fun i i0 i1 => ⟨(h1 i i0 i1).1.trans (g1 i i0 (by omega)).1, (h1 i i0 i1).2.trans (g1 i i0 (by omega)).2⟩, fun b b0 b1 => ?_, fun k k0 k1 => ?_, fun k k0 k1 => (h4 k k0 k1).trans (g4 k k0 (by omega))⟩
  · obtain ⟨x0, x1, x2, x3, x4, x5, x6, x7⟩ := h2 b b0 b1
    obtain ⟨y0, y1, y2, y3, y4, y5, y6, y7⟩ := g2 b b0 (by omega)
    exact ⟨x0.trans y0, fun i i0 i1 => (x1 i i0 i1).trans (y1 i i0 (by omega)), x2.trans y2, x3.trans y3, x4.trans y4, x5.trans y5, x6.trans y6, fun i i0 i1 => ⟨(x7 i i0 i1).1.trans (y7 i i0 (by omega)).1, (x7 i i0 i1).2.trans (y7 i i0 (by omega)).2⟩⟩
  · obtain ⟨x0, x1, x2, x3, x4⟩ := h3 k k0 k1
    obtain ⟨y0, y1, y2, y3, y4⟩ := g3 k k0 (by omega)
    exact ⟨x0.trans y0, x1.trans y1, x2.trans y2, x3.trans y3, fun i i0 i1 => (x4 i i0 i1).trans (y4 i i0 (by omega))⟩
theorem MB_AT {A B : Int → Int} (h : MB A) (g : AT A B) (hz : ∀ i, 0 ≤ i → i < 1124 → zIn (B i)) : MB B := by
  obtain ⟨a0, a1, a2, a3, a4, a5, a6⟩ := h
  have c : ∀ j : Int, 0 ≤ j ∧ j < 1124 ∧ (j < 76 ∨ 92 ≤ j) → B j = A j := fun j q => (AT_c g q).symm
  exact ⟨by rw [c 0 (by decide)]; exact a0, by rw [c 1 (by decide)]; exact a1, by rw [c 2 (by decide)]; exact a2, fun b b0 b1 => by rw [c _ (by omega)]; exact a3 b b0 b1, fun b b0 b1 => by rw [c _ (by omega)]; exact a4 b b0 b1, fun k k0 k1 => by rw [c _ (by omega)]; exact a5 k k0 k1, hz⟩
theorem OKR_AT {A B : Int → Int} (h : OKR A) (g : AT A B) (hz : ∀ i, 0 ≤ i → i < 1124 → zIn (B i)) : OKR B := by
  obtain ⟨h1, h2, h3, h4⟩ := h
  have c : ∀ j : Int, 0 ≤ j ∧ j < 1124 ∧ (j < 76 ∨ 92 ≤ j) → A j = B j := fun j q => AT_c g q
  refine ⟨MB_AT h1 g hz, ?_, ?_, ?_⟩
  · obtain ⟨w1, w2⟩ := h2
    unfold ML
    rw [← c 10 (by decide), ← c 11 (by decide)]
    exact ⟨WFL_eq w1 (fun k hk => c _ (by have := w1.2.1; omega)), w2⟩
  · unfold OKS at h3 ⊢
    rw [← c 3 (by decide), ← c 4 (by decide), ← c 5 (by decide), ← c 6 (by decide), ← c 7 (by decide), ← c 8 (by decide)]
    exact h3
  · have a0 := h1.1
    have a2 := h1.2.2.1
    refine ⟨fun b b0 b1 => ?_, fun k k0 k1 => ?_⟩
    · rw [← c 0 (by decide)] at b1
      have b6 := (h1.2.2.2.2.1 b b0 (by omega)).2
      obtain ⟨x1, x2, x3, x4⟩ := h4.1 b b0 b1
      rw [← c (92 + 26 * b + 9) (by omega), ← c (92 + 26 * b + 10) (by omega), ← c (92 + 26 * b + 11) (by omega), ← c (92 + 26 * b + 13) (by omega)]
      refine ⟨x1, x2, x3, fun i i0 i1 => ?_⟩
      rw [← c (92 + 26 * b + 14 + 2 * i) (by omega), ← c (92 + 26 * b + 14 + 2 * i + 1) (by omega)]
      exact x4 i i0 i1
    · rw [← c 2 (by decide)] at k1
      obtain ⟨x1, x2, x3⟩ := h4.2 k k0 k1
      rw [← c (404 + 12 * k) (by omega), ← c (404 + 12 * k + 1) (by omega), ← c (404 + 12 * k + 2) (by omega)]
      exact ⟨x1, x2, x3⟩
theorem AT_xup {A B : Int → Int} {i v u : Int} (h : AT A B) (q : ¬ i = 1) (e : v = u) : AT (xup A i v) (xup B i u) := by
  have e1 : xup A i v 1 = A 1 := if_neg (fun w => q w.symm)
  refine ⟨by rw [e1]; exact h.1, fun j j0 j1 w => ?_⟩
  rw [e1] at w
  unfold xup
  rw [h.2 j j0 j1 w, e]
theorem DD_AT {H : PH} {l : Int} {B B2 C : Int → Int} (hB : B 0 ≤ 12 ∧ B 2 ≤ 60) (hC : SZ C) (g : AT B B2) (h : DD H l B C) : DD H l B2 C := by
  have c : ∀ j : Int, 0 ≤ j ∧ j < 1124 ∧ (j < 76 ∨ 92 ≤ j) → B j = B2 j := fun j q => AT_c g q
  have e0 := c 0 (by decide)
  have e1 := c 1 (by decide)
  have e2 := c 2 (by decide)
  have e9 := c 9 (by decide)
  have g0 := g.1
  have tr : ∀ {X Y : Int → Int}, AT X Y → REq X C → REq Y C := fun p q => REq_trans (REq_symm (AT_REq p (SZ_REq q hC))) q
  have n1 : ∀ b x : Int, 0 ≤ b → 0 ≤ x → ¬ 92 + 26 * b + x = 1 := fun b x _ _ => by omega
  rcases h with ⟨k, r, x1, x2, x3⟩ | ⟨k, r, x⟩ | ⟨k, x1, x2, r⟩ | ⟨k, x1, r⟩ | ⟨k, r⟩ | ⟨k, r⟩ | ⟨k, r⟩ | ⟨k, x1, x2, r, x3⟩ | ⟨k, r⟩ | ⟨k, r⟩ | ⟨k, x1, r⟩
  · refine Or.inl ⟨k, tr ?_ r, by omega, by omega, by omega⟩
    unfold unT
    refine ⟨?_, fun j j0 j1 w => ?_⟩
    · simp [xup]
      omega
    · simp [xup] at w ⊢
      repeat' split
      all_goals first | rfl | exact g.2 j j0 j1 (by omega)
  · refine Or.inr (Or.inl ⟨k, tr ⟨?_, fun j j0 j1 w => ?_⟩ r, x⟩)
    · unfold lwU
      rw [if_neg (by decide)]
      exact g0
    · have l1 : lwU B C 1 = B 1 := by unfold lwU; rw [if_neg (by decide)]
      rw [l1] at w
      unfold lwU
      rw [g.2 j j0 j1 w]
  · exact Or.inr (Or.inr (Or.inl ⟨k, by omega, by rw [← c _ (by omega)]; exact x2, tr (AT_xup g (n1 _ _ x1.1 (by decide)) (by rw [c _ (by omega)])) r⟩))
  · exact Or.inr (Or.inr (Or.inr (Or.inl ⟨k, by omega, tr (AT_xup g (n1 _ _ x1.1 (by decide)) rfl) r⟩)))
  · exact Or.inr (Or.inr (Or.inr (Or.inr (Or.inl ⟨k, tr (AT_xup g (by decide) rfl) r⟩))))
  · exact Or.inr (Or.inr (Or.inr (Or.inr (Or.inr (Or.inl ⟨k, tr (AT_xup g (by decide) rfl) r⟩)))))
  · exact Or.inr (Or.inr (Or.inr (Or.inr (Or.inr (Or.inr (Or.inl ⟨k, tr (AT_xup g (by decide) rfl) r⟩))))))
  · refine Or.inr (Or.inr (Or.inr (Or.inr (Or.inr (Or.inr (Or.inr (Or.inl ⟨k, by omega, by omega, tr ⟨?_, fun j j0 j1 w => ?_⟩ r, x3⟩)))))))
    · unfold insL
      rw [if_neg (by decide), if_pos (by omega)]
      exact g0
    · have l1 : insL B C (H (469 + 6 * l) 1) 1 = B 1 := by
        unfold insL
        rw [if_neg (by decide), if_pos (by omega)]
      rw [l1] at w
      unfold insL
      rw [e2]
      split
      · rfl
      · split
        · exact g.2 j j0 j1 w
        · split
          · rfl
          · exact g.2 _ (by omega) (by omega) (by omega)
  · exact Or.inr (Or.inr (Or.inr (Or.inr (Or.inr (Or.inr (Or.inr (Or.inr (Or.inl ⟨k, tr (AT_xup g (by decide) rfl) r⟩))))))))
  · exact Or.inr (Or.inr (Or.inr (Or.inr (Or.inr (Or.inr (Or.inr (Or.inr (Or.inr (Or.inl ⟨k, tr (AT_xup (AT_xup g (by decide) rfl) (by decide) rfl) r⟩)))))))))
  · exact Or.inr (Or.inr (Or.inr (Or.inr (Or.inr (Or.inr (Or.inr (Or.inr (Or.inr (Or.inr ⟨k, by omega, tr (AT_xup (AT_xup g (n1 _ _ x1.1 (by decide)) (by rw [c _ (by omega)])) (by decide) (by rw [e9])) r⟩)))))))))
/-- the newest row, said another way -/
theorem RC_hdT {H : PH} {S : Int → Int → Int} {n : Int} {B : Int → Int} (h : RC H S n) (g : AT (S 0) B) (hz : ∀ i, 0 ≤ i → i < 1124 → zIn (B i)) : RC H (hd0 B S) n := by
  obtain ⟨h1, h2, h3, h4, h5, h6, h7⟩ := h
  have ok := h6 0 (by decide) h4.1.1
  have rq := AT_REq g (AT_SZ ok)
  have s0 : hd0 B S 0 = B := if_pos (by decide)
  have s1 : ∀ e, 0 < e → hd0 B S e = S e := fun e he => if_neg (by omega)
  refine ⟨by rw [s0]; exact CI_EQ h1 rq, by rw [s0]; exact CPr_EQ h2 rq, h3, h4, h5, fun e e0 e1 => ?_, fun e e0 e1 => ?_⟩
  · by_cases q : e = 0
    · rw [q, s0]
      exact OKR_AT ok g hz
    · rw [s1 e (by omega)]
      exact h6 e e0 e1
  · rw [s1 (e + 1) (by omega)]
    have ok1 := h6 (e + 1) (by omega) (by omega)
    have d := h7 e e0 e1
    by_cases q : e = 0
    · rw [q, s0]
      rw [q] at d ok1
      exact DD_AT ⟨ok.1.1.2, ok.1.2.2.1.2⟩ (AT_SZ ok1) g d
    · rw [s1 e (by omega)]
      exact d
