/-! ===== the checker is right ===== -/
def sok (lv : Nat) (md : List Nat) (g : Nat → Nat → Int) (H0 : PH) (ls0 : PL) (S : aS) (ls : PL) (st : List pv) (H : PH) : Prop := gam ls0 S ls st H ∧ WT lv g H ∧ frm md H0 H
section CK
variable {cs : Nat → List aC} {Jt : Nat → aS → Bool} {rt : Option aV} {lv D : Nat} {md : List Nat} {po : List aF} {g : Nat → Nat → Int} {H0 H : PH} {ls0 ls : PL} {st : List pv} {S : aS} {G : zG} {us : Nat} {J : Nat → PL → List pv → PH → Prop} {Q : Option pv → PH → Prop} {k : aS → Bool} {k' : PL → List pv → PH → Prop}
theorem p1_ok {f : aE → aS → Bool} (h : c1 S f = true) (hs : sok lv md g H0 ls0 S ls st H) : ∃ e v S' st', st = v :: st' ∧ f e S' = true ∧ eok ls0 ls H e v ∧ sok lv md g H0 ls0 S' ls st' H := by
  obtain ⟨e, r, h1, h2⟩ := c1_ok h
  obtain ⟨⟨a, b, c⟩, d⟩ := hs
  rw [h1] at b
  cases st with
  | nil => exact b.elim
  | cons v st' => exact ⟨e, v, _, st', rfl, h2, b.1, ⟨a, b.2, c⟩, d⟩
theorem tag_v {e : aE} {v : pv} {t : Nat} (h : tag e t = true) (he : eok ls0 ls H e v) : e.1.1 = t ∧ v = (t, v.2) := by
  have h1 : e.1.1 = t := Nat.eq_of_beq_eq_true h
  have h2 : v.1 = e.1.1 := he.1.1
  exact ⟨h1, by rw [← h1, ← h2]⟩
theorem tag_n {e : aE} {v : pv} (h : (!tag e 1) = true) (he : eok ls0 ls H e v) : v.1 ≠ 1 := by
  have h2 : v.1 = e.1.1 := he.1.1
  rw [h2]
  intro q
  unfold tag at h
  rw [q] at h
  exact Bool.noConfusion (show false = true from h)
theorem eok_int {e : aE} {x : Int} (h : e.1.1 = 0) (he : eok ls0 ls H e (0, x)) : vint e.1 x := (aval_int he.1 h).2
theorem eok_ref {e : aE} {c : Int} (h : e.1.1 = 2) (he : eok ls0 ls H e (2, c)) : 0 ≤ c ∧ c < 622 ∧ tau c.toNat = e.1.2.2.2 := he.1.2.2.2 h
theorem push_ok {e : aE} {v : pv} (he : eok ls0 ls H e v) (hs : sok lv md g H0 ls0 S ls st H) : sok lv md g H0 ls0 (push e S) ls (v :: st) H := ⟨⟨hs.1.1, ⟨he, hs.1.2.1⟩, hs.1.2.2⟩, hs.2⟩
theorem i2_ok {f : aE → aE → aS → Bool} (h : c2 S f = true) (hs : sok lv md g H0 ls0 S ls st H) : ∃ ex ey x y S' st', st = (0, y) :: (0, x) :: st' ∧ f ex ey S' = true ∧ (eok ls0 ls H ex (0, x) ∧ ex.1.1 = 0) ∧ (eok ls0 ls H ey (0, y) ∧ ey.1.1 = 0) ∧ sok lv md g H0 ls0 S' ls st' H := by
  obtain ⟨ey, v, S1, st1, rfl, h1, h2, h3⟩ := p1_ok h hs
  rw [Bool.and_eq_true] at h1
  obtain ⟨ty, ev⟩ := tag_v h1.1 h2
  obtain ⟨ex, w, S2, st2, rfl, h4, h5, h6⟩ := p1_ok h1.2 h3
  rw [Bool.and_eq_true] at h4
  obtain ⟨tx, ew⟩ := tag_v h4.1 h5
  rw [ev] at h2
  rw [ew] at h5
  exact ⟨ex, ey, w.2, v.2, S2, st2, by rw [← ev, ← ew], h4.2, ⟨h5, tx⟩, ⟨h2, ty⟩, h6⟩
theorem nbeq_f {a b : Nat} (h : (!Nat.beq a b) = true) : a ≠ b := by
  intro e
  rw [e, Nat.beq_refl] at h
  cases h
theorem vk_ok (x : Int) : aval (vk x) (0, x) := aval_mk ⟨Int.le_refl _, Int.le_refl _, by rw [Int.sub_self]; exact Int.dvd_zero _⟩
theorem sgn_zw {a : Nat} (h : a < 4294967296) : zw (a : Int) = sgn a := by
  unfold zw sgn
  split <;> omega
theorem kc_ok {a : Nat} (h : (Nat.blt a 4294967296 && k (push (ePl (vk (sgn a))) S)) = true) (hs : sok lv md g H0 ls0 S ls st H) (hk : ∀ S ls st H, k S = true → sok lv md g H0 ls0 S ls st H → k' ls st H) : a < 4294967296 ∧ k' ls ((0, zw (a : Int)) :: st) H := by
  rw [Bool.and_eq_true] at h
  have h1 : a < 4294967296 := Nat.blt_eq.mp h.1
  refine ⟨h1, hk _ _ _ _ h.2 (push_ok (ePl_ok ?_) hs)⟩
  rw [sgn_zw h1]
  exact vk_ok _
theorem set_ok {v : Nat} {w : Bool} {e : aE} {p : pv} (he : eok ls0 ls H e p) (hs : sok lv md g H0 ls0 S ls st H) : sok lv md g H0 ls0 (setL v w e S) (pset ls v w p) st H := ⟨setL_ok hs.1 he, hs.2⟩
theorem inr_zw {x a : Int} {lo hi : Int} (h : inr lo hi = true) (h1 : lo ≤ x) (h2 : x ≤ hi) : zw x = x := by
  have := inr_ok h
  exact zw_id ⟨by omega, by omega⟩
theorem zw_sgn {x : Int} {a : Nat} (h : a < 4294967296) : zw (x + (a : Int)) = zw (x + sgn a) := by
  unfold zw sgn
  split <;> omega
theorem iinc_ok {e : aE} {x : Int} {a : Nat} (ha : a < 4294967296) (he : eok ls0 ls H e (0, x)) (ht : e.1.1 = 0) (hi : inr (e.1.2.1 + sgn a) (e.1.2.2.1 + sgn a) = true) : eok ls0 ls H ((0, e.1.2.1 + sgn a, e.1.2.2.1 + sgn a, e.1.2.2.2), (0, 0, 0), (e.2.2.1.1, e.2.2.1.2 + sgn a), []) (0, zw (x + (a : Int))) := by
  obtain ⟨h1, h2, h3⟩ := eok_int ht he
  rw [zw_sgn ha, inr_zw (a := 0) hi (by omega) (by omega)]
  refine ⟨aval_mk ⟨?_, ?_, ?_⟩, fun q => (q rfl).elim, ?_, fun _ f q => (by cases q)⟩
  · show e.1.2.1 + sgn a ≤ x + sgn a
    omega
  · show x + sgn a ≤ e.1.2.2.1 + sgn a
    omega
  · show (e.1.2.2.2 : Int) ∣ x + sgn a - (e.1.2.1 + sgn a)
    have : x + sgn a - (e.1.2.1 + sgn a) = x - e.1.2.1 := by omega
    rw [this]
    exact h3
  · intro v hv
    obtain ⟨y, h4, h5⟩ := he.2.2.1 v hv
    refine ⟨y, h4, ?_⟩
    have h6 : x = y + e.2.2.1.2 := congrArg Prod.snd h5
    show ((0, x + sgn a) : pv) = (0, y + (e.2.2.1.2 + sgn a))
    rw [h6, Int.add_assoc]
theorem no0_ok {a : aV} {y : Int} (h : no0 a.2.1 a.2.2.1 = true) (hy : vint a y) : y ≠ 0 := by
  have h1 := hy.1
  have h2 := hy.2.1
  unfold no0 at h
  simp only [Bool.or_eq_true, decide_eq_true_iff] at h
  omega
theorem br_ok {r r' : Nat} {ex ey : aE} {x y : Int} {a1 : Nat} (h1 : cbr r ex ey S (Jt a1) = true) (h2 : cbr r' ex ey S k = true) (hs : sok lv md g H0 ls0 S ls st H) (hx : eok ls0 ls H ex (0, x) ∧ ex.1.1 = 0) (hy : eok ls0 ls H ey (0, y) ∧ ey.1.1 = 0) (hj : ∀ t S ls st H, Jt t S = true → sok lv md g H0 ls0 S ls st H → J t ls st H) (hk : ∀ S ls st H, k S = true → sok lv md g H0 ls0 S ls st H → k' ls st H) : (rcond r x y → J a1 ls st H) ∧ (rcond r' x y → k' ls st H) := by
  refine ⟨fun q => ?_, fun q => ?_⟩
  · obtain ⟨S', a, b⟩ := cbr_ok h1 hs.1 hx.1 hy.1 hx.2 hy.2 q
    exact hj _ _ _ _ _ a ⟨b, hs.2⟩
  · obtain ⟨S', a, b⟩ := cbr_ok h2 hs.1 hx.1 hy.1 hx.2 hy.2 q
    exact hk _ _ _ _ a ⟨b, hs.2⟩
theorem ref_cell {e : aE} {c : Int} (h : e.1.1 = 2) (he : eok ls0 ls H e (2, c)) : ∃ n : Nat, c = (n : Int) ∧ n < 622 ∧ tau n = e.1.2.2.2 ∧ (zSh n).1 = (tsh e.1.2.2.2).1 ∧ (zSh n).2.1 = (tsh e.1.2.2.2).2.1 ∧ ((tsh e.1.2.2.2).2.2 = 0 ∨ (tsh e.1.2.2.2).2.2 = n + 1) := by
  obtain ⟨h1, h2, h3⟩ := eok_ref h he
  obtain ⟨n, rfl⟩ := Int.eq_ofNat_of_zero_le h1
  have e1 : ((n : Int)).toNat = n := by omega
  rw [e1] at h3
  have hn : n < 622 := by omega
  have := tau_ok hn
  rw [h3] at this
  exact ⟨n, rfl, hn, h3, this.1, this.2.1, this.2.2.1⟩
theorem orgF_ok {n t i : Nat} (h1 : (tsh t).2.2 = 0 ∨ (tsh t).2.2 = n + 1) : (orgF t i).1 ≠ 0 → oval ls H (orgF t i) (gv H n i) := by
  unfold orgF
  rcases h1 with h1 | h1
  · rw [h1]
    exact fun q => (q rfl).elim
  · rw [h1]
    exact fun _ => rfl
theorem WT_get {n i : Nat} (hW : WT lv g H) (h1 : n < 622) (h2 : i < (zSh n).2.1) : aval (fty (tau n) i) ((fty (tau n) i).1, gv H n i) := (hW n i h1 h2).1
theorem ovq_ok {o : aG} {x : Int} (h : o.1 ≠ 0 → oval ls H o x) {ov : List aF} {a : aV} {p : pv} (ho : ∀ f ∈ ov, fok ls H f) (ha : aval a p) (hx : p.2 = x) : aval (ovq o ov a) p := by
  unfold ovq
  cases hb : Nat.beq o.1 0 with
  | true => exact ha
  | false => exact ovm_ok ho ha (fun _ => by rw [hx]; exact h (nbeq_ne hb))
theorem upto_ok {f : Nat → Bool} {s : Nat} : ∀ (n i j : Nat), upto f s i n = true → j ≤ n → f (i + s * j) = true
  | 0, i, j, h, hj => by
    have : j = 0 := by omega
    subst this
    exact h
  | n + 1, i, j, h, hj => by
    have h : (f i && upto f s (i + s) n) = true := h
    rw [Bool.and_eq_true] at h
    cases j with
    | zero => exact h.1
    | succ j =>
      have := upto_ok n (i + s) j h.2 (by omega)
      have e : i + s * (j + 1) = i + s + s * j := by rw [Nat.mul_add]; omega
      rw [e]
      exact this
theorem rng_ok {f : Nat → Bool} {a : aV} {x : Int} (h : rng f a = true) (hx : vint a x) : 0 ≤ x ∧ f x.toNat = true := by
  obtain ⟨t, lo, hi, s⟩ := a
  obtain ⟨h1, h2, j, hj⟩ := hx
  have h1 : lo ≤ x := h1
  have h2 : x ≤ hi := h2
  have hj : x - lo = (s : Int) * j := hj
  unfold rng at h
  rw [Bool.and_eq_true, decide_eq_true_iff] at h
  have h0 : 0 ≤ lo := h.1
  refine ⟨by omega, ?_⟩
  have h3 : (bif Nat.beq s 0 then f lo.toNat else upto f s lo.toNat ((hi - lo).toNat / s)) = true := h.2
  cases hb : Nat.beq s 0 with
  | true =>
    rw [hb] at h3
    have e : s = 0 := Nat.eq_of_beq_eq_true hb
    subst e
    have : ((0 : Nat) : Int) * j = 0 := by simp
    have e2 : x = lo := by omega
    rw [e2]
    exact h3
  | false =>
    rw [hb] at h3
    have hs : 0 < s := Nat.pos_of_ne_zero (nbeq_ne hb)
    have hj0 : 0 ≤ j := by
      rcases (by omega : j < 0 ∨ 0 ≤ j) with q | q
      · have : (s : Int) * j < 0 := Int.mul_neg_of_pos_of_neg (by omega) q
        omega
      · exact q
    obtain ⟨m, rfl⟩ := Int.eq_ofNat_of_zero_le hj0
    have e3 : x.toNat = lo.toNat + s * m := by
      have : (s : Int) * (m : Int) = ((s * m : Nat) : Int) := (Int.natCast_mul s m).symm
      omega
    rw [e3]
    refine upto_ok _ _ _ h3 ?_
    rw [Nat.le_div_iff_mul_le hs]
    have : (s : Int) * (m : Int) = ((s * m : Nat) : Int) := (Int.natCast_mul s m).symm
    rw [Nat.mul_comm]
    omega
theorem fty_row {t i : Nat} (h : 33 ≤ t) : fty t i = fty t 0 := by
  unfold fty
  rw [if_neg (by omega), if_neg (by omega), if_neg (by omega), if_neg (by omega)]
theorem nbeq_lt {t m : Nat} (h : m < t) : Nat.beq t m = false := by
  cases hb : Nat.beq t m with
  | false => rfl
  | true => have := Nat.eq_of_beq_eq_true hb; omega
theorem fz_row {lv t i : Nat} (h : 33 ≤ t) : fz lv t i = fz lv t 0 := by
  unfold fz
  rw [nbeq_lt (show 10 < t by omega), nbeq_lt (show 12 < t by omega), nbeq_lt (show 32 < t by omega), nbeq_lt (show 2 < t by omega), nbeq_lt (show 11 < t by omega), nbeq_lt (show 0 < t by omega), nbeq_lt (show 1 < t by omega)]
  rfl
theorem eget_ok {t n : Nat} {a : aV} {i : Int} (h : egetok t a = true) (hi : vint a i) (h0 : 0 ≤ i) (hn : n < 622) (ht : tau n = t) (hl : i.toNat < (zSh n).2.1) (hW : WT lv g H) (htg : (eget t a).1 = 0) : aval (eget t a) (0, gv H n i) := by
  have h1 := WT_get hW hn hl
  have ei : ((i.toNat : Nat) : Int) = i := by omega
  rw [ht, ei] at h1
  have key : aval (eget t a) ((fty t i.toNat).1, gv H n i) := by
    unfold egetok at h
    rw [Bool.or_eq_true, Bool.and_eq_true] at h
    rcases h with h | h
    · have h33 := Nat.le_of_ble_eq_true h
      have e : eget t a = fty t 0 := by
        unfold eget
        rw [nbeq_lt (show 32 < t by omega)]
        rfl
      rw [e, ← fty_row (i := i.toNat) h33]
      exact h1
    · have e32 : t = 32 := Nat.eq_of_beq_eq_true h.1
      subst e32
      exact vsub'_ok (rng_ok h.2 hi).2 h1
  have e : (fty t i.toNat).1 = 0 := by
    have h3 : (fty t i.toNat).1 = (eget t a).1 := key.1
    rw [h3, htg]
  rw [e] at key
  exact key
theorem eput_ok {t n : Nat} {a v : aV} {i x : Int} (h : eputok lv t a v = true) (hi : vint a i) (h0 : 0 ≤ i) (ht : tau n = t) (hx : aval v (0, x)) : aval (fty (tau n) i.toNat) ((fty (tau n) i.toNat).1, x) ∧ fz lv (tau n) i.toNat = false := by
  rw [ht]
  unfold eputok at h
  rw [Bool.or_eq_true, Bool.and_eq_true, Bool.and_eq_true, Bool.and_eq_true] at h
  have fin : ∀ j, vsub' v (fty t j) = true → aval (fty t j) ((fty t j).1, x) := fun j hj => by
    have h1 := vsub'_ok hj hx
    have e : (fty t j).1 = 0 := h1.1.symm
    rw [e]
    exact h1
  rcases h with ⟨⟨h1, h2⟩, h3⟩ | ⟨h1, h2⟩
  · have h33 := Nat.le_of_ble_eq_true h1
    rw [fty_row h33, fz_row h33]
    exact ⟨fin 0 h2, by rw [Bool.not_eq_true'] at h3; exact h3⟩
  · have e32 : t = 32 := Nat.eq_of_beq_eq_true h1
    subst e32
    have h4 := (rng_ok h2 hi).2
    rw [Bool.and_eq_true, Bool.not_eq_true'] at h4
    exact ⟨fin _ h4.1, h4.2⟩
theorem inb_ok {a : aV} {n : Nat} {i : Int} (h : inb a n = true) (hi : vint a i) : 0 ≤ i ∧ i < n := by
  unfold inb at h
  rw [Bool.and_eq_true, decide_eq_true_iff, decide_eq_true_iff] at h
  have h1 := hi.1
  have h2 := hi.2.1
  omega
theorem store_ok {n : Nat} {i : Nat} {x lo hi : Int} (hs : sok lv md g H0 ls0 S ls st H) (hp : inmd md (tau n) i = true) (hz : zrt n i = none) (h1 : lo ≤ i) (h2 : (i : Int) ≤ hi) (hv : aval (fty (tau n) i) ((fty (tau n) i).1, x)) (hf : fz lv (tau n) i = false) : sok lv md g H0 ls0 (kill (PT (tau n) lo hi) S) ls st (pup H n i x) :=
  ⟨kill_H (fun o y q => PT_oval hz rfl h1 h2 q) hs.1, WT_up hs.2.1 hz hv hf, fun c y z q => by
    rw [gv_pup (by rw [Int.toNat_natCast, Int.toNat_natCast]; exact hz), if_neg]
    · exact hs.2.2 c y z q
    · rintro ⟨e1, e2⟩
      have e3 : c = n := by omega
      rw [e3, e2, hp] at q
      cases q⟩
theorem orgA_ok {t n : Nat} {e : aE} {i : Int} (h1 : (tsh t).2.2 = 0 ∨ (tsh t).2.2 = n + 1) (he : eok ls0 ls H e (0, i)) (ht : e.1.1 = 0) (h0 : 0 ≤ i) : (orgA t e).1 ≠ 0 → oval ls H (orgA t e) (gv H n i) := by
  unfold orgA
  rcases h1 with h1 | h1
  · rw [h1]
    exact fun q => (q rfl).elim
  · rw [h1]
    show (bif Nat.beq e.1.2.2.2 0 then ((2, n, e.1.2.1.toNat) : aG) else bif Nat.beq e.2.1.1 1 then (3, n, e.2.1.2.1) else (0, 0, 0)).1 ≠ 0 → _
    cases hb : Nat.beq e.1.2.2.2 0 with
    | true =>
      intro _
      have e0 := Nat.eq_of_beq_eq_true hb
      have e1 := (eok_int ht he).2.2
      rw [e0] at e1
      have e2 := zero_dvd e1
      show gv H n (e.1.2.1.toNat : Nat) = gv H n i
      rw [← e2]
      congr 1
      omega
    | false =>
      show (bif Nat.beq e.2.1.1 1 then ((3, n, e.2.1.2.1) : aG) else (0, 0, 0)).1 ≠ 0 → oval ls H (bif Nat.beq e.2.1.1 1 then ((3, n, e.2.1.2.1) : aG) else (0, 0, 0)) _
      cases hc : Nat.beq e.2.1.1 1 with
      | true =>
        intro _
        have e3 := Nat.eq_of_beq_eq_true hc
        have e4 := (he.2.1 (by rw [e3]; decide)).2
        refine ⟨i, ?_, rfl⟩
        obtain ⟨av, ⟨k1, a, b⟩, r⟩ := e
        have e3 : k1 = 1 := e3
        subst e3
        exact e4
      | false => exact fun q => (q rfl).elim
theorem orgA_ok2 {t n : Nat} {e : aE} {i : Int} (h1 : (tsh t).2.2 = 0 ∨ (tsh t).2.2 = n + 1) (he : vint e.1 i) (h0 : 0 ≤ i) (h2 : (orgA t e).1 = 2) : oval ls H (orgA t e) (gv H n i) := by
  revert h2
  unfold orgA
  rcases h1 with h1 | h1
  · rw [h1]
    exact fun q => (by cases q)
  · rw [h1]
    show (bif Nat.beq e.1.2.2.2 0 then ((2, n, e.1.2.1.toNat) : aG) else bif Nat.beq e.2.1.1 1 then (3, n, e.2.1.2.1) else (0, 0, 0)).1 = 2 → _
    cases hb : Nat.beq e.1.2.2.2 0 with
    | true =>
      intro _
      have e0 := Nat.eq_of_beq_eq_true hb
      have e1 := he.2.2
      rw [e0] at e1
      have e2 := zero_dvd e1
      show gv H n (e.1.2.1.toNat : Nat) = gv H n i
      rw [← e2]
      congr 1
      omega
    | false =>
      show (bif Nat.beq e.2.1.1 1 then ((3, n, e.2.1.2.1) : aG) else (0, 0, 0)).1 = 2 → _
      cases hc : Nat.beq e.2.1.1 1 with
      | true => exact fun q => (by cases q)
      | false => exact fun q => (by cases q)
theorem fitc_ok {f : Nat} {a : aV} {v : pv} (h : fitc f a = true) (hv : aval a v) : zfit f (pe v) = true := by
  obtain ⟨t, x⟩ := v
  match f, h with
  | 0, h =>
    have e : a.1 = 0 := Nat.eq_of_beq_eq_true h
    have e2 : t = 0 := hv.1.trans e
    subst e2
    rfl
  | 1, h =>
    have e : a.1 = 1 := Nat.eq_of_beq_eq_true h
    have e2 : t = 1 := hv.1.trans e
    subst e2
    rfl
  | 2, h =>
    have h : (Nat.beq a.1 0 && decide (0 ≤ a.2.1) && decide (a.2.2.1 ≤ 1)) = true := h
    rw [Bool.and_eq_true, Bool.and_eq_true, decide_eq_true_iff, decide_eq_true_iff] at h
    have e : a.1 = 0 := Nat.eq_of_beq_eq_true h.1.1
    have e2 : t = 0 := hv.1.trans e
    subst e2
    have h1 := (aval_int hv e).2.1
    have h2 := (aval_int hv e).2.2.1
    have h3 : (0 : Int) ≤ x := Int.le_trans h.1.2 h1
    have h4 : x ≤ 1 := Int.le_trans h2 h.2
    show Nat.blt (zu x) 2 = true
    have : zu x < 2 := by
      unfold zu
      omega
    exact Nat.ble_eq_true_of_le this
  | n + 3, h =>
    have e : a.1 = 2 := Nat.eq_of_beq_eq_true h
    have e2 : t = 2 := hv.1.trans e
    subst e2
    have := (hv.2.2.2 e).1
    show zisR (pe (2, x)) = true
    exact pe_R (by have h3 : (0 : Int) ≤ x := this; omega)
/-! calls -/
theorem nlong_ok : ∀ {s : List aE} {t : List pv}, all2 (eok ls0 ls H) s t → nlong s = pcat t
  | [], [], _ => rfl
  | e :: s, p :: t, h => by
    have ih := nlong_ok h.2
    unfold nlong pcat at ih ⊢
    rw [List.map_cons, List.map_cons, List.sum_cons, List.sum_cons, ih]
    have h1 : p.1 = e.1.1 := h.1.1.1
    rw [h1]
    cases hb : Nat.beq e.1.1 1 with
    | true => rw [if_pos (Nat.eq_of_beq_eq_true hb)]; rfl
    | false => rw [if_neg (nbeq_ne hb)]; rfl
theorem amatch_ok : ∀ {s : List aE} {a : List aV} {t : List pv}, amatch s a = true → all2 (eok ls0 ls H) s t → aargs a t
  | [], [], [], _, _ => trivial
  | e :: s, a :: r, p :: t, h, h' => by
    have h : (vsub' e.1 a && amatch s r) = true := h
    rw [Bool.and_eq_true] at h
    exact ⟨vsub'_ok h.1 h'.1.1, amatch_ok h.2 h'.2⟩
  | [], _ :: _, _, h, _ => by cases h
  | _ :: _, [], _, h, _ => by cases h
theorem nthE_ok : ∀ {s : List aE} {t : List pv} (j : Nat), all2 (eok ls0 ls H) s t → ((nthE s j).2.1.1 ≠ 0 ∨ (nthE s j).2.2.2 ≠ []) → ∃ p, t[j]? = some p ∧ eok ls0 ls H (nthE s j) p
  | [], [], _, _, h => h.elim (fun q => (q rfl).elim) (fun q => (q rfl).elim)
  | e :: s, p :: t, 0, h, _ => ⟨p, rfl, h.1⟩
  | e :: s, p :: t, j + 1, h, h' => nthE_ok (s := s) (t := t) j h.2 h'
theorem kf_ok {H' : PH} {wd : List Nat} {ae : List aE} {as : List pv} (ht : all2 (eok ls0 ls H) ae as) (w4 : frm wd H H') {v : Int} : ∀ {fs : List (Int × Int × Nat × Int × Int)}, (∀ f ∈ fs, f.1 ≤ v → v ≤ f.2.1 → ∀ y, as[f.2.2.1]? = some (0, y) → f.2.2.2.1 ≤ y ∧ y ≤ f.2.2.2.2) → ∀ q ∈ kfacts wd ae fs, q.1 ≤ v → v ≤ q.2.1 → fok ls H' q.2.2
  | [], _, q, hq => by cases hq
  | f :: t, h, q, hq => by
    intro z1 z2 x hx
    rcases List.mem_append.mp hq with hq | hq
    · obtain ⟨q0, hq0, rfl⟩ := List.mem_map.mp hq
      obtain ⟨g1, g2⟩ := List.mem_filter.mp hq0
      simp only [Bool.and_eq_true, decide_eq_true_iff] at g2
      obtain ⟨⟨⟨g3, g4⟩, g5⟩, g6⟩ := g2
      obtain ⟨p, k1, k2⟩ := nthE_ok f.2.2.1 ht (Or.inr (fun e => by rw [e] at g1; cases g1))
      have g3 : (nthE ae f.2.2.1).1.1 = 0 := Nat.eq_of_beq_eq_true g3
      have k3 : p.1 = 0 := k2.1.1.trans g3
      have k4 := h f List.mem_cons_self z1 z2 p.2 (by rw [k1, ← k3])
      have k5 := k2.2.2.2 k3 q0 g1 (Int.le_trans g4 k4.1) (Int.le_trans k4.2 g5)
      exact k5 x ((PM_oval w4 (by rw [Bool.not_eq_true'] at g6; exact g6)).mp hx)
    · exact kf_ok ht w4 (fun f' hf' => h f' (List.mem_cons_of_mem _ hf')) q hq z1 z2 x hx
theorem oval_loc {o : aG} {x : Int} {H' : PH} (h : o.1 = 1) : oval ls H' o x ↔ oval ls H o x := by
  obtain ⟨k, a, b⟩ := o
  have h : k = 1 := h
  subst h
  exact Iff.rfl
theorem call_ok {p m n : Nat} (h : ccall cs lv D md p m n S k = true) (hcs : ∀ p, ∀ c ∈ cs p, CtOK c) (hlv : lv ≤ 1) (hg : GOK g) (hs : sok lv md g H0 ls0 S ls st H) (hk : ∀ S ls st H, k S = true → sok lv md g H0 ls0 S ls st H → k' ls st H) : n ≤ st.length ∧ pcat (st.drop n) ≤ 8 ∧ Ca G us D m (st.take n).reverse H (fun r H2 => k' ls (ppush r (st.drop n)) H2) := by
  unfold ccall at h
  rw [List.any_eq_true] at h
  obtain ⟨c, hc, h⟩ := h
  · unfold ccall1 at h
    simp only [Bool.and_eq_true] at h
    obtain ⟨⟨⟨⟨⟨⟨⟨⟨⟨⟨e1, e2⟩, e3⟩, e4⟩, e5⟩, e6⟩, e7⟩, e8⟩, x8⟩, y8⟩, e9⟩ := h
    have e1 : c.1 = m := Nat.eq_of_beq_eq_true e1
    have e2 := Nat.le_of_ble_eq_true e2
    have e3 := Nat.le_of_ble_eq_true e3
    have e4 := Nat.le_of_ble_eq_true e4
    have e5 := Nat.le_of_ble_eq_true e5
    have hst := hs.1.2.1
    have hd := all2_drop n hst
    have ht := all2_reverse (all2_take n hst)
    refine ⟨by rw [← all2_len hst]; exact e3, by rw [← nlong_ok hd]; exact e4, ?_⟩
    have hpre : ∀ f ∈ c.2.2.2.2.2.2.2.1, fok [] H f := by
      intro f hf
      have h1 := List.all_eq_true.mp e8 f hf
      rw [Bool.and_eq_true] at h1
      exact fok_nil (Nat.eq_of_beq_eq_true h1.1) (fcov2_ok h1.2 hs.1.2.2)
    have hC := Ct_lv (hcs p c hc) e5 hlv (G := G) (us := us) hg hs.2.1 (amatch_ok e7 ht) hpre
    rw [e1] at hC
    refine Ca_mono (by omega) ?_ hC
    rintro r H' ⟨w1, w2, w3, w4, w5, w6⟩
    have f2 : ∀ {fs : List aF}, isF2 fs = true → (∀ f ∈ fs, fok [] H' f) → ∀ f ∈ fs, fok ls H' f := by
      intro fs h1 h2 f hf x hx
      have h3 := Nat.eq_of_beq_eq_true (List.all_eq_true.mp h1 f hf)
      refine h2 f hf x ?_
      obtain ⟨⟨q1, q2, q3⟩, q4⟩ := f
      have h3 : q1 = 2 := h3
      subst h3
      exact hx
    have hK := kill_H (fun o x q => PM_oval w4 q) (S := (S.1, S.2.1.drop n, S.2.2)) (ls0 := ls0) (ls := ls) (st := st.drop n) ⟨hs.1.1, hd, hs.1.2.2⟩
    have hT : sok lv md g H0 ls0 ((kill (PM c.2.2.2.2.2.2.1) (S.1, S.2.1.drop n, S.2.2)).1, (kill (PM c.2.2.2.2.2.2.1) (S.1, S.2.1.drop n, S.2.2)).2.1, c.2.2.2.2.2.2.2.2.2 ++ (kill (PM c.2.2.2.2.2.2.1) (S.1, S.2.1.drop n, S.2.2)).2.2) ls (st.drop n) H' := by
      refine ⟨⟨hK.1, hK.2.1, ?_⟩, w1, frm_trans hs.2.2 (frm_sub e6 w4)⟩
      intro f hf
      rcases List.mem_append.mp hf with hf | hf
      · exact f2 y8 w6 f hf
      · exact hK.2.2 f hf
    have e9 : (match c.2.2.2.1 with
      | none => k ((kill (PM c.2.2.2.2.2.2.1) (S.1, S.2.1.drop n, S.2.2)).1, (kill (PM c.2.2.2.2.2.2.1) (S.1, S.2.1.drop n, S.2.2)).2.1, c.2.2.2.2.2.2.2.2.2 ++ (kill (PM c.2.2.2.2.2.2.1) (S.1, S.2.1.drop n, S.2.2)).2.2)
      | some a => k (push (a, (0, 0, 0), (0, 0), cfacts c.2.2.2.2.2.2.1 (S.2.1.take n).reverse c.2.2.2.2.1 ++ (kfacts c.2.2.2.2.2.2.1 (S.2.1.take n).reverse c.2.2.2.2.1 ++ c.2.2.2.2.2.2.2.2.1)) ((kill (PM c.2.2.2.2.2.2.1) (S.1, S.2.1.drop n, S.2.2)).1, (kill (PM c.2.2.2.2.2.2.1) (S.1, S.2.1.drop n, S.2.2)).2.1, c.2.2.2.2.2.2.2.2.2 ++ (kill (PM c.2.2.2.2.2.2.1) (S.1, S.2.1.drop n, S.2.2)).2.2))) = true := e9
    unfold rok at w2
    split at w2
    · rename_i ha
      rw [ha] at e9
      exact hk _ _ _ _ e9 hT
    · rename_i a v ha
      rw [ha] at e9
      refine hk _ _ _ _ e9 (push_ok ⟨w2, fun q => (q rfl).elim, fun v q => (by cases q), ?_⟩ hT)
      intro hv0 f hf z1 z2
      rcases List.mem_append.mp hf with hf | hf
      · intro x hx
        obtain ⟨f0, hf0, rfl⟩ := List.mem_map.mp hf
        obtain ⟨hf1, hf2⟩ := List.mem_filter.mp hf0
        rw [Bool.and_eq_true] at hf2
        have ho : (nthE (S.2.1.take n).reverse f0.2.2.1).2.1.1 ≠ 0 := nbeq_f hf2.1
        obtain ⟨q, hq1, hq2⟩ := nthE_ok f0.2.2.1 ht (Or.inl ho)
        have hq3 := hq2.2.1 ho
        have hx' : oval ls H (nthE (S.2.1.take n).reverse f0.2.2.1).2.1 x := (PM_oval w4 (by have := hf2.2; rw [Bool.not_eq_true'] at this; exact this)).mp hx
        have e := oval_fun hx' hq3.2
        subst e
        refine w3 v.2 (by rw [← hv0]) f0 hf1 z1 z2 q.2 ?_
        rw [hq1, ← hq3.1]
      · rcases List.mem_append.mp hf with hf | hf
        · exact kf_ok ht w4 (fun f hf z1 z2 => w3 v.2 (by rw [← hv0]) f hf z1 z2) f hf z1 z2
        · intro x hx
          have h3 := Nat.eq_of_beq_eq_true (List.all_eq_true.mp x8 f hf)
          refine w5 v.2 (by rw [← hv0]) f hf z1 z2 x ?_
          obtain ⟨k1, k2, ⟨q1, q2, q3⟩, q4⟩ := f
          have h3 : q1 = 2 := h3
          subst h3
          exact hx
    · exact w2.elim
/-! switches -/
theorem ptl_ok {p : Nat} {d : Int} (h : 0 ≤ (p : Int) + d) : ptl p d = some ((p : Int) + d).toNat := if_pos h
theorem sw_ok {p npc : Nat} {l : List Int} (h : l.all (fun d => decide (0 ≤ (p : Int) + d) && (bif Nat.beq ((p : Int) + d).toNat npc then k S else Jt ((p : Int) + d).toNat S)) = true) {d : Int} (hd : d ∈ l) : ∃ t, ptl p d = some t ∧ (t ≠ npc → Jt t S = true) ∧ (t = npc → k S = true) := by
  have h1 := List.all_eq_true.mp h d hd
  rw [Bool.and_eq_true, decide_eq_true_iff] at h1
  refine ⟨_, ptl_ok h1.1, fun q => ?_, fun q => ?_⟩
  · have h2 := h1.2
    rw [zbeq_ne q] at h2
    exact h2
  · have h2 := h1.2
    rw [q, Nat.beq_refl] at h2
    exact h2
theorem ptsw_ok {p : Nat} {d lo hi x : Int} {offs : Array Int} (hs : (hi - lo).toNat < offs.size) : ptsw p d lo hi offs x = ptl p d ∨ ∃ o ∈ offs.toList, ptsw p d lo hi offs x = ptl p o := by
  unfold ptsw
  by_cases e : x < lo ∨ hi < x
  · rw [if_pos e]
    exact Or.inl rfl
  · rw [if_neg e]
    have h1 : (x - lo).toNat < offs.size := by omega
    rw [Array.getElem?_eq_getElem h1]
    exact Or.inr ⟨_, Array.getElem_mem_toList h1, rfl⟩
theorem tsw_ok {p npc : Nat} {d lo hi x : Int} {offs : Array Int} (hs : (hi - lo).toNat < offs.size) {l : List Int} (hl : l = d :: offs.toList) (h : l.all (fun d => decide (0 ≤ (p : Int) + d) && (bif Nat.beq ((p : Int) + d).toNat npc then k S else Jt ((p : Int) + d).toNat S)) = true) (hS : sok lv md g H0 ls0 S ls st H) (hj : ∀ t S ls st H, Jt t S = true → sok lv md g H0 ls0 S ls st H → J t ls st H) (hk : ∀ S ls st H, k S = true → sok lv md g H0 ls0 S ls st H → k' ls st H) : ∃ t, ptsw p d lo hi offs x = some t ∧ (t ≠ npc → J t ls st H) ∧ (t = npc → k' ls st H) := by
  subst hl
  rcases ptsw_ok (p := p) (d := d) (x := x) hs with e | ⟨o, ho, e⟩
  · obtain ⟨t, a, b, c⟩ := sw_ok h List.mem_cons_self
    exact ⟨t, by rw [e, a], fun q => hj _ _ _ _ _ (b q) hS, fun q => hk _ _ _ _ (c q) hS⟩
  · obtain ⟨t, a, b, c⟩ := sw_ok h (List.mem_cons_of_mem _ ho)
    exact ⟨t, by rw [e, a], fun q => hj _ _ _ _ _ (b q) hS, fun q => hk _ _ _ _ (c q) hS⟩
theorem look_mem {d x : Int} : ∀ l : List (Int × Int), Op.lookupswitch.offset l d x ∈ d :: l.map Prod.snd
  | [] => List.mem_cons_self
  | q :: t => by
    have ih := look_mem (d := d) (x := x) t
    rw [Op.lookupswitch.offset_cons]
    split
    · exact List.mem_cons_of_mem _ List.mem_cons_self
    · rcases List.mem_cons.mp ih with e | e
      · rw [e]; exact List.mem_cons_self
      · exact List.mem_cons_of_mem _ (List.mem_cons_of_mem _ e)
theorem lsw_ok {p npc : Nat} {d x : Int} {a : Array (Int × Int)} {l : List Int} (hl : l = d :: a.toList.map Prod.snd) (h : l.all (fun d => decide (0 ≤ (p : Int) + d) && (bif Nat.beq ((p : Int) + d).toNat npc then k S else Jt ((p : Int) + d).toNat S)) = true) (hS : sok lv md g H0 ls0 S ls st H) (hj : ∀ t S ls st H, Jt t S = true → sok lv md g H0 ls0 S ls st H → J t ls st H) (hk : ∀ S ls st H, k S = true → sok lv md g H0 ls0 S ls st H → k' ls st H) : ∃ t, ptl p (Op.lookupswitch.offset a.toList d x) = some t ∧ (t ≠ npc → J t ls st H) ∧ (t = npc → k' ls st H) := by
  subst hl
  obtain ⟨t, a, b, c⟩ := sw_ok h (look_mem (d := d) (x := x) a.toList)
  exact ⟨t, a, fun q => hj _ _ _ _ _ (b q) hS, fun q => hk _ _ _ _ (c q) hS⟩
theorem qlcmp_in (x y : Int) : zIn (qlcmp x y) := by
  have h1 := Int32.le_toInt (lg_cmp (zI6 x.toNat) (zI6 y.toNat))
  have h2 := Int32.toInt_lt (lg_cmp (zI6 x.toNat) (zI6 y.toNat))
  unfold zIn qlcmp
  omega
theorem po_ok (h : pok_ po S.2.2 = true) (hs : sok lv md g H0 ls0 S ls st H) : ∀ f ∈ po, fok [] H f := by
  intro f hf
  have h1 := List.all_eq_true.mp h f hf
  rw [Bool.and_eq_true] at h1
  exact fok_nil (Nat.eq_of_beq_eq_true h1.1) (fcov2_ok h1.2 hs.1.2.2)
theorem cI_ok {p npc a1 a2 : Nat} (hcs : ∀ p, ∀ c ∈ cs p, CtOK c) (hlv : lv ≤ 1) (hg : GOK g) (hj : ∀ t S ls st H, Jt t S = true → sok lv md g H0 ls0 S ls st H → J t ls st H) (hk : ∀ S ls st H, k S = true → sok lv md g H0 ls0 S ls st H → k' ls st H) (hQ : ∀ r H, rok rt r → WT lv g H → frm md H0 H → (∀ f ∈ po, fok [] H f) → Q r H) (op : Nat) (h : cI cs Jt rt lv D md po p op npc a1 a2 S k = true) (hs : sok lv md g H0 ls0 S ls st H) : wI J Q (Ca G us D) p op npc a1 a2 ls st H k' := by
  match op, h with
  | 0, h =>
    obtain ⟨e, hm, he⟩ := lfind_ok h
    rw [Bool.and_eq_true] at he
    obtain ⟨v, h1, h2⟩ := hs.1.1 _ hm
    obtain ⟨t1, ev⟩ := tag_v he.1 h2
    have h4 : eok ls0 ls H e (2, v.2) := by rw [← ev]; exact h2
    have h3 := (eok_ref t1 h4).1
    exact ⟨v.2, by rw [← ev]; exact h1, by omega, hk _ _ _ _ he.2 (push_ok (ePl_ok h4.1) hs)⟩
  | 1, h =>
    obtain ⟨e, hm, he⟩ := lfind_ok h
    rw [Bool.and_eq_true] at he
    obtain ⟨v, h1, h2⟩ := hs.1.1 _ hm
    obtain ⟨t1, ev⟩ := tag_v he.1 h2
    have h4 : eok ls0 ls H e (0, v.2) := by rw [← ev]; exact h2
    have h5 : pget ls a1 = some (0, v.2) := by rw [← ev]; exact h1
    exact ⟨v.2, h5, hk _ _ _ _ he.2 (push_ok ⟨h4.1, fun _ => ⟨rfl, h5⟩, h4.2.2⟩ hs)⟩
  | 2, h =>
    obtain ⟨e, hm, he⟩ := lfind_ok h
    rw [Bool.and_eq_true] at he
    obtain ⟨v, h1, h2⟩ := hs.1.1 _ hm
    obtain ⟨t1, ev⟩ := tag_v he.1 h2
    have h4 : eok ls0 ls H e (1, v.2) := by rw [← ev]; exact h2
    exact ⟨v.2, by rw [← ev]; exact h1, hk _ _ _ _ he.2 (push_ok (ePl_ok h4.1) hs)⟩
  | 3, h =>
    simp only [cI] at h
    obtain ⟨e, v, S1, st1, rfl, h1, h2, h3⟩ := p1_ok h hs
    rw [Bool.and_eq_true] at h1
    obtain ⟨tx, ev⟩ := tag_v h1.1 h2
    rw [ev] at h2 ⊢
    exact ⟨rfl, hk _ _ _ _ h1.2 (set_ok ⟨h2.1, fun q => (q rfl).elim, h2.2.2⟩ h3)⟩
  | 4, h =>
    simp only [cI] at h
    obtain ⟨e, v, S1, st1, rfl, h1, h2, h3⟩ := p1_ok h hs
    rw [Bool.and_eq_true] at h1
    obtain ⟨tx, ev⟩ := tag_v h1.1 h2
    rw [ev] at h2 ⊢
    have h5 : (0 : Int) ≤ v.2 := (eok_ref tx h2).1
    exact ⟨rfl, by show 0 ≤ v.2 + 1; omega, hk _ _ _ _ h1.2 (set_ok (ePl_ok h2.1) h3)⟩
  | 5, h =>
    simp only [cI] at h
    obtain ⟨e, v, S1, st1, rfl, h1, h2, h3⟩ := p1_ok h hs
    rw [Bool.and_eq_true] at h1
    obtain ⟨tx, ev⟩ := tag_v h1.1 h2
    rw [ev] at h2 ⊢
    exact ⟨rfl, hk _ _ _ _ h1.2 (set_ok (ePl_ok h2.1) h3)⟩
  | 6, h =>
    obtain ⟨e, hm, he⟩ := lfind_ok h
    rw [Bool.and_eq_true, Bool.and_eq_true] at he
    obtain ⟨v, h1, h2⟩ := hs.1.1 _ hm
    obtain ⟨t1, ev⟩ := tag_v he.1.1 h2
    have h4 : eok ls0 ls H e (0, v.2) := by rw [← ev]; exact h2
    have h5 : pget ls a1 = some (0, v.2) := by rw [← ev]; exact h1
    have h6 : a2 < 4294967296 := Nat.blt_eq.mp he.1.2
    refine ⟨v.2, h5, ?_⟩
    have h7 := he.2
    cases hb : inr (e.1.2.1 + sgn a2) (e.1.2.2.1 + sgn a2) with
    | true =>
      rw [hb] at h7
      exact hk _ _ _ _ h7 (set_ok (iinc_ok h6 h4 t1 hb) hs)
    | false =>
      rw [hb] at h7
      exact hk _ _ _ _ h7 (set_ok (ePl_ok (aval_top (zw_in _))) hs)
  | 7, h => exact kc_ok h hs hk
  | 8, h => exact kc_ok h hs hk
  | 9, h => exact kc_ok h hs hk
  | 10, h => exact kc_ok h hs hk
  | 11, h => exact kc_ok h hs hk
  | 12, h =>
    rw [show cI cs Jt rt lv D md po p 12 npc a1 a2 S k = (Nat.blt a1 18446744073709551616 && k (push (ePl (bif Nat.beq a1 0 then (1, 2, 0, 0) else (1, 0, 0, 0))) S)) from rfl, Bool.and_eq_true] at h
    have h1 : a1 < 18446744073709551616 := Nat.blt_eq.mp h.1
    refine ⟨by omega, hk _ _ _ _ h.2 (push_ok (ePl_ok ?_) hs)⟩
    cases hb : Nat.beq a1 0 with
    | true =>
      rw [Nat.eq_of_beq_eq_true hb]
      exact ⟨rfl, fun q => (by cases q), fun _ => Or.inr ⟨MK_0, fun _ => ⟨rfl, by decide⟩⟩, fun q => (by cases q)⟩
    | false => exact ⟨rfl, fun q => (by cases q), fun _ => Or.inl rfl, fun q => (by cases q)⟩
  | 13, h =>
    rw [show cI cs Jt rt lv D md po p 13 npc a1 a2 S k = (Nat.blt a1 18446744073709551616 && k (push (ePl (bif Nat.beq a1 0 then (1, 2, 0, 0) else (1, 0, 0, 0))) S)) from rfl, Bool.and_eq_true] at h
    have h1 : a1 < 18446744073709551616 := Nat.blt_eq.mp h.1
    refine ⟨by omega, hk _ _ _ _ h.2 (push_ok (ePl_ok ?_) hs)⟩
    cases hb : Nat.beq a1 0 with
    | true =>
      rw [Nat.eq_of_beq_eq_true hb]
      exact ⟨rfl, fun q => (by cases q), fun _ => Or.inr ⟨MK_0, fun _ => ⟨rfl, by decide⟩⟩, fun q => (by cases q)⟩
    | false => exact ⟨rfl, fun q => (by cases q), fun _ => Or.inl rfl, fun q => (by cases q)⟩
  | 14, h =>
    obtain ⟨ex, ey, x, y, S1, st1, rfl, h1, hx, hy, h3⟩ := i2_ok h hs
    exact ⟨rfl, rfl, hk _ _ _ _ h1 (push_ok (ePl_ok (vadd_ok (eok_int hx.2 hx.1) (eok_int hy.2 hy.1))) h3)⟩
  | 15, h =>
    obtain ⟨ex, ey, x, y, S1, st1, rfl, h1, hx, hy, h3⟩ := i2_ok h hs
    exact ⟨rfl, rfl, hk _ _ _ _ h1 (push_ok (ePl_ok (vsub_ok (eok_int hx.2 hx.1) (eok_int hy.2 hy.1))) h3)⟩
  | 16, h =>
    obtain ⟨ex, ey, x, y, S1, st1, rfl, h1, hx, hy, h3⟩ := i2_ok h hs
    exact ⟨rfl, rfl, hk _ _ _ _ h1 (push_ok (ePl_ok (vmul_ok (eok_int hx.2 hx.1) (eok_int hy.2 hy.1))) h3)⟩
  | 17, h =>
    obtain ⟨ex, ey, x, y, S1, st1, rfl, h1, hx, hy, h3⟩ := i2_ok h hs
    rw [Bool.and_eq_true] at h1
    exact ⟨rfl, rfl, no0_ok h1.1 (eok_int hy.2 hy.1), hk _ _ _ _ h1.2 (push_ok (ePl_ok (vdiv_ok (eok_int hx.2 hx.1) (eok_int hy.2 hy.1))) h3)⟩
  | 18, h =>
    obtain ⟨ex, ey, x, y, S1, st1, rfl, h1, hx, hy, h3⟩ := i2_ok h hs
    rw [Bool.and_eq_true] at h1
    exact ⟨rfl, rfl, no0_ok h1.1 (eok_int hy.2 hy.1), hk _ _ _ _ h1.2 (push_ok (ePl_ok (vrem_ok (eok_int hx.2 hx.1) (eok_int hy.2 hy.1))) h3)⟩
  | 19, h =>
    obtain ⟨ex, ey, x, y, S1, st1, rfl, h1, hx, hy, h3⟩ := i2_ok h hs
    exact ⟨rfl, rfl, hk _ _ _ _ h1 (push_ok (ePl_ok (vand_ok (eok_int hx.2 hx.1) (eok_int hy.2 hy.1))) h3)⟩
  | 20, h =>
    obtain ⟨ex, ey, x, y, S1, st1, rfl, h1, hx, hy, h3⟩ := i2_ok h hs
    exact ⟨rfl, rfl, hk _ _ _ _ h1 (push_ok (ePl_ok (aval_top (q2_in _ _ _))) h3)⟩
  | 21, h =>
    obtain ⟨ex, ey, x, y, S1, st1, rfl, h1, hx, hy, h3⟩ := i2_ok h hs
    exact ⟨rfl, rfl, hk _ _ _ _ h1 (push_ok (ePl_ok (aval_top (q2_in _ _ _))) h3)⟩
  | 23, h =>
    obtain ⟨ex, ey, x, y, S1, st1, rfl, h1, hx, hy, h3⟩ := i2_ok h hs
    exact ⟨rfl, rfl, hk _ _ _ _ h1 (push_ok (ePl_ok (aval_top (q2_in _ _ _))) h3)⟩
  | 24, h =>
    obtain ⟨ex, ey, x, y, S1, st1, rfl, h1, hx, hy, h3⟩ := i2_ok h hs
    exact ⟨rfl, rfl, hk _ _ _ _ h1 (push_ok (ePl_ok (aval_top (q2_in _ _ _))) h3)⟩
  | 22, h =>
    obtain ⟨ex, ey, x, y, S1, st1, rfl, h1, hx, hy, h3⟩ := i2_ok h hs
    exact ⟨rfl, rfl, hk _ _ _ _ h1 (push_ok (ePl_ok (vshl_ok (eok_int hx.2 hx.1) (eok_int hy.2 hy.1))) h3)⟩
  | 25, h =>
    simp only [cI] at h
    obtain ⟨e, v, S1, st1, rfl, h1, h2, h3⟩ := p1_ok h hs
    rw [Bool.and_eq_true] at h1
    obtain ⟨tx, ev⟩ := tag_v h1.1 h2
    rw [ev]
    exact ⟨rfl, hk _ _ _ _ h1.2 (push_ok (ePl_ok (aval_top (q1_in _ _))) h3)⟩
  | 26, h =>
    simp only [cI] at h
    obtain ⟨e, v, S1, st1, rfl, h1, h2, h3⟩ := p1_ok h hs
    rw [Bool.and_eq_true] at h1
    obtain ⟨tx, ev⟩ := tag_v h1.1 h2
    rw [ev]
    exact ⟨rfl, hk _ _ _ _ h1.2 (push_ok (ePl_ok (aval_top (q1_in _ _))) h3)⟩
  | 27, h =>
    simp only [cI] at h
    obtain ⟨e, v, S1, st1, rfl, h1, h2, h3⟩ := p1_ok h hs
    rw [Bool.and_eq_true] at h1
    obtain ⟨tx, ev⟩ := tag_v h1.1 h2
    rw [ev]
    exact ⟨rfl, hk _ _ _ _ h1.2 (push_ok (ePl_ok ⟨rfl, fun q => (by cases q), fun _ => Or.inl rfl, fun q => (by cases q)⟩) h3)⟩
  | 32, h =>
    simp only [cI] at h
    obtain ⟨e, v, S1, st1, rfl, h1, h2, h3⟩ := p1_ok h hs
    rw [Bool.and_eq_true] at h1
    obtain ⟨tx, ev⟩ := tag_v h1.1 h2
    obtain ⟨e', w, S2, st2, rfl, h4, h5, h6⟩ := p1_ok h1.2 h3
    rw [Bool.and_eq_true] at h4
    obtain ⟨ty, ew⟩ := tag_v h4.1 h5
    rw [ev, ew]
    exact ⟨rfl, rfl, hk _ _ _ _ h4.2 (push_ok (ePl_ok (aval_top (qlcmp_in _ _))) h6)⟩
  | 33, h =>
    simp only [cI] at h
    obtain ⟨e, v, S1, st1, rfl, h1, h2, h3⟩ := p1_ok h hs
    rw [Bool.and_eq_true] at h1
    exact ⟨tag_n h1.1 h2, hk _ _ _ _ h1.2 (push_ok h2 (push_ok h2 h3))⟩
  | 34, h =>
    simp only [cI] at h
    obtain ⟨e, v, S1, st1, rfl, h1, h2, h3⟩ := p1_ok h hs
    obtain ⟨e', w, S2, st2, rfl, h4, h5, h6⟩ := p1_ok h1 h3
    rw [Bool.and_eq_true, Bool.and_eq_true] at h4
    exact ⟨tag_n h4.1.1 h5, tag_n h4.1.2 h2, hk _ _ _ _ h4.2 (push_ok h2 (push_ok h5 (push_ok h2 (push_ok h5 h6))))⟩
  | 35, h =>
    simp only [cI] at h
    obtain ⟨e, v, S1, st1, rfl, h1, h2, h3⟩ := p1_ok h hs
    rw [Bool.and_eq_true] at h1
    exact ⟨tag_n h1.1 h2, hk _ _ _ _ h1.2 h3⟩
  | 36, h =>
    rw [show cI cs Jt rt lv D md po p 36 npc a1 a2 S k = (!Nat.beq a1 npc && Jt a1 S) from rfl, Bool.and_eq_true] at h
    exact ⟨nbeq_f h.1, hj _ _ _ _ _ h.2 hs⟩
  | 37, h =>
    simp only [cI] at h
    obtain ⟨e, v, S1, st1, rfl, h1, h2, h3⟩ := p1_ok h hs
    simp only [Bool.and_eq_true] at h1
    obtain ⟨⟨⟨t1, n1⟩, b1⟩, b2⟩ := h1
    obtain ⟨tx, ev⟩ := tag_v t1 h2
    rw [ev] at h2 ⊢
    obtain ⟨q1, q2⟩ := br_ok b1 b2 h3 ⟨h2, tx⟩ ⟨ePl_ok (vk_ok 0), rfl⟩ hj hk
    exact ⟨rfl, nbeq_f n1, q1, fun z => q2 (by first | exact z | (show _ ≤ _; omega) | (show _ < _; omega) | (show _ = _; omega))⟩
  | 38, h =>
    simp only [cI] at h
    obtain ⟨e, v, S1, st1, rfl, h1, h2, h3⟩ := p1_ok h hs
    simp only [Bool.and_eq_true] at h1
    obtain ⟨⟨⟨t1, n1⟩, b1⟩, b2⟩ := h1
    obtain ⟨tx, ev⟩ := tag_v t1 h2
    rw [ev] at h2 ⊢
    obtain ⟨q1, q2⟩ := br_ok b1 b2 h3 ⟨h2, tx⟩ ⟨ePl_ok (vk_ok 0), rfl⟩ hj hk
    exact ⟨rfl, nbeq_f n1, q1, fun z => q2 (by first | exact z | (show _ ≤ _; omega) | (show _ < _; omega) | (show _ = _; omega))⟩
  | 39, h =>
    simp only [cI] at h
    obtain ⟨e, v, S1, st1, rfl, h1, h2, h3⟩ := p1_ok h hs
    simp only [Bool.and_eq_true] at h1
    obtain ⟨⟨⟨t1, n1⟩, b1⟩, b2⟩ := h1
    obtain ⟨tx, ev⟩ := tag_v t1 h2
    rw [ev] at h2 ⊢
    obtain ⟨q1, q2⟩ := br_ok b1 b2 h3 ⟨h2, tx⟩ ⟨ePl_ok (vk_ok 0), rfl⟩ hj hk
    exact ⟨rfl, nbeq_f n1, q1, fun z => q2 (by first | exact z | (show _ ≤ _; omega) | (show _ < _; omega) | (show _ = _; omega))⟩
  | 40, h =>
    simp only [cI] at h
    obtain ⟨e, v, S1, st1, rfl, h1, h2, h3⟩ := p1_ok h hs
    simp only [Bool.and_eq_true] at h1
    obtain ⟨⟨⟨t1, n1⟩, b1⟩, b2⟩ := h1
    obtain ⟨tx, ev⟩ := tag_v t1 h2
    rw [ev] at h2 ⊢
    obtain ⟨q1, q2⟩ := br_ok b1 b2 h3 ⟨h2, tx⟩ ⟨ePl_ok (vk_ok 0), rfl⟩ hj hk
    exact ⟨rfl, nbeq_f n1, q1, fun z => q2 (by first | exact z | (show _ ≤ _; omega) | (show _ < _; omega) | (show _ = _; omega))⟩
  | 41, h =>
    simp only [cI] at h
    obtain ⟨e, v, S1, st1, rfl, h1, h2, h3⟩ := p1_ok h hs
    simp only [Bool.and_eq_true] at h1
    obtain ⟨⟨⟨t1, n1⟩, b1⟩, b2⟩ := h1
    obtain ⟨tx, ev⟩ := tag_v t1 h2
    rw [ev] at h2 ⊢
    obtain ⟨q1, q2⟩ := br_ok b1 b2 h3 ⟨h2, tx⟩ ⟨ePl_ok (vk_ok 0), rfl⟩ hj hk
    exact ⟨rfl, nbeq_f n1, q1, fun z => q2 (by first | exact z | (show _ ≤ _; omega) | (show _ < _; omega) | (show _ = _; omega))⟩
  | 42, h =>
    simp only [cI] at h
    obtain ⟨e, v, S1, st1, rfl, h1, h2, h3⟩ := p1_ok h hs
    simp only [Bool.and_eq_true] at h1
    obtain ⟨⟨⟨t1, n1⟩, b1⟩, b2⟩ := h1
    obtain ⟨tx, ev⟩ := tag_v t1 h2
    rw [ev] at h2 ⊢
    obtain ⟨q1, q2⟩ := br_ok b1 b2 h3 ⟨h2, tx⟩ ⟨ePl_ok (vk_ok 0), rfl⟩ hj hk
    exact ⟨rfl, nbeq_f n1, q1, fun z => q2 (by first | exact z | (show _ ≤ _; omega) | (show _ < _; omega) | (show _ = _; omega))⟩
  | 43, h =>
    obtain ⟨ex, ey, x, y, S1, st1, rfl, h1, hx, hy, h3⟩ := i2_ok h hs
    simp only [Bool.and_eq_true] at h1
    obtain ⟨⟨n1, b1⟩, b2⟩ := h1
    obtain ⟨q1, q2⟩ := br_ok b1 b2 h3 hx hy hj hk
    exact ⟨rfl, rfl, nbeq_f n1, q1, fun z => q2 (by first | exact z | (show _ ≤ _; omega) | (show _ < _; omega) | (show _ = _; omega))⟩
  | 44, h =>
    obtain ⟨ex, ey, x, y, S1, st1, rfl, h1, hx, hy, h3⟩ := i2_ok h hs
    simp only [Bool.and_eq_true] at h1
    obtain ⟨⟨n1, b1⟩, b2⟩ := h1
    obtain ⟨q1, q2⟩ := br_ok b1 b2 h3 hx hy hj hk
    exact ⟨rfl, rfl, nbeq_f n1, q1, fun z => q2 (by first | exact z | (show _ ≤ _; omega) | (show _ < _; omega) | (show _ = _; omega))⟩
  | 45, h =>
    obtain ⟨ex, ey, x, y, S1, st1, rfl, h1, hx, hy, h3⟩ := i2_ok h hs
    simp only [Bool.and_eq_true] at h1
    obtain ⟨⟨n1, b1⟩, b2⟩ := h1
    obtain ⟨q1, q2⟩ := br_ok b1 b2 h3 hx hy hj hk
    exact ⟨rfl, rfl, nbeq_f n1, q1, fun z => q2 (by first | exact z | (show _ ≤ _; omega) | (show _ < _; omega) | (show _ = _; omega))⟩
  | 46, h =>
    obtain ⟨ex, ey, x, y, S1, st1, rfl, h1, hx, hy, h3⟩ := i2_ok h hs
    simp only [Bool.and_eq_true] at h1
    obtain ⟨⟨n1, b1⟩, b2⟩ := h1
    obtain ⟨q1, q2⟩ := br_ok b1 b2 h3 hx hy hj hk
    exact ⟨rfl, rfl, nbeq_f n1, q1, fun z => q2 (by first | exact z | (show _ ≤ _; omega) | (show _ < _; omega) | (show _ = _; omega))⟩
  | 47, h =>
    obtain ⟨ex, ey, x, y, S1, st1, rfl, h1, hx, hy, h3⟩ := i2_ok h hs
    simp only [Bool.and_eq_true] at h1
    obtain ⟨⟨n1, b1⟩, b2⟩ := h1
    obtain ⟨q1, q2⟩ := br_ok b1 b2 h3 hx hy hj hk
    exact ⟨rfl, rfl, nbeq_f n1, q1, fun z => q2 (by first | exact z | (show _ ≤ _; omega) | (show _ < _; omega) | (show _ = _; omega))⟩
  | 48, h =>
    obtain ⟨ex, ey, x, y, S1, st1, rfl, h1, hx, hy, h3⟩ := i2_ok h hs
    simp only [Bool.and_eq_true] at h1
    obtain ⟨⟨n1, b1⟩, b2⟩ := h1
    obtain ⟨q1, q2⟩ := br_ok b1 b2 h3 hx hy hj hk
    exact ⟨rfl, rfl, nbeq_f n1, q1, fun z => q2 (by first | exact z | (show _ ≤ _; omega) | (show _ < _; omega) | (show _ = _; omega))⟩
  | 49, h =>
    simp only [cI] at h
    obtain ⟨e, v, S1, st1, rfl, h1, h2, h3⟩ := p1_ok h hs
    simp only [Bool.and_eq_true] at h1
    obtain ⟨⟨⟨⟨⟨t1, e1⟩, e2⟩, e3⟩, e4⟩, e5⟩ := h1
    obtain ⟨tx, ev⟩ := tag_v t1 h2
    rw [ev] at h2 ⊢
    obtain ⟨n, ec, hn, ht, hk1, hk2, hk3⟩ := ref_cell tx h2
    have e1 : (tsh e.1.2.2.2).1 = a1 := Nat.eq_of_beq_eq_true e1
    have e2 : a1 < 13 := Nat.blt_eq.mp e2
    have e3 : a2 < (tsh e.1.2.2.2).2.1 := Nat.blt_eq.mp e3
    have e4 : ztg a1 a2 = (fty e.1.2.2.2 a2).1 := Nat.eq_of_beq_eq_true e4
    have hg1 := WT_get h3.2.1 hn (i := a2) (by rw [hk2]; exact e3)
    rw [ht] at hg1
    have en : ((n : Int)).toNat = n := by omega
    rw [ec]
    refine ⟨rfl, ⟨by omega, by rw [zNC_eq]; omega⟩, by rw [en, hk1]; exact e1, by unfold zrow; omega, by rw [en, hk2]; exact e3, ?_⟩
    rw [e4]
    cases hb : Nat.beq (ztg a1 a2) 0 with
    | true =>
      rw [hb] at e5
      have h0 : (fty e.1.2.2.2 a2).1 = 0 := e4.symm.trans (Nat.eq_of_beq_eq_true hb)
      refine hk _ _ _ _ e5 (push_ok ⟨ovq_ok (orgF_ok hk3) h3.1.2.2 hg1 rfl, fun q => ⟨h0, orgF_ok hk3 q⟩, fun v q => (by cases q), fun _ f q => (by cases q)⟩ h3)
    | false =>
      rw [hb] at e5
      exact hk _ _ _ _ e5 (push_ok (ePl_ok hg1) h3)
  | 50, h =>
    simp only [cI] at h
    obtain ⟨ev0, v, S0, st0, rfl, h0, g2, g3⟩ := p1_ok h hs
    obtain ⟨e, w, S1, st1, rfl, h1, h2, h3⟩ := p1_ok h0 g3
    simp only [Bool.and_eq_true] at h1
    obtain ⟨⟨⟨⟨⟨⟨⟨⟨⟨⟨t1, e1⟩, e2⟩, e3⟩, e4⟩, e5⟩, e6⟩, e7⟩, e8⟩, e9⟩, e10⟩ := h1
    obtain ⟨tx, ev⟩ := tag_v t1 h2
    rw [ev] at h2 ⊢
    obtain ⟨n, ec, hn, ht, hk1, hk2, hk3⟩ := ref_cell tx h2
    have en : ((n : Int)).toNat = n := by omega
    have e1 : (tsh e.1.2.2.2).1 = a1 := Nat.eq_of_beq_eq_true e1
    have e2 : a1 < 13 := Nat.blt_eq.mp e2
    have e3 : a2 % 64 < (tsh e.1.2.2.2).2.1 := Nat.blt_eq.mp e3
    have e4 : ztg a1 (a2 % 64) = ev0.1.1 := Nat.eq_of_beq_eq_true e4
    have hv1 : v.1 = ev0.1.1 := g2.1.1
    have hkk : (zSh n).1 = a1 := hk1.trans e1
    have hz : zrt n (a2 % 64) = none := by
      rw [Bool.or_eq_true] at e5
      rcases e5 with q | q
      · exact zrt_num hn (by rw [hkk]; omega) (by rw [hkk]; exact nbeq_f q)
      · exact (tau_ok hn).2.2.2.1 _ (by rw [ht]; exact q)
    have hty : aval (fty (tau n) (a2 % 64)) ((fty (tau n) (a2 % 64)).1, v.2) := by
      rw [ht]
      have q := vsub'_ok e7 g2.1
      have q2 : (fty e.1.2.2.2 (a2 % 64)).1 = v.1 := q.1.symm
      rw [q2]
      exact q
    have hfz : fz lv (tau n) (a2 % 64) = false := by rw [ht]; rw [Bool.not_eq_true'] at e8; exact e8
    have hst := store_ok (lo := ((a2 % 64 : Nat) : Int)) (hi := ((a2 % 64 : Nat) : Int)) h3 (by rw [ht]; exact e9) hz (Int.le_refl _) (Int.le_refl _) hty hfz
    rw [ht] at hst
    rw [ec]
    refine ⟨rfl, ⟨by omega, by rw [zNC_eq]; omega⟩, by rw [en, hkk], by unfold zrow; omega, by rw [en, hk2]; exact e3, by rw [hv1, e4], ⟨by omega, ?_⟩, fun _ => fitc_ok e6 g2.1, ?_⟩
    · rw [en]
      exact Or.inr hz
    · cases hb : tag ev0 0 with
      | false =>
        rw [hb] at e10
        exact hk _ _ _ _ e10 hst
      | true =>
        rw [hb] at e10
        refine hk _ _ _ _ e10 ?_
        have hb0 : ev0.1.1 = 0 := Nat.eq_of_beq_eq_true hb
        unfold learn
        cases hc : Nat.beq (orgF e.1.2.2.2 (a2 % 64)).1 2 with
        | false => exact hst
        | true =>
          refine ⟨⟨hst.1.1, hst.1.2.1, ?_⟩, hst.2⟩
          intro f hf
          rcases List.mem_cons.mp hf with rfl | hf
          · intro x hx
            have hx : oval ls (pup H n ((a2 % 64 : Nat) : Int) v.2) (orgF e.1.2.2.2 (a2 % 64)) x := hx
            have h8 := orgF_ok (ls := ls) (H := pup H n ((a2 % 64 : Nat) : Int) v.2) (i := a2 % 64) hk3 (by rw [Nat.eq_of_beq_eq_true hc]; decide)
            have h9 := oval_fun hx h8
            rw [gv_pup (by rw [Int.toNat_natCast, Int.toNat_natCast]; exact hz), if_pos ⟨rfl, rfl⟩] at h9
            have h10 := (aval_int g2.1 hb0).2
            rw [h9]
            exact ⟨h10.1, h10.2.1⟩
          · exact hst.1.2.2 f hf
  | 51, h =>
    simp only [cI] at h
    obtain ⟨ei, vi, S0, st0, rfl, h0, g2, g3⟩ := p1_ok h hs
    rw [Bool.and_eq_true] at h0
    obtain ⟨ti, evi⟩ := tag_v h0.1 g2
    obtain ⟨e, w, S1, st1, rfl, h1, h2, h3⟩ := p1_ok h0.2 g3
    simp only [Bool.and_eq_true] at h1
    obtain ⟨⟨⟨⟨⟨t1, e1⟩, e2⟩, e3⟩, e4⟩, e5⟩ := h1
    obtain ⟨tx, ev⟩ := tag_v t1 h2
    rw [evi] at g2
    rw [ev] at h2
    rw [evi, ev]
    obtain ⟨n, ec, hn, ht, hk1, hk2, hk3⟩ := ref_cell tx h2
    have en : ((n : Int)).toNat = n := by omega
    have e1 : (tsh e.1.2.2.2).1 = 16 := Nat.eq_of_beq_eq_true e1
    have hkk : (zSh n).1 = 16 := hk1.trans e1
    have hvi := eok_int ti g2
    obtain ⟨i0, i1⟩ := inb_ok e2 hvi
    have e4 : (eget e.1.2.2.2 ei.1).1 = 0 := Nat.eq_of_beq_eq_true e4
    have hgv : gv H n vi.2 = H n vi.2 := gv_none (by rw [en]; exact zrt_row hn (by rw [hkk]; omega))
    have hget := eget_ok e3 hvi i0 hn ht (by rw [hk2]; omega) h3.2.1 e4
    rw [ec]
    refine ⟨rfl, rfl, ⟨by omega, by rw [zNC_eq]; omega⟩, by rw [en, hkk], ⟨i0, by rw [en, hk2]; exact i1⟩, ?_⟩
    rw [← hgv]
    exact hk _ _ _ _ e5 (push_ok ⟨ovq_ok (orgA_ok hk3 g2 ti i0) h3.1.2.2 hget rfl, fun q => ⟨rfl, orgA_ok hk3 g2 ti i0 q⟩, fun v q => (by cases q), fun _ f q => (by cases q)⟩ h3)
  | 52, h =>
    simp only [cI] at h
    obtain ⟨ev0, v, Sv, stv, rfl, hv0, gv2, gv3⟩ := p1_ok h hs
    rw [Bool.and_eq_true] at hv0
    obtain ⟨tv, evv⟩ := tag_v hv0.1 gv2
    obtain ⟨ei, vi, S0, st0, rfl, h0, g2, g3⟩ := p1_ok hv0.2 gv3
    rw [Bool.and_eq_true] at h0
    obtain ⟨ti, evi⟩ := tag_v h0.1 g2
    obtain ⟨e, w, S1, st1, rfl, h1, h2, h3⟩ := p1_ok h0.2 g3
    simp only [Bool.and_eq_true] at h1
    obtain ⟨⟨⟨⟨⟨t1, e1⟩, e2⟩, e3⟩, e4⟩, e5⟩ := h1
    obtain ⟨tx, ev⟩ := tag_v t1 h2
    rw [evv] at gv2
    rw [evi] at g2
    rw [ev] at h2
    rw [evv, evi, ev]
    obtain ⟨n, ec, hn, ht, hk1, hk2, hk3⟩ := ref_cell tx h2
    have en : ((n : Int)).toNat = n := by omega
    have e1 : (tsh e.1.2.2.2).1 = 16 := Nat.eq_of_beq_eq_true e1
    have hkk : (zSh n).1 = 16 := hk1.trans e1
    have hvi := eok_int ti g2
    obtain ⟨i0, i1⟩ := inb_ok e2 hvi
    obtain ⟨p1, p2⟩ := eput_ok (n := n) e3 hvi i0 ht gv2.1
    have ei2 : ((vi.2.toNat : Nat) : Int) = vi.2 := by omega
    have hst := store_ok (lo := ei.1.2.1) (hi := ei.1.2.2.1) h3 (by rw [ht]; first | exact inmd_T e4 _ | (rw [← e1]; exact inmd_T e4 _)) (i := vi.2.toNat) (zrt_row hn (by rw [hkk]; omega)) (by rw [ei2]; exact hvi.1) (by rw [ei2]; exact hvi.2.1) p1 p2
    rw [ht, ei2] at hst
    rw [ec]
    refine ⟨rfl, rfl, rfl, ⟨by omega, by rw [zNC_eq]; omega⟩, by rw [en, hkk], ⟨i0, by rw [en, hk2]; exact i1⟩, hk _ _ _ _ e5 ?_⟩
    unfold learn
    cases hc : Nat.beq (orgA e.1.2.2.2 ei).1 2 with
    | false => exact hst
    | true =>
      refine ⟨⟨hst.1.1, hst.1.2.1, ?_⟩, hst.2⟩
      intro f hf
      rcases List.mem_cons.mp hf with rfl | hf
      · intro x hx
        have hx : oval ls (pup H n vi.2 v.2) (orgA e.1.2.2.2 ei) x := hx
        have h8 : oval ls (pup H n vi.2 v.2) (orgA e.1.2.2.2 ei) (gv (pup H n vi.2 v.2) n vi.2) := orgA_ok2 hk3 hvi i0 (Nat.eq_of_beq_eq_true hc)
        have h9 := oval_fun hx h8
        rw [gv_pup (by rw [Int.toNat_natCast]; exact zrt_row hn (by rw [hkk]; omega)), if_pos ⟨rfl, rfl⟩] at h9
        have h10 := (aval_int gv2.1 tv).2
        rw [h9]
        exact ⟨h10.1, h10.2.1⟩
      · exact hst.1.2.2 f hf
  | 53, h =>
    simp only [cI] at h
    obtain ⟨ei, vi, S0, st0, rfl, h0, g2, g3⟩ := p1_ok h hs
    rw [Bool.and_eq_true] at h0
    obtain ⟨ti, evi⟩ := tag_v h0.1 g2
    obtain ⟨e, w, S1, st1, rfl, h1, h2, h3⟩ := p1_ok h0.2 g3
    simp only [Bool.and_eq_true] at h1
    obtain ⟨⟨⟨⟨⟨t1, e1⟩, e2⟩, e3⟩, e4⟩, e5⟩ := h1
    obtain ⟨tx, ev⟩ := tag_v t1 h2
    rw [evi] at g2
    rw [ev] at h2
    rw [evi, ev]
    obtain ⟨n, ec, hn, ht, hk1, hk2, hk3⟩ := ref_cell tx h2
    have en : ((n : Int)).toNat = n := by omega
    have e1 := Nat.le_of_ble_eq_true e1
    have e2 := Nat.le_of_ble_eq_true e2
    have hvi := eok_int ti g2
    obtain ⟨i0, i1⟩ := inb_ok e3 hvi
    have e4 : (fty e.1.2.2.2 0).1 = 2 := Nat.eq_of_beq_eq_true e4
    have ei2 : ((vi.2.toNat : Nat) : Int) = vi.2 := by omega
    have hgt := WT_get h3.2.1 hn (i := vi.2.toNat) (by rw [hk2]; omega)
    rw [ht, fty_row e2, e4, ei2] at hgt
    have hgt0 : (0 : Int) ≤ gv H n vi.2 := (hgt.2.2.2 e4).1
    rw [ec]
    exact ⟨rfl, rfl, ⟨by omega, by rw [zNC_eq]; omega⟩, by rw [en, hk1]; exact e1, ⟨i0, by rw [en, hk2]; exact i1⟩, by show 0 ≤ gv H n vi.2 + 1; omega, hk _ _ _ _ e5 (push_ok (ePl_ok hgt) h3)⟩
  | 54, h =>
    simp only [cI] at h
    obtain ⟨e, v, S1, st1, rfl, h1, h2, h3⟩ := p1_ok h hs
    simp only [Bool.and_eq_true] at h1
    obtain ⟨⟨t1, e1⟩, e5⟩ := h1
    obtain ⟨tx, ev⟩ := tag_v t1 h2
    rw [ev] at h2 ⊢
    obtain ⟨n, ec, hn, ht, hk1, hk2, hk3⟩ := ref_cell tx h2
    have en : ((n : Int)).toNat = n := by omega
    have e1 := Nat.le_of_ble_eq_true e1
    rw [ec]
    refine ⟨rfl, ⟨by omega, by rw [zNC_eq]; omega⟩, by rw [en, hk1]; exact e1, ?_⟩
    rw [en, hk2]
    exact hk _ _ _ _ e5 (push_ok (ePl_ok (vk_ok _)) h3)
  | 55, h =>
    obtain ⟨ex, ey, x, y, S1, st1, rfl, h1, hx, hy, h3⟩ := i2_ok h hs
    rw [Bool.and_eq_true] at h1
    exact ⟨rfl, rfl, by rw [← nlong_ok h3.1.2.1]; exact Nat.le_of_ble_eq_true h1.1, hk _ _ _ _ h1.2 (push_ok (ePl_ok (vmax_ok (eok_int hx.2 hx.1) (eok_int hy.2 hy.1))) h3)⟩
  | 56, h =>
    obtain ⟨ex, ey, x, y, S1, st1, rfl, h1, hx, hy, h3⟩ := i2_ok h hs
    rw [Bool.and_eq_true] at h1
    exact ⟨rfl, rfl, by rw [← nlong_ok h3.1.2.1]; exact Nat.le_of_ble_eq_true h1.1, hk _ _ _ _ h1.2 (push_ok (ePl_ok (vmin_ok (eok_int hx.2 hx.1) (eok_int hy.2 hy.1))) h3)⟩
  | 57, h =>
    simp only [cI] at h
    obtain ⟨ei, vi, S0, st0, rfl, h0, g2, g3⟩ := p1_ok h hs
    rw [Bool.and_eq_true] at h0
    obtain ⟨ti, evi⟩ := tag_v h0.1 g2
    obtain ⟨e, w, S1, st1, rfl, h1, h2, h3⟩ := p1_ok h0.2 g3
    simp only [Bool.and_eq_true] at h1
    obtain ⟨⟨⟨⟨⟨t1, e1⟩, e2⟩, e3⟩, e4⟩, e5⟩ := h1
    obtain ⟨tx, ev⟩ := tag_v t1 h2
    rw [evi] at g2
    rw [ev] at h2
    rw [evi, ev]
    obtain ⟨n, ec, hn, ht, hk1, hk2, hk3⟩ := ref_cell tx h2
    have en : ((n : Int)).toNat = n := by omega
    have hkk : (zSh n).1 = 17 ∨ (zSh n).1 = 18 := by
      rw [hk1]
      rw [Bool.or_eq_true] at e1
      exact e1.imp Nat.eq_of_beq_eq_true Nat.eq_of_beq_eq_true
    have e2 := Nat.le_of_ble_eq_true e2
    have hvi := eok_int ti g2
    obtain ⟨i0, i1⟩ := inb_ok e3 hvi
    have e4 : (fty e.1.2.2.2 0).1 = 0 := Nat.eq_of_beq_eq_true e4
    have ei2 : ((vi.2.toNat : Nat) : Int) = vi.2 := by omega
    have hgt := WT_get h3.2.1 hn (i := vi.2.toNat) (by rw [hk2]; omega)
    have hgv : gv H n vi.2 = H n vi.2 := gv_none (by rw [en]; exact zrt_row hn (by omega))
    rw [ht, fty_row e2, e4, ei2, hgv] at hgt
    rw [ec]
    exact ⟨rfl, rfl, ⟨by omega, by rw [zNC_eq]; omega⟩, by rw [en]; exact hkk, ⟨i0, by rw [en, hk2]; exact i1⟩, hk _ _ _ _ e5 (push_ok (ePl_ok hgt) h3)⟩
  | 58, h =>
    simp only [cI] at h
    obtain ⟨ev0, v, Sv, stv, rfl, hv0, gv2, gv3⟩ := p1_ok h hs
    rw [Bool.and_eq_true] at hv0
    obtain ⟨tv, evv⟩ := tag_v hv0.1 gv2
    obtain ⟨ei, vi, S0, st0, rfl, h0, g2, g3⟩ := p1_ok hv0.2 gv3
    rw [Bool.and_eq_true] at h0
    obtain ⟨ti, evi⟩ := tag_v h0.1 g2
    obtain ⟨e, w, S1, st1, rfl, h1, h2, h3⟩ := p1_ok h0.2 g3
    simp only [Bool.and_eq_true] at h1
    obtain ⟨⟨⟨⟨⟨⟨t1, e1⟩, e2⟩, e6⟩, e3⟩, e4⟩, e5⟩ := h1
    obtain ⟨tx, ev⟩ := tag_v t1 h2
    rw [evv] at gv2
    rw [evi] at g2
    rw [ev] at h2
    rw [evv, evi, ev]
    obtain ⟨n, ec, hn, ht, hk1, hk2, hk3⟩ := ref_cell tx h2
    have en : ((n : Int)).toNat = n := by omega
    have hkk : (zSh n).1 = 17 ∨ (zSh n).1 = 18 := by
      rw [hk1]
      rw [Bool.or_eq_true] at e1
      exact e1.imp Nat.eq_of_beq_eq_true Nat.eq_of_beq_eq_true
    have hvi := eok_int ti g2
    obtain ⟨i0, i1⟩ := inb_ok e2 hvi
    obtain ⟨p1, p2⟩ := eput_ok (n := n) e3 hvi i0 ht (x := qb (zSh n).1 v.2) (aval_top (by unfold qb; split <;> exact q1_in _ _))
    have ei2 : ((vi.2.toNat : Nat) : Int) = vi.2 := by omega
    have hst := store_ok (lo := ei.1.2.1) (hi := ei.1.2.2.1) h3 (by rw [ht]; first | exact inmd_T e4 _ | (rw [← e1]; exact inmd_T e4 _)) (i := vi.2.toNat) (zrt_row hn (by omega)) (by rw [ei2]; exact hvi.1) (by rw [ei2]; exact hvi.2.1) p1 p2
    rw [ht, ei2] at hst
    rw [ec]
    refine ⟨rfl, rfl, rfl, ⟨by omega, by rw [zNC_eq]; omega⟩, by rw [en]; exact hkk, ⟨i0, by rw [en, hk2]; exact i1⟩, ?_⟩
    rw [en]
    exact hk _ _ _ _ e5 hst
  | 59, h =>
    simp only [cI] at h
    obtain ⟨ev0, v, Sv, stv, rfl, hv0, gv2, gv3⟩ := p1_ok h hs
    rw [Bool.and_eq_true] at hv0
    obtain ⟨tv, evv⟩ := tag_v hv0.1 gv2
    obtain ⟨ei, vi, S0, st0, rfl, h0, g2, g3⟩ := p1_ok hv0.2 gv3
    rw [Bool.and_eq_true] at h0
    obtain ⟨ti, evi⟩ := tag_v h0.1 g2
    obtain ⟨e, w, S1, st1, rfl, h1, h2, h3⟩ := p1_ok h0.2 g3
    simp only [Bool.and_eq_true] at h1
    obtain ⟨⟨⟨⟨⟨t1, e1⟩, e2⟩, e3⟩, e4⟩, e5⟩ := h1
    obtain ⟨tx, ev⟩ := tag_v t1 h2
    rw [evv] at gv2
    rw [evi] at g2
    rw [ev] at h2
    rw [evv, evi, ev]
    obtain ⟨n, ec, hn, ht, hk1, hk2, hk3⟩ := ref_cell tx h2
    have en : ((n : Int)).toNat = n := by omega
    have e1 : e.1.2.2.2 = 37 := Nat.eq_of_beq_eq_true e1
    have e3 : ev0.1.2.2.2 = 5 := Nat.eq_of_beq_eq_true e3
    rw [e1] at ht hk1 hk2
    have hk1 : (zSh n).1 = 21 := hk1
    have hk2 : (zSh n).2.1 = 60 := hk2
    obtain ⟨m, em, hm, hmt, hm1, hm2, hm3⟩ := ref_cell tv gv2
    rw [e3] at hmt hm1
    have hm1 : (zSh m).1 = 5 := hm1
    have emn : ((m : Int)).toNat = m := by omega
    have hvi := eok_int ti g2
    obtain ⟨i0, i1⟩ := inb_ok e2 hvi
    have ei2 : ((vi.2.toNat : Nat) : Int) = vi.2 := by omega
    have hnil := (tau_ok hn).2.2.2.2 ht
    have p1 : aval (fty (tau n) vi.2.toNat) ((fty (tau n) vi.2.toNat).1, v.2) := by
      rw [ht, fty_row (by omega)]
      refine ⟨rfl, fun q => (by cases q), fun q => (by cases q), fun _ => ?_⟩
      show 0 ≤ v.2 ∧ v.2 < 622 ∧ tau v.2.toNat = 5
      rw [em, emn]
      exact ⟨by omega, by omega, hmt⟩
    have p2 : fz lv (tau n) vi.2.toNat = false := by
      rw [ht, fz_row (by omega)]
      unfold fz
      cases Nat.ble lv 1 <;> cases Nat.beq lv 0 <;> rfl
    have hst := store_ok (lo := ei.1.2.1) (hi := ei.1.2.2.1) h3 (by rw [ht]; first | exact inmd_T e4 _ | (rw [← e1]; exact inmd_T e4 _)) (i := vi.2.toNat) (zrt_nil hnil) (by rw [ei2]; exact hvi.1) (by rw [ei2]; exact hvi.2.1) p1 p2
    rw [ht, ei2] at hst
    rw [ec]
    refine ⟨rfl, rfl, rfl, ⟨by omega, by rw [zNC_eq]; omega⟩, by rw [en, hk1]; omega, ⟨i0, by rw [en, hk2]; exact i1⟩, ⟨by rw [em]; omega, by rw [em, zNC_eq]; omega⟩, ?_, by rw [en]; exact hnil, hk _ _ _ _ e5 hst⟩
    rw [em, emn, hm1, en, hk1]
    rfl
  | 66, h =>
    simp only [cI] at h
    obtain ⟨e, v, S1, st1, rfl, h1, h2, h3⟩ := p1_ok h hs
    simp only [Bool.and_eq_true] at h1
    obtain ⟨⟨⟨t1, e1⟩, e2⟩, e5⟩ := h1
    obtain ⟨tx, ev⟩ := tag_v t1 h2
    rw [ev] at h2 ⊢
    have hv := eok_int tx h2
    have e1 := inr_ok e1
    have v1 := hv.1
    have v2 := hv.2.1
    refine ⟨rfl, by rw [← nlong_ok h3.1.2.1]; exact Nat.le_of_ble_eq_true e2, hk _ _ _ _ e5 (push_ok (ePl_ok (aval_top ?_)) h3)⟩
    show zIn (if 0 ≤ v.2 then v.2 else zw (0 - v.2))
    split
    · exact ⟨by omega, by omega⟩
    · exact zw_in _
  | 60, h =>
    rw [show cI cs Jt rt lv D md po p 60 npc a1 a2 S k = (Nat.blt a1 511 && Nat.beq (a2 / 16) 0 && ccall cs lv D md p a1 a2 S k) from rfl, Bool.and_eq_true, Bool.and_eq_true] at h
    have h1 : a1 < 511 := Nat.blt_eq.mp h.1.1
    exact ⟨by omega, Nat.eq_of_beq_eq_true h.1.2, call_ok h.2 hcs hlv hg hs hk⟩
  | 61, h =>
    simp only [cI, Bool.and_eq_true] at h
    obtain ⟨⟨⟨e1, e2⟩, e3⟩, e4⟩ := h
    have h1 : a1 < 511 := Nat.blt_eq.mp e1
    obtain ⟨q1, q2, q3⟩ := call_ok (G := G) (us := us) e4 hcs hlv hg hs hk
    refine ⟨by omega, q1, Nat.le_of_ble_eq_true e2, q2, ?_⟩
    have hrev := all2_reverse (all2_take (a2 % 16) hs.1.2.1)
    split at e3
    · rename_i e r her
      rw [her] at hrev
      rw [Bool.and_eq_true] at e3
      cases hl : (st.take (a2 % 16)).reverse with
      | nil => rw [hl] at hrev; exact hrev.elim
      | cons v t =>
        rw [hl] at hrev q3
        obtain ⟨tx, ev⟩ := tag_v e3.1 hrev.1
        have h2 := hrev.1
        rw [ev] at h2 q3 ⊢
        obtain ⟨n, ec, hn, ht, hk1, hk2, hk3⟩ := ref_cell tx h2
        have en : ((n : Int)).toNat = n := by omega
        refine ⟨rfl, ⟨by rw [ec]; omega, by rw [ec, zNC_eq]; omega⟩, ?_, q3⟩
        show (zSh v.2.toNat).1 + 1 = a2 / 16
        rw [ec, en, hk1]
        exact Nat.eq_of_beq_eq_true e3.2
    · cases e3
  | 62, h =>
    simp only [cI] at h
    obtain ⟨e, v, S1, st1, rfl, h1, h2, h3⟩ := p1_ok h hs
    simp only [Bool.and_eq_true] at h1
    obtain ⟨⟨⟨⟨t1, e1⟩, epo⟩, e2⟩, e5⟩ := h1
    obtain ⟨tx, ev⟩ := tag_v t1 h2
    rw [ev] at h2 ⊢
    have hn : st1 = [] := by
      have := all2_len h3.1.2.1
      rw [List.isEmpty_iff.mp e1] at this
      exact List.eq_nil_of_length_eq_zero this.symm
    subst hn
    have e2' : a1 = 0 ∨ (a1 = 2 ∧ 0 ≤ v.2 ∧ v.2 < 2) := by
      rw [Bool.or_eq_true, Bool.and_eq_true] at e2
      rcases e2 with q | ⟨q, q'⟩
      · exact Or.inl (Nat.eq_of_beq_eq_true q)
      · refine Or.inr ⟨Nat.eq_of_beq_eq_true q, ?_⟩
        have q' : (Nat.beq e.1.1 0 && decide (0 ≤ e.1.2.1) && decide (e.1.2.2.1 ≤ 1)) = true := q'
        rw [Bool.and_eq_true, Bool.and_eq_true, decide_eq_true_iff, decide_eq_true_iff] at q'
        have v1 := (eok_int tx h2).1
        have v2 := (eok_int tx h2).2.1
        omega
    refine ⟨rfl, rfl, e2', hQ _ _ ?_ h3.2.1 h3.2.2 (po_ok epo h3)⟩
    split at e5
    · exact vsub'_ok e5 h2.1
    · cases e5
  | 63, h =>
    simp only [cI] at h
    obtain ⟨e, v, S1, st1, rfl, h1, h2, h3⟩ := p1_ok h hs
    simp only [Bool.and_eq_true] at h1
    obtain ⟨⟨⟨t1, e1⟩, epo⟩, e5⟩ := h1
    obtain ⟨tx, ev⟩ := tag_v t1 h2
    rw [ev] at h2 ⊢
    have hn : st1 = [] := by
      have := all2_len h3.1.2.1
      rw [List.isEmpty_iff.mp e1] at this
      exact List.eq_nil_of_length_eq_zero this.symm
    subst hn
    have hr : rok rt (some (2, v.2)) := by
      split at e5
      · exact vsub'_ok e5 h2.1
      · cases e5
    exact ⟨rfl, rfl, by have h8 : (0 : Int) ≤ v.2 := (eok_ref tx h2).1; show 0 ≤ v.2 + 1; omega, hQ _ _ hr h3.2.1 h3.2.2 (po_ok epo h3)⟩
  | 64, h =>
    simp only [cI] at h
    obtain ⟨e, v, S1, st1, rfl, h1, h2, h3⟩ := p1_ok h hs
    simp only [Bool.and_eq_true] at h1
    obtain ⟨⟨⟨t1, e1⟩, epo⟩, e5⟩ := h1
    obtain ⟨tx, ev⟩ := tag_v t1 h2
    rw [ev] at h2 ⊢
    have hn : st1 = [] := by
      have := all2_len h3.1.2.1
      rw [List.isEmpty_iff.mp e1] at this
      exact List.eq_nil_of_length_eq_zero this.symm
    subst hn
    have hr : rok rt (some (1, v.2)) := by
      split at e5
      · exact vsub'_ok e5 h2.1
      · cases e5
    exact ⟨rfl, rfl, hQ _ _ hr h3.2.1 h3.2.2 (po_ok epo h3)⟩
  | 65, h =>
    simp only [cI, Bool.and_eq_true] at h
    have hn : st = [] := by
      have := all2_len hs.1.2.1
      rw [List.isEmpty_iff.mp h.1.1] at this
      exact List.eq_nil_of_length_eq_zero this.symm
    subst hn
    refine ⟨rfl, hQ _ _ ?_ hs.2.1 hs.2.2 (po_ok h.1.2 hs)⟩
    have h2 := h.2
    split at h2
    · cases h2
    · trivial
  | 100, h =>
    rw [show cI cs Jt rt lv D md po p 100 npc a1 a2 S k = c1 S (fun e S => tag e 0 && (swt 100).all (fun d => decide (0 ≤ (p : Int) + d) && (bif Nat.beq ((p : Int) + d).toNat npc then k S else Jt ((p : Int) + d).toNat S))) from rfl] at h
    obtain ⟨e, v, S1, st1, rfl, h1, h2, h3⟩ := p1_ok h hs
    rw [Bool.and_eq_true] at h1
    obtain ⟨tx, ev⟩ := tag_v h1.1 h2
    rw [ev]
    exact ⟨rfl, tsw_ok (by decide) rfl h1.2 h3 hj hk⟩
  | 101, h =>
    rw [show cI cs Jt rt lv D md po p 101 npc a1 a2 S k = c1 S (fun e S => tag e 0 && (swt 101).all (fun d => decide (0 ≤ (p : Int) + d) && (bif Nat.beq ((p : Int) + d).toNat npc then k S else Jt ((p : Int) + d).toNat S))) from rfl] at h
    obtain ⟨e, v, S1, st1, rfl, h1, h2, h3⟩ := p1_ok h hs
    rw [Bool.and_eq_true] at h1
    obtain ⟨tx, ev⟩ := tag_v h1.1 h2
    rw [ev]
    exact ⟨rfl, lsw_ok rfl h1.2 h3 hj hk⟩
  | 102, h =>
    rw [show cI cs Jt rt lv D md po p 102 npc a1 a2 S k = c1 S (fun e S => tag e 0 && (swt 102).all (fun d => decide (0 ≤ (p : Int) + d) && (bif Nat.beq ((p : Int) + d).toNat npc then k S else Jt ((p : Int) + d).toNat S))) from rfl] at h
    obtain ⟨e, v, S1, st1, rfl, h1, h2, h3⟩ := p1_ok h hs
    rw [Bool.and_eq_true] at h1
    obtain ⟨tx, ev⟩ := tag_v h1.1 h2
    rw [ev]
    exact ⟨rfl, lsw_ok rfl h1.2 h3 hj hk⟩
  | 103, h =>
    rw [show cI cs Jt rt lv D md po p 103 npc a1 a2 S k = c1 S (fun e S => tag e 0 && (swt 103).all (fun d => decide (0 ≤ (p : Int) + d) && (bif Nat.beq ((p : Int) + d).toNat npc then k S else Jt ((p : Int) + d).toNat S))) from rfl] at h
    obtain ⟨e, v, S1, st1, rfl, h1, h2, h3⟩ := p1_ok h hs
    rw [Bool.and_eq_true] at h1
    obtain ⟨tx, ev⟩ := tag_v h1.1 h2
    rw [ev]
    exact ⟨rfl, tsw_ok (by decide) rfl h1.2 h3 hj hk⟩
  | 104, h =>
    rw [show cI cs Jt rt lv D md po p 104 npc a1 a2 S k = c1 S (fun e S => tag e 0 && (swt 104).all (fun d => decide (0 ≤ (p : Int) + d) && (bif Nat.beq ((p : Int) + d).toNat npc then k S else Jt ((p : Int) + d).toNat S))) from rfl] at h
    obtain ⟨e, v, S1, st1, rfl, h1, h2, h3⟩ := p1_ok h hs
    rw [Bool.and_eq_true] at h1
    obtain ⟨tx, ev⟩ := tag_v h1.1 h2
    rw [ev]
    exact ⟨rfl, tsw_ok (by decide) rfl h1.2 h3 hj hk⟩
  | 105, h =>
    rw [show cI cs Jt rt lv D md po p 105 npc a1 a2 S k = c1 S (fun e S => tag e 0 && (swt 105).all (fun d => decide (0 ≤ (p : Int) + d) && (bif Nat.beq ((p : Int) + d).toNat npc then k S else Jt ((p : Int) + d).toNat S))) from rfl] at h
    obtain ⟨e, v, S1, st1, rfl, h1, h2, h3⟩ := p1_ok h hs
    rw [Bool.and_eq_true] at h1
    obtain ⟨tx, ev⟩ := tag_v h1.1 h2
    rw [ev]
    exact ⟨rfl, tsw_ok (by decide) rfl h1.2 h3 hj hk⟩
  | 106, h =>
    rw [show cI cs Jt rt lv D md po p 106 npc a1 a2 S k = c1 S (fun e S => tag e 0 && (swt 106).all (fun d => decide (0 ≤ (p : Int) + d) && (bif Nat.beq ((p : Int) + d).toNat npc then k S else Jt ((p : Int) + d).toNat S))) from rfl] at h
    obtain ⟨e, v, S1, st1, rfl, h1, h2, h3⟩ := p1_ok h hs
    rw [Bool.and_eq_true] at h1
    obtain ⟨tx, ev⟩ := tag_v h1.1 h2
    rw [ev]
    exact ⟨rfl, tsw_ok (by decide) rfl h1.2 h3 hj hk⟩
  | 107, h =>
    rw [show cI cs Jt rt lv D md po p 107 npc a1 a2 S k = c1 S (fun e S => tag e 0 && (swt 107).all (fun d => decide (0 ≤ (p : Int) + d) && (bif Nat.beq ((p : Int) + d).toNat npc then k S else Jt ((p : Int) + d).toNat S))) from rfl] at h
    obtain ⟨e, v, S1, st1, rfl, h1, h2, h3⟩ := p1_ok h hs
    rw [Bool.and_eq_true] at h1
    obtain ⟨tx, ev⟩ := tag_v h1.1 h2
    rw [ev]
    exact ⟨rfl, tsw_ok (by decide) rfl h1.2 h3 hj hk⟩
  | 108, h =>
    rw [show cI cs Jt rt lv D md po p 108 npc a1 a2 S k = c1 S (fun e S => tag e 0 && (swt 108).all (fun d => decide (0 ≤ (p : Int) + d) && (bif Nat.beq ((p : Int) + d).toNat npc then k S else Jt ((p : Int) + d).toNat S))) from rfl] at h
    obtain ⟨e, v, S1, st1, rfl, h1, h2, h3⟩ := p1_ok h hs
    rw [Bool.and_eq_true] at h1
    obtain ⟨tx, ev⟩ := tag_v h1.1 h2
    rw [ev]
    exact ⟨rfl, tsw_ok (by decide) rfl h1.2 h3 hj hk⟩
  | 109, h =>
    rw [show cI cs Jt rt lv D md po p 109 npc a1 a2 S k = c1 S (fun e S => tag e 0 && (swt 109).all (fun d => decide (0 ≤ (p : Int) + d) && (bif Nat.beq ((p : Int) + d).toNat npc then k S else Jt ((p : Int) + d).toNat S))) from rfl] at h
    obtain ⟨e, v, S1, st1, rfl, h1, h2, h3⟩ := p1_ok h hs
    rw [Bool.and_eq_true] at h1
    obtain ⟨tx, ev⟩ := tag_v h1.1 h2
    rw [ev]
    exact ⟨rfl, lsw_ok rfl h1.2 h3 hj hk⟩
  | 110, h =>
    rw [show cI cs Jt rt lv D md po p 110 npc a1 a2 S k = c1 S (fun e S => tag e 0 && (swt 110).all (fun d => decide (0 ≤ (p : Int) + d) && (bif Nat.beq ((p : Int) + d).toNat npc then k S else Jt ((p : Int) + d).toNat S))) from rfl] at h
    obtain ⟨e, v, S1, st1, rfl, h1, h2, h3⟩ := p1_ok h hs
    rw [Bool.and_eq_true] at h1
    obtain ⟨tx, ev⟩ := tag_v h1.1 h2
    rw [ev]
    exact ⟨rfl, tsw_ok (by decide) rfl h1.2 h3 hj hk⟩
  | 111, h =>
    rw [show cI cs Jt rt lv D md po p 111 npc a1 a2 S k = c1 S (fun e S => tag e 0 && (swt 111).all (fun d => decide (0 ≤ (p : Int) + d) && (bif Nat.beq ((p : Int) + d).toNat npc then k S else Jt ((p : Int) + d).toNat S))) from rfl] at h
    obtain ⟨e, v, S1, st1, rfl, h1, h2, h3⟩ := p1_ok h hs
    rw [Bool.and_eq_true] at h1
    obtain ⟨tx, ev⟩ := tag_v h1.1 h2
    rw [ev]
    exact ⟨rfl, tsw_ok (by decide) rfl h1.2 h3 hj hk⟩
  | 112, h =>
    rw [show cI cs Jt rt lv D md po p 112 npc a1 a2 S k = c1 S (fun e S => tag e 0 && (swt 112).all (fun d => decide (0 ≤ (p : Int) + d) && (bif Nat.beq ((p : Int) + d).toNat npc then k S else Jt ((p : Int) + d).toNat S))) from rfl] at h
    obtain ⟨e, v, S1, st1, rfl, h1, h2, h3⟩ := p1_ok h hs
    rw [Bool.and_eq_true] at h1
    obtain ⟨tx, ev⟩ := tag_v h1.1 h2
    rw [ev]
    exact ⟨rfl, tsw_ok (by decide) rfl h1.2 h3 hj hk⟩
  | 113, h =>
    rw [show cI cs Jt rt lv D md po p 113 npc a1 a2 S k = c1 S (fun e S => tag e 0 && (swt 113).all (fun d => decide (0 ≤ (p : Int) + d) && (bif Nat.beq ((p : Int) + d).toNat npc then k S else Jt ((p : Int) + d).toNat S))) from rfl] at h
    obtain ⟨e, v, S1, st1, rfl, h1, h2, h3⟩ := p1_ok h hs
    rw [Bool.and_eq_true] at h1
    obtain ⟨tx, ev⟩ := tag_v h1.1 h2
    rw [ev]
    exact ⟨rfl, tsw_ok (by decide) rfl h1.2 h3 hj hk⟩
  | 28, h => exact Bool.noConfusion (show false = true from h)
  | 29, h => exact Bool.noConfusion (show false = true from h)
  | 30, h => exact Bool.noConfusion (show false = true from h)
  | 31, h => exact Bool.noConfusion (show false = true from h)
  | 67, h => exact Bool.noConfusion (show false = true from h)
  | 68, h => exact Bool.noConfusion (show false = true from h)
  | 69, h => exact Bool.noConfusion (show false = true from h)
  | 70, h => exact Bool.noConfusion (show false = true from h)
  | 71, h => exact Bool.noConfusion (show false = true from h)
  | 72, h => exact Bool.noConfusion (show false = true from h)
  | 73, h => exact Bool.noConfusion (show false = true from h)
  | 74, h => exact Bool.noConfusion (show false = true from h)
  | 75, h => exact Bool.noConfusion (show false = true from h)
  | 76, h => exact Bool.noConfusion (show false = true from h)
  | 77, h => exact Bool.noConfusion (show false = true from h)
  | 78, h => exact Bool.noConfusion (show false = true from h)
  | 79, h => exact Bool.noConfusion (show false = true from h)
  | 80, h => exact Bool.noConfusion (show false = true from h)
  | 81, h => exact Bool.noConfusion (show false = true from h)
  | 82, h => exact Bool.noConfusion (show false = true from h)
  | 83, h => exact Bool.noConfusion (show false = true from h)
  | 84, h => exact Bool.noConfusion (show false = true from h)
  | 85, h => exact Bool.noConfusion (show false = true from h)
  | 86, h => exact Bool.noConfusion (show false = true from h)
  | 87, h => exact Bool.noConfusion (show false = true from h)
  | 88, h => exact Bool.noConfusion (show false = true from h)
  | 89, h => exact Bool.noConfusion (show false = true from h)
  | 90, h => exact Bool.noConfusion (show false = true from h)
  | 91, h => exact Bool.noConfusion (show false = true from h)
  | 92, h => exact Bool.noConfusion (show false = true from h)
  | 93, h => exact Bool.noConfusion (show false = true from h)
  | 94, h => exact Bool.noConfusion (show false = true from h)
  | 95, h => exact Bool.noConfusion (show false = true from h)
  | 96, h => exact Bool.noConfusion (show false = true from h)
  | 97, h => exact Bool.noConfusion (show false = true from h)
  | 98, h => exact Bool.noConfusion (show false = true from h)
  | 99, h => exact Bool.noConfusion (show false = true from h)
  | n + 114, h =>
    have h : (bif Nat.ble 100 (n + 114) && Nat.ble (n + 114) 113 then c1 S (fun e S => tag e 0 && (swt (n + 114)).all (fun d => decide (0 ≤ (p : Int) + d) && (bif Nat.beq ((p : Int) + d).toNat npc then k S else Jt ((p : Int) + d).toNat S))) else false) = true := h
    have e : Nat.ble (n + 114) 113 = false := by
      cases hb : Nat.ble (n + 114) 113 with
      | false => rfl
      | true => have := Nat.le_of_ble_eq_true hb; omega
    rw [e, Bool.and_false] at h
    cases h
theorem cB_ok {nx : Option Nat} (hcs : ∀ p, ∀ c ∈ cs p, CtOK c) (hlv : lv ≤ 1) (hg : GOK g) (hj : ∀ t S ls st H, Jt t S = true → sok lv md g H0 ls0 S ls st H → J t ls st H) (hQ : ∀ r H, rok rt r → WT lv g H → frm md H0 H → (∀ f ∈ po, fok [] H f) → Q r H) : ∀ (b : List VE) (pc : Nat) (S : aS) (ls : PL) (st : List pv) (H : PH), cB cs Jt rt lv D md po nx b pc S = true → sok lv md g H0 ls0 S ls st H → wB J Q (Ca G us D) nx b pc ls st H
  | [], pc, S, ls, st, H, h, hs => by
    unfold cB at h
    split at h
    · rename_i t
      rw [Bool.and_eq_true] at h
      have e : t = pc := Nat.eq_of_beq_eq_true h.1
      subst e
      exact ⟨rfl, hj _ _ _ _ _ h.2 hs⟩
    · cases h
  | e :: t, pc, S, ls, st, H, h, hs => by
    have h : (Nat.beq e.1 pc && cI cs Jt rt lv D md po e.1 e.2.1 e.2.2.1 e.2.2.2.1 e.2.2.2.2 S (cB cs Jt rt lv D md po nx t e.2.2.1)) = true := h
    rw [Bool.and_eq_true] at h
    exact ⟨Nat.eq_of_beq_eq_true h.1, cI_ok hcs hlv hg hj (fun S ls st H q => cB_ok hcs hlv hg hj hQ t e.2.2.1 S ls st H q) hQ e.2.1 h.2 hs⟩
end CK
