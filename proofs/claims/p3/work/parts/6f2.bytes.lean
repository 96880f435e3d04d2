/-! ===== bytes ===== -/
theorem q2_and255 {x : Int} (h : zIn x) : q2 (· &&& ·) x 255 = x % 256 := by
  have e255 : zu 255 = 255 := by decide
  have h1 : zU (zI (zu x) &&& zI (zu 255)) = zu x % 256 := by
    rw [zU_and, zU_zI (zu_lt x), zU_zI (zu_lt 255), e255]
    exact Nat.and_two_pow_sub_one_eq_mod (zu x) 8
  have h2 := toInt_small (r := zI (zu x) &&& zI (zu 255)) (by rw [h1]; omega)
  have h3 := zu_cast x
  unfold q2
  show (zI (zu x) &&& zI (zu 255)).toInt = x % 256
  rw [h2, h1]
  omega
theorem toInt_256 (r : Int32) : r.toInt % 256 = (zU r : Int) % 256 := by
  have e : r.toInt = if 2 * r.toBitVec.toNat < 2 ^ 32 then (r.toBitVec.toNat : Int) else (r.toBitVec.toNat : Int) - ((2 ^ 32 : Nat) : Int) := BitVec.toInt_eq_toNat_cond r.toBitVec
  unfold zU
  rw [e]
  split <;> omega
theorem ushr_m {w : Int} (m : Nat) (hm : ((((zI (zu (m : Int))).toUInt32 &&& Int32.toUInt32 31).toBitVec) % 32) = BitVec.ofNat 32 m) (h32 : m < 32) : (q2 (fun x y => (x.toUInt32 >>> (y.toUInt32 &&& Int32.toUInt32 31)).toInt32) w (m : Int)) % 256 = ((zu w / 2 ^ m : Nat) : Int) % 256 := by
  unfold q2
  show (((zI (zu w)).toUInt32 >>> ((zI (zu (m : Int))).toUInt32 &&& Int32.toUInt32 31)).toInt32).toInt % 256 = _
  rw [toInt_256]
  have e : zU (((zI (zu w)).toUInt32 >>> ((zI (zu (m : Int))).toUInt32 &&& Int32.toUInt32 31)).toInt32) = zu w / 2 ^ m := by
    show ((zI (zu w)).toBitVec >>> ((((zI (zu (m : Int))).toUInt32 &&& Int32.toUInt32 31).toBitVec) % 32)).toNat = _
    rw [hm, BitVec.ushiftRight_eq', BitVec.toNat_ushiftRight, Nat.shiftRight_eq_div_pow]
    have e1 : (BitVec.ofNat 32 m).toNat = m := by rw [BitVec.toNat_ofNat]; exact Nat.mod_eq_of_lt (by omega)
    rw [e1]
    show zU (zI (zu w)) / 2 ^ m = _
    rw [zU_zI (zu_lt w)]
  rw [e]
theorem sshr_m {w : Int} (hw : zIn w) (m : Nat) (hm : ((zI (zu (m : Int)) &&& 31).toBitVec).smod 32 = BitVec.ofNat 32 m) (h32 : m < 32) : q2 (fun x y => x >>> (y &&& 31)) w (m : Int) = w / 2 ^ m := by
  unfold q2
  show ((zI (zu w)) >>> (zI (zu (m : Int)) &&& 31)).toInt = _
  show ((zI (zu w)) >>> (zI (zu (m : Int)) &&& 31)).toBitVec.toInt = _
  rw [Int32.toBitVec_shiftRight, hm, BitVec.toInt_sshiftRight', Int.shiftRight_eq_div_pow]
  have e1 : (BitVec.ofNat 32 m).toNat = m := by rw [BitVec.toNat_ofNat]; exact Nat.mod_eq_of_lt (by omega)
  rw [e1]
  show (zI (zu w)).toInt / _ = _
  rw [zI_zu hw]
  rfl
/-- byte q (the highest is 0) of a number -/
def bt (w q : Int) : Int := if q = 0 then w / 16777216 % 256 else if q = 1 then w / 65536 % 256 else if q = 2 then w / 256 % 256 else w % 256
theorem bt_c {w q : Int} (hw : zIn w) (q0 : 0 ≤ q) (q3 : q ≤ 3) : q2 (· &&& ·) (q2 (fun x y => (x.toUInt32 >>> (y.toUInt32 &&& Int32.toUInt32 31)).toInt32) w (24 - 8 * q)) 255 = bt w q := by
  rw [q2_and255 (q2_in _ _ _)]
  have hz := zu_cast w
  rcases (by omega : q = 0 ∨ q = 1 ∨ q = 2 ∨ q = 3) with rfl | rfl | rfl | rfl
  · have := ushr_m (w := w) 24 (by decide) (by omega)
    show _ = w / 16777216 % 256
    rw [show (24 : Int) - 8 * 0 = ((24 : Nat) : Int) by omega, this]
    omega
  · have := ushr_m (w := w) 16 (by decide) (by omega)
    show _ = w / 65536 % 256
    rw [show (24 : Int) - 8 * 1 = ((16 : Nat) : Int) by omega, this]
    omega
  · have := ushr_m (w := w) 8 (by decide) (by omega)
    show _ = w / 256 % 256
    rw [show (24 : Int) - 8 * 2 = ((8 : Nat) : Int) by omega, this]
    omega
  · have := ushr_m (w := w) 0 (by decide) (by omega)
    show _ = w % 256
    rw [show (24 : Int) - 8 * 3 = ((0 : Nat) : Int) by omega, this]
    omega
theorem i2b_256 {x : Int} (hx : zIn x) : q1 (fun x => x.toInt8.toInt32) x % 256 = x % 256 := by
  unfold q1
  show ((zI (zu x)).toInt8.toInt32).toInt % 256 = _
  rw [Int8.toInt_toInt32, Int32.toInt_toInt8, zI_zu hx, Int.bmod_def]
  omega
theorem bt_m {w q : Int} (hw : zIn w) (q0 : 0 ≤ q) (q3 : q ≤ 3) : q2 (· &&& ·) (qb 17 (q1 (fun x => x.toInt8.toInt32) (q2 (fun x y => x >>> (y &&& 31)) w (24 - 8 * q)))) 255 = bt w q := by
  have e : qb 17 (q1 (fun x => x.toInt8.toInt32) (q2 (fun x y => x >>> (y &&& 31)) w (24 - 8 * q))) = q1 (fun x => x.toInt8.toInt32) (q1 (fun x => x.toInt8.toInt32) (q2 (fun x y => x >>> (y &&& 31)) w (24 - 8 * q))) := rfl
  rw [e, q2_and255 (q1_in _ _), i2b_256 (q1_in _ _), i2b_256 (q2_in _ _ _)]
  rcases (by omega : q = 0 ∨ q = 1 ∨ q = 2 ∨ q = 3) with rfl | rfl | rfl | rfl
  · have := sshr_m hw 24 (by decide) (by omega)
    show _ = w / 16777216 % 256
    rw [show (24 : Int) - 8 * 0 = ((24 : Nat) : Int) by omega, this]
    rfl
  · have := sshr_m hw 16 (by decide) (by omega)
    show _ = w / 65536 % 256
    rw [show (24 : Int) - 8 * 1 = ((16 : Nat) : Int) by omega, this]
    rfl
  · have := sshr_m hw 8 (by decide) (by omega)
    show _ = w / 256 % 256
    rw [show (24 : Int) - 8 * 2 = ((8 : Nat) : Int) by omega, this]
    rfl
  · have := sshr_m hw 0 (by decide) (by omega)
    show _ = w % 256
    rw [show (24 : Int) - 8 * 3 = ((0 : Nat) : Int) by omega, this, Int.pow_zero, Int.ediv_one]
/-- so many bytes more behind a tape -/
def FB (H0 H : PH) (z n : Int) (f : Int → Int) : Prop := H 213 1 = z + n ∧ ∀ i, H 214 i = if z ≤ i ∧ i < z + n then f (i - z) else H0 214 i
def FBM (H0 H : PH) (z n : Int) (f : Int → Int) : Prop := H 590 4 = z + n ∧ ∀ i, TM H i = if z ≤ i ∧ i < z + n then f (i - z) else TM H0 i
def fb1 (f : Int → Int) (n w : Int) : Int → Int := fun j => if j < n then f j else bt w (j - n)
theorem fb_step {T T0 : Int → Int} {f : Int → Int} {z n q w v : Int} (h : ∀ i, T i = if z ≤ i ∧ i < z + n + q then fb1 f n w (i - z) else T0 i) (q0 : 0 ≤ q) (n0 : 0 ≤ n) (hv : v = bt w q) (i : Int) : (if i = z + n + q then v else T i) = if z ≤ i ∧ i < z + n + (q + 1) then fb1 f n w (i - z) else T0 i := by
  by_cases c : i = z + n + q
  · rw [if_pos c, if_pos (by omega), hv]
    unfold fb1
    rw [if_neg (by omega)]
    congr 1
    omega
  · rw [if_neg c, h i]
    by_cases d : z ≤ i ∧ i < z + n + q
    · rw [if_pos d, if_pos (by omega)]
    · rw [if_neg d, if_neg (by omega)]
theorem fb_start {T T0 : Int → Int} {f : Int → Int} {z n w : Int} (h : ∀ i, T i = if z ≤ i ∧ i < z + n then f (i - z) else T0 i) (i : Int) : T i = if z ≤ i ∧ i < z + n + 0 then fb1 f n w (i - z) else T0 i := by
  rw [h i]
  by_cases d : z ≤ i ∧ i < z + n
  · rw [if_pos d, if_pos (by omega)]
    unfold fb1
    rw [if_pos (by omega)]
  · rw [if_neg d, if_neg (by omega)]
theorem FB_0 (H : PH) : FB H H (H 213 1) 0 (fun _ => 0) := ⟨by omega, fun i => by rw [if_neg (by omega)]⟩
theorem FBM_0 (H : PH) : FBM H H (H 590 4) 0 (fun _ => 0) := ⟨by omega, fun i => by rw [if_neg (by omega)]⟩

set_option maxRecDepth 20000 in
set_option maxHeartbeats 4000000 in
theorem lp_X10_add_3F {G : zG} {us : Nat} (H0 : PH) (w z n0 : Int) (f : Int → Int)  (hw : zIn w) (z0 : 0 ≤ z) (n00 : 0 ≤ n0) (z1 : z + n0 ≤ 596) : ∀ (n : Nat) (ls : PL) (H : PH) (q : Int), (4 - q).toNat < n → pnl ls → pget ls 0 = some (2, 213) → pget ls 1 = some (0, w) → pget ls 2 = some (0, 24 - 8 * q) → 0 ≤ q → q ≤ 4 → H 213 1 = z + n0 + q → ∀ i, H 214 i = if z ≤ i ∧ i < z + n0 + q then fb1 f n0 w (i - z) else H0 214 i → Tr G us kd_X10_add 1 (zget kd_X10_add 3) 3 ls [] H (fun r H' => r = none ∧ FB H0 H' z (n0 + 4) (fb1 f n0 w)) := by
  intro n
  induction n with
  | zero => intros; omega
  | succ n ih =>
    intro ls H q hn hnl l0 l1 l2 q0 q4 hz hb
    have e24 : zw (24 - 8 * q + 4294967288) = 24 - 8 * (q + 1) := by unfold zw; omega
    have hbz : ∀ v x : Int, v = bt w q → ∀ i, pup (pup H 214 (H 213 1) v) 213 1 x 214 i = if z ≤ i ∧ i < z + n0 + (q + 1) then fb1 f n0 w (i - z) else H0 214 i := fun v x hv i => by
      have e : pup (pup H 214 (H 213 1) v) 213 1 x 214 i = if i = z + n0 + q then v else H 214 i := by
        rw [pup_app, if_neg (fun c => by have := c.1; omega), pup_app, hz]
        by_cases c : i = z + n0 + q
        · rw [if_pos ⟨rfl, c⟩, if_pos c]
        · rw [if_neg (fun d => c d.2), if_neg c]
      rw [e]
      exact fb_step hb q0 n00 hv i
    refine tr_lab (D := 0) (t := 3) vb_X10_add_3 _ ve_X10_add_3 ?_
    simp (maxDischargeDepth := 12) [vb_X10_add_3, wB, wI, k1, kI, kR, kL, k2, pget, pget_pset, pnl_pset, pnl_cons, pnl_nil, parg, ppush, pcat, zw_lit, zw_m1, zw_m2, zw_m3, zNC_eq, zrow, pup_app, gv_213_0, gv_213_1, pe, tg_10_0, tg_10_1, zfit, zisI, sh_590, sh_213, sh_214, e24, hnl, l0, l1, l2]
    repeat' (with_reducible (first | (refine And.intro ?_ ?_) | intro _))
    all_goals try (refine tr_lab (D := 0) (t := 43) vb_X10_add_43 _ ve_X10_add_43 ?_; simp (maxDischargeDepth := 12) [vb_X10_add_43, wB, wI, k1, kI, kR, kL, k2, pget, pget_pset, pnl_pset, pnl_cons, pnl_nil, parg, ppush, pcat, zw_lit, zw_m1, zw_m2, zw_m3, zNC_eq, zrow, pup_app, gv_213_0, gv_213_1, pe, tg_10_0, tg_10_1, zfit, zisI, sh_590, sh_213, sh_214, e24, hnl, l0, l1, l2])
    all_goals repeat' (with_reducible (first | (refine And.intro ?_ ?_) | intro _))
    all_goals try (refine tr_lab (D := 0) (t := 49) vb_X10_add_49 _ ve_X10_add_49 ?_; simp (maxDischargeDepth := 12) [vb_X10_add_49, wB, wI, k1, kI, kR, kL, k2, pget, pget_pset, pnl_pset, pnl_cons, pnl_nil, parg, ppush, pcat, zw_lit, zw_m1, zw_m2, zw_m3, zNC_eq, zrow, pup_app, gv_213_0, gv_213_1, pe, tg_10_0, tg_10_1, zfit, zisI, sh_590, sh_213, sh_214, e24, hnl, l0, l1, l2])
    all_goals repeat' (with_reducible (first | (refine And.intro ?_ ?_) | intro _))
    all_goals try (refine ih _ _ (q + 1) ?_ ?_ ?_ ?_ ?_ ?_ ?_ ?_ ?_)
    all_goals try simp (maxDischargeDepth := 12) [pget_pset, pnl_pset, pnl_cons, pnl_nil, pget, hnl, pup_app, l0, l1, l2]
    all_goals (first | omega | assumption | (exact hbz _ _ (bt_c hw q0 (by omega))) | (refine ⟨by omega, fun i => ?_⟩; rw [hb i, show q = 4 by omega]; congr 2; omega) | (refine ⟨by omega, fun i => ?_⟩; rw [hb i, show q = 4 by omega]; first | rfl | (by_cases c : z ≤ i ∧ i < z + (n0 + 4) <;> simp [c] <;> omega)) | skip)

set_option maxRecDepth 20000 in
set_option maxHeartbeats 4000000 in
theorem ca_X10_addF {G : zG} {us : Nat} (w z n0 : Int) (f : Int → Int) (H0 : PH) (H : PH) (hw : zIn w) (z0 : 0 ≤ z) (n00 : 0 ≤ n0) (z1 : z + n0 ≤ 596) (hB : FB H0 H z n0 f) : Ca G us 1 93 [(2, 213), (0, w)] H (fun r H' => r = none ∧ FB H0 H' z (n0 + 4) (fb1 f n0 w)) := by
  have hB1 := hB.1
  have hB2 := fb_start (w := w) hB.2
  refine ⟨_, _, _, _, _, _, vm_X10_add, by simp [pcat], ?_⟩
  refine tr_lab (D := 0) (t := 0) vb_X10_add_0 _ ve_X10_add_0 ?_
  simp (maxDischargeDepth := 12) [vb_X10_add_0, wB, wI, k1, kI, kR, kL, k2, pget, pget_pset, pnl_pset, pnl_cons, pnl_nil, parg, ppush, pcat, zw_lit, zw_m1, zw_m2, zw_m3, zNC_eq, zrow, pup_app, gv_213_0, gv_213_1, pe, tg_10_0, tg_10_1, zfit, zisI, sh_590, sh_213]
  repeat' (with_reducible (first | (refine And.intro ?_ ?_) | intro _))
  all_goals try ((refine lp_X10_add_3F H0 w z n0 f hw z0 n00 z1 5 _ _ 0 ?_ ?_ ?_ ?_ ?_ ?_ ?_ ?_ ?_) <;> (try simp (maxDischargeDepth := 12) [pget_pset, pnl_pset, pnl_cons, pnl_nil, pget, pup_app]))
  all_goals (first | omega | (exact hB2) | assumption | skip)

set_option maxRecDepth 20000 in
set_option maxHeartbeats 4000000 in
theorem lp_X12_four_3F {G : zG} {us : Nat} (H0 : PH) (w z n0 : Int) (f : Int → Int)  (hw : zIn w) (z0 : 0 ≤ z) (n00 : 0 ≤ n0) (z1 : z + n0 ≤ 596) : ∀ (n : Nat) (ls : PL) (H : PH) (q : Int), (4 - q).toNat < n → pnl ls → pget ls 0 = some (2, 590) → pget ls 1 = some (0, w) → pget ls 2 = some (0, 24 - 8 * q) → 0 ≤ q → q ≤ 4 → H 590 4 = z + n0 + q → ∀ i, TM H i = if z ≤ i ∧ i < z + n0 + q then fb1 f n0 w (i - z) else TM H0 i → Tr G us kd_X12_four 1 (zget kd_X12_four 3) 3 ls [] H (fun r H' => r = none ∧ FBM H0 H' z (n0 + 4) (fb1 f n0 w)) := by
  intro n
  induction n with
  | zero => intros; omega
  | succ n ih =>
    intro ls H q hn hnl l0 l1 l2 q0 q4 hz hb
    have e24 : zw (24 - 8 * q + 4294967288) = 24 - 8 * (q + 1) := by unfold zw; omega
    have hbz : ∀ v x : Int, q2 (· &&& ·) v 255 = bt w q → ∀ i, TM (pup (pup H 593 (H 590 4) v) 590 4 x) i = if z ≤ i ∧ i < z + n0 + (q + 1) then fb1 f n0 w (i - z) else TM H0 i := fun v x hv i => by
      have e : TM (pup (pup H 593 (H 590 4) v) 590 4 x) i = if i = z + n0 + q then q2 (· &&& ·) v 255 else TM H i := by
        unfold TM
        rw [pup_app, if_neg (fun c => by have := c.1; omega), pup_app, hz]
        by_cases c : i = z + n0 + q
        · rw [if_pos ⟨rfl, c⟩, if_pos c]
        · rw [if_neg (fun d => c d.2), if_neg c]
      rw [e]
      exact fb_step hb q0 n00 hv i
    refine tr_lab (D := 0) (t := 3) vb_X12_four_3 _ ve_X12_four_3 ?_
    simp (maxDischargeDepth := 12) [vb_X12_four_3, wB, wI, k1, kI, kR, kL, k2, pget, pget_pset, pnl_pset, pnl_cons, pnl_nil, parg, ppush, pcat, zw_lit, zw_m1, zw_m2, zw_m3, zNC_eq, zrow, pup_app, gv_590_3, gv_590_4, pe, tg_12_3, tg_12_4, zfit, zisI, sh_590, sh_593, e24, hnl, l0, l1, l2]
    repeat' (with_reducible (first | (refine And.intro ?_ ?_) | intro _))
    all_goals try (refine tr_lab (D := 0) (t := 36) vb_X12_four_36 _ ve_X12_four_36 ?_; simp (maxDischargeDepth := 12) [vb_X12_four_36, wB, wI, k1, kI, kR, kL, k2, pget, pget_pset, pnl_pset, pnl_cons, pnl_nil, parg, ppush, pcat, zw_lit, zw_m1, zw_m2, zw_m3, zNC_eq, zrow, pup_app, gv_590_3, gv_590_4, pe, tg_12_3, tg_12_4, zfit, zisI, sh_590, sh_593, e24, hnl, l0, l1, l2])
    all_goals repeat' (with_reducible (first | (refine And.intro ?_ ?_) | intro _))
    all_goals try (refine ih _ _ (q + 1) ?_ ?_ ?_ ?_ ?_ ?_ ?_ ?_ ?_)
    all_goals try simp (maxDischargeDepth := 12) [pget_pset, pnl_pset, pnl_cons, pnl_nil, pget, hnl, pup_app, l0, l1, l2]
    all_goals (first | omega | assumption | (exact hbz _ _ (bt_m hw q0 (by omega))) | (refine ⟨by omega, fun i => ?_⟩; rw [hb i, show q = 4 by omega]; congr 2; omega) | (refine ⟨by omega, fun i => ?_⟩; rw [hb i, show q = 4 by omega]; first | rfl | (by_cases c : z ≤ i ∧ i < z + (n0 + 4) <;> simp [c] <;> omega)) | skip)

set_option maxRecDepth 20000 in
set_option maxHeartbeats 4000000 in
theorem ca_X12_fourF {G : zG} {us : Nat} (w z n0 : Int) (f : Int → Int) (H0 : PH) (H : PH) (hw : zIn w) (z0 : 0 ≤ z) (n00 : 0 ≤ n0) (z1 : z + n0 ≤ 596) (hB : FBM H0 H z n0 f) : Ca G us 1 160 [(2, 590), (0, w)] H (fun r H' => r = none ∧ FBM H0 H' z (n0 + 4) (fb1 f n0 w)) := by
  have hB1 := hB.1
  have hB2 := fb_start (w := w) hB.2
  refine ⟨_, _, _, _, _, _, vm_X12_four, by simp [pcat], ?_⟩
  refine tr_lab (D := 0) (t := 0) vb_X12_four_0 _ ve_X12_four_0 ?_
  simp (maxDischargeDepth := 12) [vb_X12_four_0, wB, wI, k1, kI, kR, kL, k2, pget, pget_pset, pnl_pset, pnl_cons, pnl_nil, parg, ppush, pcat, zw_lit, zw_m1, zw_m2, zw_m3, zNC_eq, zrow, pup_app, gv_590_3, gv_590_4, pe, tg_12_3, tg_12_4, zfit, zisI, sh_590]
  repeat' (with_reducible (first | (refine And.intro ?_ ?_) | intro _))
  all_goals try ((refine lp_X12_four_3F H0 w z n0 f hw z0 n00 z1 5 _ _ 0 ?_ ?_ ?_ ?_ ?_ ?_ ?_ ?_ ?_) <;> (try simp (maxDischargeDepth := 12) [pget_pset, pnl_pset, pnl_cons, pnl_nil, pget, pup_app]))
  all_goals (first | omega | (exact hB2) | assumption | skip)

set_option maxRecDepth 20000 in
set_option maxHeartbeats 4000000 in
theorem ca_X11_feedF {G : zG} {us : Nat} (a b c d e : Int) (H : PH) (z0 : 0 ≤ H 213 1) (z1 : H 213 1 ≤ 600) (ha : zIn a) (hb : zIn b) (hc : zIn c) (hd : zIn d) (he : zIn e) : Ca G us 2 105 [(2, 0), (0, a), (0, b), (0, c), (0, d), (0, e)] H (fun r H' => (580 < H 213 1 ∧ r = some (0, -1) ∧ H' = H) ∨ (H 213 1 ≤ 580 ∧ r = some (0, H 213 1 + 20) ∧ FB H H' (H 213 1) (0 + 4 + 4 + 4 + 4 + 4) (fb1 (fb1 (fb1 (fb1 (fb1 (fun _ => 0) 0 a) (0 + 4) b) (0 + 4 + 4) c) (0 + 4 + 4 + 4) d) (0 + 4 + 4 + 4 + 4) e))) := by
  have e20 : zw (H 213 1 + 20) = H 213 1 + 20 := zw_lit (by omega) (by omega)
  have hB := FB_0 H
  refine ⟨_, _, _, _, _, _, vm_X11_feed, by simp [pcat], ?_⟩
  refine tr_lab (D := 1) (t := 0) vb_X11_feed_0 _ ve_X11_feed_0 ?_
  simp (maxDischargeDepth := 12) [vb_X11_feed_0, wB, wI, k1, kI, kR, kL, k2, pget, pget_pset, pnl_pset, pnl_cons, pnl_nil, parg, ppush, pcat, zw_lit, zw_m1, zw_m2, zw_m3, zNC_eq, zrow, pup_app, gv_0_1, gv_213_1, tg_10_1, tg_11_1, sh_590, sh_0, sh_213, e20]
  repeat' (with_reducible (first | (refine And.intro ?_ ?_) | intro _))
  all_goals try (refine tr_lab (D := 1) (t := 18) vb_X11_feed_18 _ ve_X11_feed_18 ?_; simp (maxDischargeDepth := 12) [vb_X11_feed_18, wB, wI, k1, kI, kR, kL, k2, pget, pget_pset, pnl_pset, pnl_cons, pnl_nil, parg, ppush, pcat, zw_lit, zw_m1, zw_m2, zw_m3, zNC_eq, zrow, pup_app, gv_0_1, gv_213_1, tg_10_1, tg_11_1, sh_590, sh_0, sh_213, e20])
  all_goals repeat' (with_reducible (first | (refine And.intro ?_ ?_) | intro _))
  all_goals try (refine Ca_use (ca_X10_addF _ _ _ _ _ _ (by assumption) (by assumption) (by omega) (by omega) hB) (by omega) ?_; rintro _ _ ⟨rfl, hB⟩; simp (maxDischargeDepth := 12) [wB, wI, k1, kI, kR, kL, k2, pget, pget_pset, pnl_pset, pnl_cons, pnl_nil, parg, ppush, pcat, zw_lit, zw_m1, zw_m2, zw_m3, zNC_eq, zrow, pup_app, gv_0_1, gv_213_1, tg_10_1, tg_11_1, sh_590, sh_0, sh_213, e20])
  all_goals repeat' (with_reducible (first | (refine And.intro ?_ ?_) | intro _))
  all_goals try (refine Ca_use (ca_X10_addF _ _ _ _ _ _ (by assumption) (by assumption) (by omega) (by omega) hB) (by omega) ?_; rintro _ _ ⟨rfl, hB⟩; simp (maxDischargeDepth := 12) [wB, wI, k1, kI, kR, kL, k2, pget, pget_pset, pnl_pset, pnl_cons, pnl_nil, parg, ppush, pcat, zw_lit, zw_m1, zw_m2, zw_m3, zNC_eq, zrow, pup_app, gv_0_1, gv_213_1, tg_10_1, tg_11_1, sh_590, sh_0, sh_213, e20])
  all_goals repeat' (with_reducible (first | (refine And.intro ?_ ?_) | intro _))
  all_goals try (refine Ca_use (ca_X10_addF _ _ _ _ _ _ (by assumption) (by assumption) (by omega) (by omega) hB) (by omega) ?_; rintro _ _ ⟨rfl, hB⟩; simp (maxDischargeDepth := 12) [wB, wI, k1, kI, kR, kL, k2, pget, pget_pset, pnl_pset, pnl_cons, pnl_nil, parg, ppush, pcat, zw_lit, zw_m1, zw_m2, zw_m3, zNC_eq, zrow, pup_app, gv_0_1, gv_213_1, tg_10_1, tg_11_1, sh_590, sh_0, sh_213, e20])
  all_goals repeat' (with_reducible (first | (refine And.intro ?_ ?_) | intro _))
  all_goals try (refine Ca_use (ca_X10_addF _ _ _ _ _ _ (by assumption) (by assumption) (by omega) (by omega) hB) (by omega) ?_; rintro _ _ ⟨rfl, hB⟩; simp (maxDischargeDepth := 12) [wB, wI, k1, kI, kR, kL, k2, pget, pget_pset, pnl_pset, pnl_cons, pnl_nil, parg, ppush, pcat, zw_lit, zw_m1, zw_m2, zw_m3, zNC_eq, zrow, pup_app, gv_0_1, gv_213_1, tg_10_1, tg_11_1, sh_590, sh_0, sh_213, e20])
  all_goals repeat' (with_reducible (first | (refine And.intro ?_ ?_) | intro _))
  all_goals try (refine Ca_use (ca_X10_addF _ _ _ _ _ _ (by assumption) (by assumption) (by omega) (by omega) hB) (by omega) ?_; rintro _ _ ⟨rfl, hB⟩; simp (maxDischargeDepth := 12) [wB, wI, k1, kI, kR, kL, k2, pget, pget_pset, pnl_pset, pnl_cons, pnl_nil, parg, ppush, pcat, zw_lit, zw_m1, zw_m2, zw_m3, zNC_eq, zrow, pup_app, gv_0_1, gv_213_1, tg_10_1, tg_11_1, sh_590, sh_0, sh_213, e20])
  all_goals repeat' (with_reducible (first | (refine And.intro ?_ ?_) | intro _))
  all_goals (first | omega | (exact Or.inl ⟨by omega, rfl, rfl⟩) | (have h1 := hB.1; exact Or.inr ⟨by omega, by rw [h1]; congr 2; omega, hB⟩) | (have h1 := hB.1; exact Or.inr ⟨by omega, by omega, hB⟩) | skip)

set_option maxRecDepth 20000 in
set_option maxHeartbeats 4000000 in
theorem ca_X12_feedF {G : zG} {us : Nat} (a b c d e : Int) (H : PH) (z0 : 0 ≤ H 590 4) (z1 : H 590 4 ≤ 600) (ha : zIn a) (hb : zIn b) (hc : zIn c) (hd : zIn d) (he : zIn e) : Ca G us 2 161 [(2, 590), (0, a), (0, b), (0, c), (0, d), (0, e)] H (fun r H' => (580 < H 590 4 ∧ r = some (0, -1) ∧ H' = H) ∨ (H 590 4 ≤ 580 ∧ r = some (0, H 590 4 + 20) ∧ FBM H H' (H 590 4) (0 + 4 + 4 + 4 + 4 + 4) (fb1 (fb1 (fb1 (fb1 (fb1 (fun _ => 0) 0 a) (0 + 4) b) (0 + 4 + 4) c) (0 + 4 + 4 + 4) d) (0 + 4 + 4 + 4 + 4) e))) := by
  have e20 : zw (H 590 4 + 20) = H 590 4 + 20 := zw_lit (by omega) (by omega)
  have hB := FBM_0 H
  refine ⟨_, _, _, _, _, _, vm_X12_feed, by simp [pcat], ?_⟩
  refine tr_lab (D := 1) (t := 0) vb_X12_feed_0 _ ve_X12_feed_0 ?_
  simp (maxDischargeDepth := 12) [vb_X12_feed_0, wB, wI, k1, kI, kR, kL, k2, pget, pget_pset, pnl_pset, pnl_cons, pnl_nil, parg, ppush, pcat, zw_lit, zw_m1, zw_m2, zw_m3, zNC_eq, zrow, pup_app, gv_590_4, tg_12_4, sh_590, sh_0, sh_213, e20]
  repeat' (with_reducible (first | (refine And.intro ?_ ?_) | intro _))
  all_goals try (refine tr_lab (D := 1) (t := 15) vb_X12_feed_15 _ ve_X12_feed_15 ?_; simp (maxDischargeDepth := 12) [vb_X12_feed_15, wB, wI, k1, kI, kR, kL, k2, pget, pget_pset, pnl_pset, pnl_cons, pnl_nil, parg, ppush, pcat, zw_lit, zw_m1, zw_m2, zw_m3, zNC_eq, zrow, pup_app, gv_590_4, tg_12_4, sh_590, sh_0, sh_213, e20])
  all_goals repeat' (with_reducible (first | (refine And.intro ?_ ?_) | intro _))
  all_goals try (refine Ca_use (ca_X12_fourF _ _ _ _ _ _ (by assumption) (by assumption) (by omega) (by omega) hB) (by omega) ?_; rintro _ _ ⟨rfl, hB⟩; simp (maxDischargeDepth := 12) [wB, wI, k1, kI, kR, kL, k2, pget, pget_pset, pnl_pset, pnl_cons, pnl_nil, parg, ppush, pcat, zw_lit, zw_m1, zw_m2, zw_m3, zNC_eq, zrow, pup_app, gv_590_4, tg_12_4, sh_590, sh_0, sh_213, e20])
  all_goals repeat' (with_reducible (first | (refine And.intro ?_ ?_) | intro _))
  all_goals try (refine Ca_use (ca_X12_fourF _ _ _ _ _ _ (by assumption) (by assumption) (by omega) (by omega) hB) (by omega) ?_; rintro _ _ ⟨rfl, hB⟩; simp (maxDischargeDepth := 12) [wB, wI, k1, kI, kR, kL, k2, pget, pget_pset, pnl_pset, pnl_cons, pnl_nil, parg, ppush, pcat, zw_lit, zw_m1, zw_m2, zw_m3, zNC_eq, zrow, pup_app, gv_590_4, tg_12_4, sh_590, sh_0, sh_213, e20])
  all_goals repeat' (with_reducible (first | (refine And.intro ?_ ?_) | intro _))
  all_goals try (refine Ca_use (ca_X12_fourF _ _ _ _ _ _ (by assumption) (by assumption) (by omega) (by omega) hB) (by omega) ?_; rintro _ _ ⟨rfl, hB⟩; simp (maxDischargeDepth := 12) [wB, wI, k1, kI, kR, kL, k2, pget, pget_pset, pnl_pset, pnl_cons, pnl_nil, parg, ppush, pcat, zw_lit, zw_m1, zw_m2, zw_m3, zNC_eq, zrow, pup_app, gv_590_4, tg_12_4, sh_590, sh_0, sh_213, e20])
  all_goals repeat' (with_reducible (first | (refine And.intro ?_ ?_) | intro _))
  all_goals try (refine Ca_use (ca_X12_fourF _ _ _ _ _ _ (by assumption) (by assumption) (by omega) (by omega) hB) (by omega) ?_; rintro _ _ ⟨rfl, hB⟩; simp (maxDischargeDepth := 12) [wB, wI, k1, kI, kR, kL, k2, pget, pget_pset, pnl_pset, pnl_cons, pnl_nil, parg, ppush, pcat, zw_lit, zw_m1, zw_m2, zw_m3, zNC_eq, zrow, pup_app, gv_590_4, tg_12_4, sh_590, sh_0, sh_213, e20])
  all_goals repeat' (with_reducible (first | (refine And.intro ?_ ?_) | intro _))
  all_goals try (refine Ca_use (ca_X12_fourF _ _ _ _ _ _ (by assumption) (by assumption) (by omega) (by omega) hB) (by omega) ?_; rintro _ _ ⟨rfl, hB⟩; simp (maxDischargeDepth := 12) [wB, wI, k1, kI, kR, kL, k2, pget, pget_pset, pnl_pset, pnl_cons, pnl_nil, parg, ppush, pcat, zw_lit, zw_m1, zw_m2, zw_m3, zNC_eq, zrow, pup_app, gv_590_4, tg_12_4, sh_590, sh_0, sh_213, e20])
  all_goals repeat' (with_reducible (first | (refine And.intro ?_ ?_) | intro _))
  all_goals (first | omega | (exact Or.inl ⟨by omega, rfl, rfl⟩) | (have h1 := hB.1; exact Or.inr ⟨by omega, by rw [h1]; congr 2; omega, hB⟩) | (have h1 := hB.1; exact Or.inr ⟨by omega, by omega, hB⟩) | skip)

/-- both tapes are one -/
def TB (H : PH) : Prop := H 213 1 = H 590 4 ∧ ∀ i, 0 ≤ i → i < H 213 1 → H 214 i = TM H i
theorem TB_feed {H H1 H2 : PH} {f : Int → Int} (h : TB H) (z0 : 0 ≤ H 213 1) (h1 : FB H H1 (H 213 1) 20 f) (a1 : H1 593 = H 593) (a2 : H1 590 4 = H 590 4) (h2 : FBM H1 H2 (H1 590 4) 20 f) (b1 : H2 214 = H1 214) (b2 : H2 213 1 = H1 213 1) : TB H2 := by
  refine ⟨by have := h1.1; have := h2.1; have := h.1; omega, fun i i0 i1 => ?_⟩
  have e1 := h1.2 i
  have e2 := h2.2 i
  rw [b1, e1, e2, TM_cg a1, a2, ← h.1]
  by_cases c : H 213 1 ≤ i ∧ i < H 213 1 + 20
  · rw [if_pos c, if_pos c]
  · rw [if_neg c, if_neg c]
    have := h1.1
    exact h.2 i i0 (by omega)
theorem TB_same {H H' : PH} (h : TB H) (e1 : H' 213 1 = H 213 1) (e2 : H' 590 4 = H 590 4) (e3 : H' 214 = H 214) (e4 : H' 593 = H 593) : TB H' := by
  refine ⟨by rw [e1, e2]; exact h.1, fun i i0 i1 => ?_⟩
  rw [e3, TM_cg e4]
  exact h.2 i i0 (by omega)
theorem TB_law {H : PH} (h : TB H) : lwAll (H 214) (H 213 1) = lwAll (TM H) (H 590 4) := by
  rw [← h.1]
  exact (lwAll_cg (fun a a0 a1 => (h.2 a a0 a1).symm)).symm
