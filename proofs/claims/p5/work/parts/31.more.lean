/-! ===== the other instructions ===== -/
theorem zu_toInt (x : Int32) : zu x.toInt = zU x := by
  have h : x.toInt = if 2 * x.toBitVec.toNat < 2 ^ 32 then (x.toBitVec.toNat : Int) else (x.toBitVec.toNat : Int) - ((2 ^ 32 : Nat) : Int) := BitVec.toInt_eq_toNat_cond x.toBitVec
  have hl : x.toBitVec.toNat < 2 ^ 32 := x.toBitVec.isLt
  unfold zu zU
  rw [h]
  split <;> omega
theorem zIn_toInt (x : Int32) : zIn x.toInt := by
  have h : x.toInt = if 2 * x.toBitVec.toNat < 2 ^ 32 then (x.toBitVec.toNat : Int) else (x.toBitVec.toNat : Int) - ((2 ^ 32 : Nat) : Int) := BitVec.toInt_eq_toNat_cond x.toBitVec
  have hl : x.toBitVec.toNat < 2 ^ 32 := x.toBitVec.isLt
  unfold zIn
  rw [h]
  split <;> omega
theorem zI_zu {x : Int} (h : zIn x) : (zI (zu x)).toInt = x := by
  have h1 := zsu_toInt (zu x)
  have h2 := zsu_zu h
  omega
theorem zki_pe (x : Int32) (k : zV → zO) : zki x k = k (pe (0, x.toInt)) := by
  rw [zki_eq]
  show k (zi (zU x)) = k (zi (zu x.toInt))
  rw [zu_toInt]
theorem zU6_lt (x : Int64) : ((zU6 x : Nat) : Int) < 18446744073709551616 := by
  have hl : x.toBitVec.toNat < 2 ^ 64 := x.toBitVec.isLt
  unfold zU6
  omega
theorem zkl_pe (x : Int64) (k : zV → zO) : zkl x k = k (pe (1, (zU6 x : Int))) := by
  rw [zkl_eq]
  rfl
def q1 (f : Int32 → Int32) (x : Int) : Int := (f (zI (zu x))).toInt
def q2 (f : Int32 → Int32 → Int32) (x y : Int) : Int := (f (zI (zu x)) (zI (zu y))).toInt
theorem zb2_pe (g : Int32 → Int32 → Int32) (x y : Int) (k : zV → zO) : zb2 g (pe (0, x)) (pe (0, y)) k = k (pe (0, q2 g x y)) := by
  have e : zb2 g (pe (0, x)) (pe (0, y)) k = zki (g (zI (zu x)) (zI (zu y))) k := rfl
  rw [e, zki_pe]
  rfl
theorem zu1_pe (g : Int32 → Int32) (x : Int) (k : zV → zO) : zu1 g (pe (0, x)) k = k (pe (0, q1 g x)) := by
  have e : zu1 g (pe (0, x)) k = zki (g (zI (zu x))) k := rfl
  rw [e, zki_pe]
  rfl
section TR4
variable {G : zG} {us : Nat} {cd : zK} {D : Nat} {rest : List zQ} {p npc a1 a2 : Nat} {ls ls' : PL} {st st' : List pv} {H H' : PH} {Q : Option pv → PH → Prop} {fn : zCn} {f : zFn}
theorem tr_q2 {g : Int32 → Int32 → Int32} {x y : Int} (hq : zQk fn f) (hf : ∀ h, f G p npc a1 a2 (peL ls) (pe (0, y) :: pe (0, x) :: peS st) zNC h = zb2 g (pe (0, x)) (pe (0, y)) (fun v => zgo npc (peL ls) (v :: peS st) h)) (hk : Tr G us cd D rest npc ls ((0, q2 g x y) :: st) H Q) : Tr G us cd D ((fun k => k p fn npc a1 a2) :: rest) p ls ((0, y) :: (0, x) :: st) H Q :=
  tr_n2 (z := q2 g x y) hq (fun h => by
    rw [hf, zb2_pe]) (fun _ _ => zIn_toInt _) hk
theorem tr_iand {x y : Int} (hk : Tr G us cd D rest npc ls ((0, q2 (· &&& ·) x y) :: st) H Q) : Tr G us cd D ((fun k => k p yo_iand npc a1 a2) :: rest) p ls ((0, y) :: (0, x) :: st) H Q := tr_q2 (f := so_iand) (fun _ _ _ _ _ _ _ _ _ _ _ _ _ _ _ => rfl) (fun _ => rfl) hk
theorem tr_ior {x y : Int} (hk : Tr G us cd D rest npc ls ((0, q2 (· ||| ·) x y) :: st) H Q) : Tr G us cd D ((fun k => k p yo_ior npc a1 a2) :: rest) p ls ((0, y) :: (0, x) :: st) H Q := tr_q2 (f := so_ior) (fun _ _ _ _ _ _ _ _ _ _ _ _ _ _ _ => rfl) (fun _ => rfl) hk
theorem tr_ixor {x y : Int} (hk : Tr G us cd D rest npc ls ((0, q2 (· ^^^ ·) x y) :: st) H Q) : Tr G us cd D ((fun k => k p yo_ixor npc a1 a2) :: rest) p ls ((0, y) :: (0, x) :: st) H Q := tr_q2 (f := so_ixor) (fun _ _ _ _ _ _ _ _ _ _ _ _ _ _ _ => rfl) (fun _ => rfl) hk
theorem tr_ishl {x y : Int} (hk : Tr G us cd D rest npc ls ((0, q2 (fun x y => x <<< (y &&& 31)) x y) :: st) H Q) : Tr G us cd D ((fun k => k p yo_ishl npc a1 a2) :: rest) p ls ((0, y) :: (0, x) :: st) H Q := tr_q2 (f := so_ishl) (fun _ _ _ _ _ _ _ _ _ _ _ _ _ _ _ => rfl) (fun _ => rfl) hk
theorem tr_ishr {x y : Int} (hk : Tr G us cd D rest npc ls ((0, q2 (fun x y => x >>> (y &&& 31)) x y) :: st) H Q) : Tr G us cd D ((fun k => k p yo_ishr npc a1 a2) :: rest) p ls ((0, y) :: (0, x) :: st) H Q := tr_q2 (f := so_ishr) (fun _ _ _ _ _ _ _ _ _ _ _ _ _ _ _ => rfl) (fun _ => rfl) hk
theorem tr_iushr {x y : Int} (hk : Tr G us cd D rest npc ls ((0, q2 (fun x y => (x.toUInt32 >>> (y.toUInt32 &&& Int32.toUInt32 31)).toInt32) x y) :: st) H Q) : Tr G us cd D ((fun k => k p yo_iushr npc a1 a2) :: rest) p ls ((0, y) :: (0, x) :: st) H Q := tr_q2 (f := so_iushr) (fun _ _ _ _ _ _ _ _ _ _ _ _ _ _ _ => rfl) (fun _ => rfl) hk
theorem zI_zu_ne {y : Int} (hy : zIn y) (h : y ≠ 0) : ¬ zI (zu y) = 0 := fun q => h (by
  have := zI_zu hy
  rw [q] at this
  exact this.symm)
theorem tr_dv {g : Int32 → Int32 → Int32} {x y : Int} (h0 : y ≠ 0) (hq : zQk fn f) (hf : ∀ h, f G p npc a1 a2 (peL ls) (pe (0, y) :: pe (0, x) :: peS st) zNC h = zdv g (pe (0, x)) (pe (0, y)) (fun v => zgo npc (peL ls) (v :: peS st) h)) (hk : Tr G us cd D rest npc ls ((0, q2 g x y) :: st) H Q) : Tr G us cd D ((fun k => k p fn npc a1 a2) :: rest) p ls ((0, y) :: (0, x) :: st) H Q :=
  tr_nx (ls' := ls) (st' := (0, q2 g x y) :: st) (H' := H) hq (fun hl hs h hW => ⟨h, hW, hl, pokS_cons.mpr ⟨zIn_toInt _, (pokS_cons.mp (pokS_cons.mp hs).2).2⟩, by
    show f G p npc a1 a2 (peL ls) (pe (0, y) :: pe (0, x) :: peS st) zNC h = _
    rw [hf]
    show (if zI (zu y) = 0 then none else zb2 g (pe (0, x)) (zi (zu y)) (fun v => zgo npc (peL ls) (v :: peS st) h)) = _
    rw [if_neg (zI_zu_ne (pokS_cons.mp hs).1 h0)]
    show zb2 g (pe (0, x)) (pe (0, y)) (fun v => zgo npc (peL ls) (v :: peS st) h) = _
    rw [zb2_pe]
    rfl⟩) hk
theorem tr_idiv {x y : Int} (h0 : y ≠ 0) (hk : Tr G us cd D rest npc ls ((0, q2 (· / ·) x y) :: st) H Q) : Tr G us cd D ((fun k => k p yo_idiv npc a1 a2) :: rest) p ls ((0, y) :: (0, x) :: st) H Q := tr_dv h0 (f := so_idiv) (fun _ _ _ _ _ _ _ _ _ _ _ _ _ _ _ => rfl) (fun _ => rfl) hk
theorem tr_irem {x y : Int} (h0 : y ≠ 0) (hk : Tr G us cd D rest npc ls ((0, q2 (fun x y => x - x / y * y) x y) :: st) H Q) : Tr G us cd D ((fun k => k p yo_irem npc a1 a2) :: rest) p ls ((0, y) :: (0, x) :: st) H Q := tr_dv h0 (f := so_irem) (fun _ _ _ _ _ _ _ _ _ _ _ _ _ _ _ => rfl) (fun _ => rfl) hk
theorem tr_q1 {g : Int32 → Int32} {x : Int} (hq : zQk fn f) (hf : ∀ h, f G p npc a1 a2 (peL ls) (pe (0, x) :: peS st) zNC h = zu1 g (pe (0, x)) (fun v => zgo npc (peL ls) (v :: peS st) h)) (hk : Tr G us cd D rest npc ls ((0, q1 g x) :: st) H Q) : Tr G us cd D ((fun k => k p fn npc a1 a2) :: rest) p ls ((0, x) :: st) H Q :=
  tr_nx (ls' := ls) (st' := (0, q1 g x) :: st) (H' := H) hq (fun hl hs h hW => ⟨h, hW, hl, pokS_cons.mpr ⟨zIn_toInt _, (pokS_cons.mp hs).2⟩, by
    show f G p npc a1 a2 (peL ls) (pe (0, x) :: peS st) zNC h = _
    rw [hf, zu1_pe]
    rfl⟩) hk
theorem tr_ineg {x : Int} (hk : Tr G us cd D rest npc ls ((0, q1 (fun x => -x) x) :: st) H Q) : Tr G us cd D ((fun k => k p yo_ineg npc a1 a2) :: rest) p ls ((0, x) :: st) H Q := tr_q1 (f := so_ineg) (fun _ _ _ _ _ _ _ _ _ _ _ _ _ _ _ => rfl) (fun _ => rfl) hk
theorem tr_i2b {x : Int} (hk : Tr G us cd D rest npc ls ((0, q1 (fun x => x.toInt8.toInt32) x) :: st) H Q) : Tr G us cd D ((fun k => k p yo_i2b npc a1 a2) :: rest) p ls ((0, x) :: st) H Q := tr_q1 (f := so_i2b) (fun _ _ _ _ _ _ _ _ _ _ _ _ _ _ _ => rfl) (fun _ => rfl) hk
/-! the stack -/
theorem tr_dup {v : pv} (hv : v.1 ≠ 1) (hk : Tr G us cd D rest npc ls (v :: v :: st) H Q) : Tr G us cd D ((fun k => k p yo_dup npc a1 a2) :: rest) p ls (v :: st) H Q :=
  tr_nx (ls' := ls) (st' := v :: v :: st) (H' := H) (f := so_dup) (fun _ _ _ _ _ _ _ _ _ _ _ _ _ _ _ => rfl) (fun hl hs h hW => ⟨h, hW, hl, pokS_cons.mpr ⟨(pokS_cons.mp hs).1, hs⟩, by
    show zwhen (zis1 (pe v)) (zgo npc (peL ls) (pe v :: pe v :: peS st) h) = _
    have e : zis1 (pe v) = true := by
      obtain ⟨t, x⟩ := v
      match t, hv with
      | 0, _ => rfl
      | _ + 2, _ => rfl
    rw [e]
    rfl⟩) hk
theorem zis1_pe {v : pv} (hv : v.1 ≠ 1) : zis1 (pe v) = true := by
  obtain ⟨t, x⟩ := v
  match t, hv with
  | 0, _ => rfl
  | _ + 2, _ => rfl
theorem tr_dup2 {v w : pv} (hv : v.1 ≠ 1) (hw : w.1 ≠ 1) (hk : Tr G us cd D rest npc ls (w :: v :: w :: v :: st) H Q) : Tr G us cd D ((fun k => k p yo_dup2 npc a1 a2) :: rest) p ls (w :: v :: st) H Q :=
  tr_nx (ls' := ls) (st' := w :: v :: w :: v :: st) (H' := H) (f := so_dup2) (fun _ _ _ _ _ _ _ _ _ _ _ _ _ _ _ => rfl) (fun hl hs h hW => ⟨h, hW, hl, pokS_cons.mpr ⟨(pokS_cons.mp hs).1, pokS_cons.mpr ⟨(pokS_cons.mp (pokS_cons.mp hs).2).1, hs⟩⟩, by
    show zwhen (zis1 (pe v) && zis1 (pe w)) (zgo npc (peL ls) (pe w :: pe v :: pe w :: pe v :: peS st) h) = _
    rw [zis1_pe hv, zis1_pe hw]
    rfl⟩) hk
theorem tr_pop {v : pv} (hv : v.1 ≠ 1) (hk : Tr G us cd D rest npc ls st H Q) : Tr G us cd D ((fun k => k p yo_pop npc a1 a2) :: rest) p ls (v :: st) H Q :=
  tr_nx (ls' := ls) (st' := st) (H' := H) (f := so_pop) (fun _ _ _ _ _ _ _ _ _ _ _ _ _ _ _ => rfl) (fun hl hs h hW => ⟨h, hW, hl, (pokS_cons.mp hs).2, by
    show zwhen (zis1 (pe v)) (zgo npc (peL ls) (peS st) h) = _
    rw [zis1_pe hv]
    rfl⟩) hk
/-! max, min, abs -/
theorem zcat8 (hc : pcat st ≤ 8) : Nat.ble (zcat (peS st)) (nat_lit 8) = true := by
  rw [zcat_pe]
  exact Nat.ble_eq_true_of_le hc
theorem tr_mmax {x y : Int} (hc : pcat st ≤ 8) (hk : Tr G us cd D rest npc ls ((0, if x < y then y else x) :: st) H Q) : Tr G us cd D ((fun k => k p yo_mmax npc a1 a2) :: rest) p ls ((0, y) :: (0, x) :: st) H Q :=
  tr_nx (ls' := ls) (st' := (0, if x < y then y else x) :: st) (H' := H) (f := so_mmax) (fun _ _ _ _ _ _ _ _ _ _ _ _ _ _ _ => rfl) (fun hl hs h hW => by
    obtain ⟨hy, hs1⟩ := pokS_cons.mp hs
    obtain ⟨hx, hs2⟩ := pokS_cons.mp hs1
    refine ⟨h, hW, hl, pokS_cons.mpr ⟨?_, hs2⟩, ?_⟩
    · by_cases e : x < y
      · rw [if_pos e]; exact hy
      · rw [if_neg e]; exact hx
    · show zwhen (Nat.ble (zcat (peS st)) (nat_lit 8)) (zbr (zcmp .lt (pe (0, x)) (pe (0, y))) (zgo npc (peL ls) (pe (0, y) :: peS st) h) (zgo npc (peL ls) (pe (0, x) :: peS st) h)) = _
      rw [zcat8 hc, zwhen_t]
      by_cases e : x < y
      · rw [(zbr_pe (c := .lt) hx hy).1 e, if_pos e]
        rfl
      · rw [(zbr_pe (c := .lt) hx hy).2 e, if_neg e]
        rfl) hk
theorem tr_mmin {x y : Int} (hc : pcat st ≤ 8) (hk : Tr G us cd D rest npc ls ((0, if y < x then y else x) :: st) H Q) : Tr G us cd D ((fun k => k p yo_mmin npc a1 a2) :: rest) p ls ((0, y) :: (0, x) :: st) H Q :=
  tr_nx (ls' := ls) (st' := (0, if y < x then y else x) :: st) (H' := H) (f := so_mmin) (fun _ _ _ _ _ _ _ _ _ _ _ _ _ _ _ => rfl) (fun hl hs h hW => by
    obtain ⟨hy, hs1⟩ := pokS_cons.mp hs
    obtain ⟨hx, hs2⟩ := pokS_cons.mp hs1
    refine ⟨h, hW, hl, pokS_cons.mpr ⟨?_, hs2⟩, ?_⟩
    · by_cases e : y < x
      · rw [if_pos e]; exact hy
      · rw [if_neg e]; exact hx
    · show zwhen (Nat.ble (zcat (peS st)) (nat_lit 8)) (zbr (zcmp .lt (pe (0, y)) (pe (0, x))) (zgo npc (peL ls) (pe (0, y) :: peS st) h) (zgo npc (peL ls) (pe (0, x) :: peS st) h)) = _
      rw [zcat8 hc, zwhen_t]
      by_cases e : y < x
      · rw [(zbr_pe (c := .lt) hy hx).1 e, if_pos e]
        rfl
      · rw [(zbr_pe (c := .lt) hy hx).2 e, if_neg e]
        rfl) hk
/-! rows of references, of bytes; lengths -/
theorem tr_aaload {c i : Int} (h0 : 0 ≤ c) (h1 : c < zNC) (hk1 : 19 ≤ (zSh c.toNat).1) (hi0 : 0 ≤ i) (hi1 : i < (zSh c.toNat).2.1) (hr : 0 ≤ gv H c i + 1) (htg : ∀ k j, 19 ≤ k → ztg k j = 2) (hk : Tr G us cd D rest npc ls ((2, gv H c i) :: st) H Q) : Tr G us cd D ((fun k => k p yo_aaload npc a1 a2) :: rest) p ls ((0, i) :: (2, c) :: st) H Q :=
  tr_nx (ls' := ls) (st' := (2, gv H c i) :: st) (H' := H) (f := so_aaload) (fun _ _ _ _ _ _ _ _ _ _ _ _ _ _ _ => rfl) (fun hl hs h hW => by
    rw [gv_RF hW.2.2 h0 h1 hi0] at hr ⊢
    obtain ⟨n, rfl⟩ := Int.eq_ofNat_of_zero_le h0
    obtain ⟨m, rfl⟩ := Int.eq_ofNat_of_zero_le hi0
    have hn : n < zNC := by omega
    obtain ⟨w1, w2, -, w4⟩ := hW.2.1 n hn
    have e : ((n : Int)).toNat = n := by omega
    have em : ((m : Int)).toNat = m := by omega
    rw [e] at hk1 hi1
    obtain ⟨-, -, w5⟩ := w4 (fun q => by have := q.2; omega)
    obtain ⟨w6, w7⟩ := w5 m (by omega)
    rw [htg _ _ hk1] at w6 w7
    refine ⟨h, hW, hl, pokS_cons.mpr ⟨w7, (pokS_cons.mp (pokS_cons.mp hs).2).2⟩, ?_⟩
    show zcell zNC h (pe (2, (n : Int))) (fun _ c => zwhen (Nat.ble (nat_lit 19) c.1) (zidx c.2.1 (pe (0, (m : Int))) (fun u => zwhen (zisR (zget c.2.2.2 u)) (zgo npc (peL ls) (zget c.2.2.2 u :: peS st) h)))) = _
    have hlen := zSh_len_lt n hn
    have eb : Nat.ble (nat_lit 19) (zSh n).1 = true := Nat.ble_eq_true_of_le hk1
    rw [zcell_pe hn, w1, eb, zwhen_t, w2, zidx_pe (by omega) hi1 (by omega), em, w6, pe_R hr]
    rfl) hk
theorem tr_alen {c : Int} (h0 : 0 ≤ c) (h1 : c < zNC) (hk1 : 16 ≤ (zSh c.toNat).1) (hk : Tr G us cd D rest npc ls ((0, ((zSh c.toNat).2.1 : Int)) :: st) H Q) : Tr G us cd D ((fun k => k p yo_arraylength npc a1 a2) :: rest) p ls ((2, c) :: st) H Q :=
  tr_nx (ls' := ls) (st' := (0, ((zSh c.toNat).2.1 : Int)) :: st) (H' := H) (f := so_arraylength) (fun _ _ _ _ _ _ _ _ _ _ _ _ _ _ _ => rfl) (fun hl hs h hW => by
    obtain ⟨n, rfl⟩ := Int.eq_ofNat_of_zero_le h0
    have hn : n < zNC := by omega
    obtain ⟨w1, w2, -, -⟩ := hW.2.1 n hn
    have e : ((n : Int)).toNat = n := by omega
    rw [e] at hk1 ⊢
    have hlen := zSh_len_lt n hn
    have hz : zIn ((zSh n).2.1 : Int) := ⟨by omega, by omega⟩
    refine ⟨h, hW, hl, pokS_cons.mpr ⟨hz, (pokS_cons.mp hs).2⟩, ?_⟩
    have ea : so_arraylength G p npc a1 a2 (peL ls) (peS ((2, (n : Int)) :: st)) zNC h = zcell zNC h (pe (2, (n : Int))) (fun _ c => zwhen (Nat.ble (nat_lit 16) c.1) (zgo npc (peL ls) (zi c.2.1 :: peS st) h)) := by
      show zalen G npc (peL ls) (peS st) zNC h (pe (2, (n : Int))) = _
      rw [pe_cell]
      rfl
    have eb : Nat.ble (nat_lit 16) (zSh n).1 = true := Nat.ble_eq_true_of_le hk1
    rw [ea, zcell_pe hn, w1, eb, zwhen_t, w2]
    show zgo npc (peL ls) (zi (zSh n).2.1 :: peS st) h = zgo npc (peL ls) (zi (zu ((zSh n).2.1 : Int)) :: peS st) h
    rw [zu_nat (by omega)]) hk
/-! longs -/
theorem zlong_pe (x : Int) (k : Nat → zO) : zlong1 (pe (1, x)) k = k x.toNat := rfl
theorem zint_pe (x : Int) (k : Nat → zO) : zint1 (pe (0, x)) k = k (zu x) := rfl
def qil (x : Int) : Int := (zU6 (zI (zu x)).toInt64 : Int)
def qli (x : Int) : Int := (zI6 x.toNat).toInt32.toInt
def qladd (x y : Int) : Int := (zU6 (zI6 x.toNat + zI6 y.toNat) : Int)
def qlshl (x y : Int) : Int := (zU6 (zI6 x.toNat <<< ((zI (zu y)).toInt64 &&& 63)) : Int)
def qlushr (x y : Int) : Int := (zU6 ((zI6 x.toNat).toUInt64 >>> ((zI (zu y)).toInt64.toUInt64 &&& Int64.toUInt64 63)).toInt64 : Int)
def qlcmp (x y : Int) : Int := (lg_cmp (zI6 x.toNat) (zI6 y.toNat)).toInt
theorem tr_i2l {x : Int} (hk : Tr G us cd D rest npc ls ((1, qil x) :: st) H Q) : Tr G us cd D ((fun k => k p yo_i2l npc a1 a2) :: rest) p ls ((0, x) :: st) H Q :=
  tr_nx (ls' := ls) (st' := (1, qil x) :: st) (H' := H) (f := so_i2l) (fun _ _ _ _ _ _ _ _ _ _ _ _ _ _ _ => rfl) (fun hl hs h hW => ⟨h, hW, hl, pokS_cons.mpr ⟨pok_l (Int.natCast_nonneg _) (zU6_lt _), (pokS_cons.mp hs).2⟩, by
    show zint1 (pe (0, x)) (fun u => zkl (zI u).toInt64 (fun v => zgo npc (peL ls) (v :: peS st) h)) = _
    rw [zint_pe, zkl_pe]
    rfl⟩) hk
theorem tr_l2i {x : Int} (hk : Tr G us cd D rest npc ls ((0, qli x) :: st) H Q) : Tr G us cd D ((fun k => k p yo_l2i npc a1 a2) :: rest) p ls ((1, x) :: st) H Q :=
  tr_nx (ls' := ls) (st' := (0, qli x) :: st) (H' := H) (f := so_l2i) (fun _ _ _ _ _ _ _ _ _ _ _ _ _ _ _ => rfl) (fun hl hs h hW => ⟨h, hW, hl, pokS_cons.mpr ⟨zIn_toInt _, (pokS_cons.mp hs).2⟩, by
    show zlong1 (pe (1, x)) (fun u => zki (zI6 u).toInt32 (fun v => zgo npc (peL ls) (v :: peS st) h)) = _
    rw [zlong_pe, zki_pe]
    rfl⟩) hk
theorem tr_ladd {x y : Int} (hk : Tr G us cd D rest npc ls ((1, qladd x y) :: st) H Q) : Tr G us cd D ((fun k => k p yo_ladd npc a1 a2) :: rest) p ls ((1, y) :: (1, x) :: st) H Q :=
  tr_nx (ls' := ls) (st' := (1, qladd x y) :: st) (H' := H) (f := so_ladd) (fun _ _ _ _ _ _ _ _ _ _ _ _ _ _ _ => rfl) (fun hl hs h hW => ⟨h, hW, hl, pokS_cons.mpr ⟨pok_l (Int.natCast_nonneg _) (zU6_lt _), (pokS_cons.mp (pokS_cons.mp hs).2).2⟩, by
    show zlong1 (pe (1, x)) (fun u => zlong1 (pe (1, y)) (fun w => zkl (zI6 u + zI6 w) (fun v => zgo npc (peL ls) (v :: peS st) h))) = _
    rw [zlong_pe, zlong_pe, zkl_pe]
    rfl⟩) hk
theorem tr_lshl {x y : Int} (hk : Tr G us cd D rest npc ls ((1, qlshl x y) :: st) H Q) : Tr G us cd D ((fun k => k p yo_lshl npc a1 a2) :: rest) p ls ((0, y) :: (1, x) :: st) H Q :=
  tr_nx (ls' := ls) (st' := (1, qlshl x y) :: st) (H' := H) (f := so_lshl) (fun _ _ _ _ _ _ _ _ _ _ _ _ _ _ _ => rfl) (fun hl hs h hW => ⟨h, hW, hl, pokS_cons.mpr ⟨pok_l (Int.natCast_nonneg _) (zU6_lt _), (pokS_cons.mp (pokS_cons.mp hs).2).2⟩, by
    show zlong1 (pe (1, x)) (fun u => zint1 (pe (0, y)) (fun w => zkl (zI6 u <<< ((zI w).toInt64 &&& 63)) (fun v => zgo npc (peL ls) (v :: peS st) h))) = _
    rw [zlong_pe, zint_pe, zkl_pe]
    rfl⟩) hk
theorem tr_lushr {x y : Int} (hk : Tr G us cd D rest npc ls ((1, qlushr x y) :: st) H Q) : Tr G us cd D ((fun k => k p yo_lushr npc a1 a2) :: rest) p ls ((0, y) :: (1, x) :: st) H Q :=
  tr_nx (ls' := ls) (st' := (1, qlushr x y) :: st) (H' := H) (f := so_lushr) (fun _ _ _ _ _ _ _ _ _ _ _ _ _ _ _ => rfl) (fun hl hs h hW => ⟨h, hW, hl, pokS_cons.mpr ⟨pok_l (Int.natCast_nonneg _) (zU6_lt _), (pokS_cons.mp (pokS_cons.mp hs).2).2⟩, by
    show zlong1 (pe (1, x)) (fun u => zint1 (pe (0, y)) (fun w => zkl ((zI6 u).toUInt64 >>> ((zI w).toInt64.toUInt64 &&& Int64.toUInt64 63)).toInt64 (fun v => zgo npc (peL ls) (v :: peS st) h))) = _
    rw [zlong_pe, zint_pe, zkl_pe]
    rfl⟩) hk
theorem so_lcmp_pe (x y : Int) (h : zH) : so_lcmp G p npc a1 a2 (peL ls) (pe (1, y) :: pe (1, x) :: peS st) zNC h = zgo npc (peL ls) (pe (0, qlcmp x y) :: peS st) h := by
  unfold so_lcmp qlcmp
  rw [z2_cons, zlong_pe, zlong_pe, zki_pe]
theorem tr_lcmp {x y : Int} (hk : Tr G us cd D rest npc ls ((0, qlcmp x y) :: st) H Q) : Tr G us cd D ((fun k => k p yo_lcmp npc a1 a2) :: rest) p ls ((1, y) :: (1, x) :: st) H Q :=
  tr_nx (ls' := ls) (st' := (0, qlcmp x y) :: st) (H' := H) (f := so_lcmp) (fun _ _ _ _ _ _ _ _ _ _ _ _ _ _ _ => rfl) (fun hl hs h hW => ⟨h, hW, hl, pokS_cons.mpr ⟨zIn_toInt _, (pokS_cons.mp (pokS_cons.mp hs).2).2⟩, so_lcmp_pe x y h⟩) hk
end TR4
