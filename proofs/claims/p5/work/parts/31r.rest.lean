section TR5
variable {G : zG} {us : Nat} {cd : zK} {D : Nat} {rest : List zQ} {p npc a1 a2 : Nat} {ls ls' : PL} {st st' : List pv} {H H' : PH} {Q : Option pv → PH → Prop} {fn : zCn} {f : zFn}
theorem zist_pe {h : zH} (hW : zW h H) {n m : Nat} {x : Int} (hn : n < zNC) (hrow : zrow (zSh n).1) (hm : m < (zSh n).2.1) (hx : zIn x) : ∃ h', zW h' (pup H n m x) ∧ zist npc (peL ls) (peS st) h n (zget h n) (pe (0, (m : Int))) (pe (0, x)) = zgo npc (peL ls) (peS st) h' := by
  obtain ⟨w1, w2, w3, -⟩ := hW.2.1 n hn
  have hlen := zSh_len_lt n hn
  have em : ((m : Int)).toNat = m := by omega
  refine ⟨_, zW_put hW hn (q := ((zget h n).1, (zget h n).2.1, zsd (zget h n).2.2.1 m (zu x), (zget h n).2.2.2)) ⟨w1, w2, fun _ i hi => ?_, fun q => absurd hrow q⟩ (fun c hc i => pup_other (fun q => hc (by omega))) (RF_row hW.2.2 ⟨by omega, by omega, by omega, by rw [show ((n : Int)).toNat = n by omega]; omega⟩ (by omega) (by omega) (by have e : ((n : Int)).toNat = n := (by omega); rw [e]; exact hrow)), ?_⟩
  · show zdg (zsd (zget h n).2.2.1 m (zu x)) i = _ ∧ _
    have hlt : zu x < 2 ^ 48 := by
      have := zu_lt x
      omega
    rw [zdg_zsd _ _ _ _ hlt]
    by_cases ei : i = m
    · rw [if_pos ei, ei, pup_same]
      exact ⟨rfl, hx⟩
    · rw [if_neg ei, pup_other (fun q => ei (by omega))]
      exact w3 hrow i hi
  · show zidx (zget h n).2.1 (pe (0, (m : Int))) (fun u => zen (pe (0, x)) (fun N => fN (zsd (zget h n).2.2.1 u N) (fun N => zset h ((zget h n).1, (zget h n).2.1, N, (zget h n).2.2.2) n (fun h' => zgo npc (peL ls) (peS st) h')))) = _
    have ez : ∀ k : Nat → zO, zen (pe (0, x)) k = k (zu x) := fun k => by
      show Bool.rec (motive := fun _ => zO) none (k (zu x)) (Nat.blt (zu x) (nat_lit 4294967296)) = _
      have e : Nat.blt (zu x) (nat_lit 4294967296) = true := Nat.ble_eq_true_of_le (zu_lt x)
      rw [e]
    rw [w2, zidx_pe (by omega) (by omega) (by omega), em, ez, fN_eq, zset_eq]
theorem zbeq17 : Nat.beq 17 (nat_lit 17) = true := rfl
theorem zbeq1817 : Nat.beq 18 (nat_lit 17) = false := rfl
theorem zbeq18 : Nat.beq 18 (nat_lit 18) = true := rfl
theorem zbeq1718 : Nat.beq 17 (nat_lit 18) = false := rfl
def qb (k : Nat) (x : Int) : Int := if k = 17 then q1 (fun x => x.toInt8.toInt32) x else q1 (fun x => x &&& 1) x
theorem tr_bastore {c i x : Int} (h0 : 0 ≤ c) (h1 : c < zNC) (hk1 : (zSh c.toNat).1 = 17 ∨ (zSh c.toNat).1 = 18) (hi0 : 0 ≤ i) (hi1 : i < (zSh c.toNat).2.1) (hk : Tr G us cd D rest npc ls st (pup H c i (qb (zSh c.toNat).1 x)) Q) : Tr G us cd D ((fun k => k p yo_bastore npc a1 a2) :: rest) p ls ((0, x) :: (0, i) :: (2, c) :: st) H Q :=
  tr_nx (ls' := ls) (st' := st) (H' := pup H c i (qb (zSh c.toNat).1 x)) (f := so_bastore) (fun _ _ _ _ _ _ _ _ _ _ _ _ _ _ _ => rfl) (fun hl hs h hW => by
    obtain ⟨n, rfl⟩ := Int.eq_ofNat_of_zero_le h0
    obtain ⟨m, rfl⟩ := Int.eq_ofNat_of_zero_le hi0
    have hn : n < zNC := by omega
    have e : ((n : Int)).toNat = n := by omega
    rw [e] at hk1 hi1 ⊢
    obtain ⟨w1, -, -, -⟩ := hW.2.1 n hn
    have hs3 := (pokS_cons.mp (pokS_cons.mp (pokS_cons.mp hs).2).2).2
    have es : so_bastore G p npc a1 a2 (peL ls) (peS ((0, x) :: (0, (m : Int)) :: (2, (n : Int)) :: st)) zNC h = zcell zNC h (pe (2, (n : Int))) (fun q c => Bool.rec (motive := fun _ => zO) (zwhen (Nat.beq c.1 (nat_lit 18)) (zu1 (fun x => x &&& 1) (pe (0, x)) (fun w => zist npc (peL ls) (peS st) h q c (pe (0, (m : Int))) w))) (zu1 (fun x => x.toInt8.toInt32) (pe (0, x)) (fun w => zist npc (peL ls) (peS st) h q c (pe (0, (m : Int))) w)) (Nat.beq c.1 (nat_lit 17))) := rfl
    rcases hk1 with hk1 | hk1
    · obtain ⟨h', g1, g2⟩ := zist_pe (npc := npc) (ls := ls) (st := st) hW hn (by rw [hk1]; exact ⟨by omega, by omega⟩) (by omega : m < (zSh n).2.1) (zIn_toInt _ : zIn (q1 (fun x => x.toInt8.toInt32) x))
      refine ⟨h', ?_, hl, hs3, ?_⟩
      · rw [hk1]
        exact g1
      · rw [es, zcell_pe hn, w1, hk1, zbeq17]
        show zu1 (fun x => x.toInt8.toInt32) (pe (0, x)) (fun w => zist npc (peL ls) (peS st) h n (zget h n) (pe (0, (m : Int))) w) = _
        rw [zu1_pe]
        exact g2
    · obtain ⟨h', g1, g2⟩ := zist_pe (npc := npc) (ls := ls) (st := st) hW hn (by rw [hk1]; exact ⟨by omega, by omega⟩) (by omega : m < (zSh n).2.1) (zIn_toInt _ : zIn (q1 (fun x => x &&& 1) x))
      refine ⟨h', ?_, hl, hs3, ?_⟩
      · rw [hk1]
        exact g1
      · rw [es, zcell_pe hn, w1, hk1, zbeq1817, zbeq18]
        show zu1 (fun x => x &&& 1) (pe (0, x)) (fun w => zist npc (peL ls) (peS st) h n (zget h n) (pe (0, (m : Int))) w) = _
        rw [zu1_pe]
        exact g2) hk
theorem tr_baload {c i : Int} (h0 : 0 ≤ c) (h1 : c < zNC) (hk1 : (zSh c.toNat).1 = 17 ∨ (zSh c.toNat).1 = 18) (hi0 : 0 ≤ i) (hi1 : i < (zSh c.toNat).2.1) (hk : Tr G us cd D rest npc ls ((0, H c i) :: st) H Q) : Tr G us cd D ((fun k => k p yo_baload npc a1 a2) :: rest) p ls ((0, i) :: (2, c) :: st) H Q :=
  tr_nx (ls' := ls) (st' := (0, H c i) :: st) (H' := H) (f := so_baload) (fun _ _ _ _ _ _ _ _ _ _ _ _ _ _ _ => rfl) (fun hl hs h hW => by
    obtain ⟨n, rfl⟩ := Int.eq_ofNat_of_zero_le h0
    obtain ⟨m, rfl⟩ := Int.eq_ofNat_of_zero_le hi0
    have hn : n < zNC := by omega
    obtain ⟨w1, w2, w3, -⟩ := hW.2.1 n hn
    have e : ((n : Int)).toNat = n := by omega
    have em : ((m : Int)).toNat = m := by omega
    rw [e] at hk1 hi1
    obtain ⟨w6, w7⟩ := w3 (by rcases hk1 with hk1 | hk1 <;> rw [hk1] <;> exact ⟨by omega, by omega⟩) m (by omega)
    refine ⟨h, hW, hl, pokS_cons.mpr ⟨w7, (pokS_cons.mp (pokS_cons.mp hs).2).2⟩, ?_⟩
    have es : so_baload G p npc a1 a2 (peL ls) (peS ((0, (m : Int)) :: (2, (n : Int)) :: st)) zNC h = zcell zNC h (pe (2, (n : Int))) (fun _ c => zwhen (Nat.beq c.1 (nat_lit 17) || Nat.beq c.1 (nat_lit 18)) (zidx c.2.1 (pe (0, (m : Int))) (fun u => zkde (zdg c.2.2.1 u) (fun a => zgo npc (peL ls) (a :: peS st) h)))) := rfl
    have eb : (Nat.beq (zSh n).1 (nat_lit 17) || Nat.beq (zSh n).1 (nat_lit 18)) = true := by
      rcases hk1 with hk1 | hk1 <;> rw [hk1] <;> rfl
    have hlen := zSh_len_lt n hn
    rw [es, zcell_pe hn, w1, eb, zwhen_t, w2, zidx_pe (by omega) hi1 (by omega), em, w6, zkde_eq, zde_pe]
    rfl) hk
theorem tr_aastore {c i d : Int} (h0 : 0 ≤ c) (h1 : c < zNC) (hk1 : 19 ≤ (zSh c.toNat).1) (hi0 : 0 ≤ i) (hi1 : i < (zSh c.toNat).2.1) (hd0 : 0 ≤ d) (hd1 : d < zNC) (hkd : (zSh d.toNat).1 = zcls (zSh c.toNat).1) (htg : ∀ k j, 19 ≤ k → ztg k j = 2) (hz : zrtL c.toNat = []) (hk : Tr G us cd D rest npc ls st (pup H c i d) Q) : Tr G us cd D ((fun k => k p yo_aastore npc a1 a2) :: rest) p ls ((2, d) :: (0, i) :: (2, c) :: st) H Q :=
  tr_nx (ls' := ls) (st' := st) (H' := pup H c i d) (f := so_aastore) (fun _ _ _ _ _ _ _ _ _ _ _ _ _ _ _ => rfl) (fun hl hs h hW => by
    obtain ⟨n, rfl⟩ := Int.eq_ofNat_of_zero_le h0
    obtain ⟨m, rfl⟩ := Int.eq_ofNat_of_zero_le hi0
    obtain ⟨b, rfl⟩ := Int.eq_ofNat_of_zero_le hd0
    have hn : n < zNC := by omega
    have hb : b < zNC := by omega
    have e : ((n : Int)).toNat = n := by omega
    have em : ((m : Int)).toNat = m := by omega
    have ebn : ((b : Int)).toNat = b := by omega
    rw [e] at hk1 hi1 hkd
    rw [ebn] at hkd
    obtain ⟨w1, w2, -, w4⟩ := hW.2.1 n hn
    obtain ⟨v1, -, -, -⟩ := hW.2.1 b hb
    have hnr : ¬ zrow (zSh n).1 := fun q => by have := q.2; omega
    obtain ⟨w5, w6, w7⟩ := w4 hnr
    have hlen := zSh_len_lt n hn
    have hpd : pok (2, (b : Int)) := (pokS_cons.mp hs).1
    refine ⟨_, zW_put hW hn (q := ((zget h n).1, (zget h n).2.1, (zget h n).2.2.1, zput (zget h n).2.2.2 (pe (2, (b : Int))) m)) ⟨w1, w2, fun q => absurd q hnr, fun _ => ⟨zput_full _ _ _ _ _ w5, w6, fun i hi => ?_⟩⟩ (fun c hc i => pup_other (fun q => hc (by omega))) (RF_pup hW.2.2 ⟨h0, h1, by omega, by rw [e]; omega⟩ (fun n' m' hn' e1 e2 => by
      have en : n = n' := by omega
      subst en
      rw [e] at hz
      unfold zrt
      rw [hz]
      rfl)), hl, (pokS_cons.mp (pokS_cons.mp (pokS_cons.mp hs).2).2).2, ?_⟩
    · have hg := zget_zput (pe (2, (b : Int))) m i (zSh n).2.2 0 (zget h n).2.2.2 w5 (by omega) (by omega) (by omega) (by omega)
      show zget (zput (zget h n).2.2.2 (pe (2, (b : Int))) m) i = _ ∧ _
      rw [hg]
      by_cases ei : i = m
      · rw [if_pos ei, ei, pup_same, htg _ _ hk1]
        exact ⟨rfl, hpd⟩
      · rw [if_neg ei, pup_other (fun q => ei (by omega))]
        exact w7 i hi
    · have es : so_aastore G p npc a1 a2 (peL ls) (peS ((2, (b : Int)) :: (0, (m : Int)) :: (2, (n : Int)) :: st)) zNC h = zcell zNC h (pe (2, (n : Int))) (fun q c => zcell zNC h (pe (2, (b : Int))) (fun _ c2 => zwhen (Nat.beq c2.1 (zcls c.1)) (zast npc (peL ls) (peS st) h q c (pe (0, (m : Int))) (pe (2, (b : Int)))))) := rfl
      rw [es, zcell_pe hn, zcell_pe hb, v1, w1, hkd, Nat.beq_refl, zwhen_t]
      show zidx (zget h n).2.1 (pe (0, (m : Int))) (fun u => zset (zget h n).2.2.2 (pe (2, (b : Int))) u (fun t => zset h ((zget h n).1, (zget h n).2.1, (zget h n).2.2.1, t) n (fun h' => zgo npc (peL ls) (peS st) h'))) = _
      rw [w2, zidx_pe (by omega) hi1 (by omega), em, zset_eq, zset_eq, w1]) hk
theorem tr_mabs {x : Int} (hc : pcat st ≤ 8) (hk : Tr G us cd D rest npc ls ((0, if 0 ≤ x then x else zw (0 - x)) :: st) H Q) : Tr G us cd D ((fun k => k p yo_mabs npc a1 a2) :: rest) p ls ((0, x) :: st) H Q :=
  tr_nx (ls' := ls) (st' := (0, if 0 ≤ x then x else zw (0 - x)) :: st) (H' := H) (f := so_mabs) (fun _ _ _ _ _ _ _ _ _ _ _ _ _ _ _ => rfl) (fun hl hs h hW => by
    obtain ⟨hx, hs1⟩ := pokS_cons.mp hs
    have h00 : zIn 0 := ⟨by omega, by omega⟩
    refine ⟨h, hW, hl, pokS_cons.mpr ⟨?_, hs1⟩, ?_⟩
    · by_cases e : 0 ≤ x
      · rw [if_pos e]; exact hx
      · rw [if_neg e]; exact zw_in _
    · have es : so_mabs G p npc a1 a2 (peL ls) (peS ((0, x) :: st)) zNC h = zwhen (Nat.ble (zcat (peS st)) (nat_lit 8)) (zbr (zcmp .ge (pe (0, x)) (pe (0, 0))) (zgo npc (peL ls) (pe (0, x) :: peS st) h) (zsub (pe (0, 0)) (pe (0, x)) (fun v => zgo npc (peL ls) (v :: peS st) h))) := rfl
      rw [es, zcat8 hc, zwhen_t]
      by_cases e : 0 ≤ x
      · rw [(zbr_pe (c := .ge) hx h00).1 e, if_pos e]
        rfl
      · rw [(zbr_pe (c := .ge) hx h00).2 e, if_neg e]
        have e2 : zsub (pe (0, 0)) (pe (0, x)) (fun v => zgo npc (peL ls) (v :: peS st) h) = zk32 (zu 0 + (4294967296 - zu x % 4294967296)) (fun v => zgo npc (peL ls) (v :: peS st) h) := rfl
        rw [e2, zk32_eq, zu_sub]
        rfl) hk
/-! switches -/
def ptl (p : Nat) (off : Int) : Option Nat := if 0 ≤ (p : Int) + off then some ((p : Int) + off).toNat else none
def ptsw (p : Nat) (d lo hi : Int) (offs : Array Int) (x : Int) : Option Nat := if x < lo ∨ hi < x then ptl p d else match offs[(x - lo).toNat]? with
  | some off => ptl p off
  | none => none
theorem ztgt_pe {off : Int} {t : Nat} (h : ptl p off = some t) (k : Nat → zO) : ztgt p off k = k t := by
  unfold ptl at h
  unfold ztgt
  by_cases e : 0 ≤ (p : Int) + off
  · rw [if_pos e] at h ⊢
    cases h
    rfl
  · rw [if_neg e] at h
    cases h
theorem tr_tsw {x d lo hi : Int} {offs : Array Int} {t : Nat} (h : ptsw p d lo hi offs x = some t) (hk : Tr G us cd D (Bool.rec (motive := fun _ => List zQ) (zget cd t) rest (Nat.beq t npc)) t ls st H Q) : Tr G us cd D ((fun k => k p (yo_tableswitch d lo hi offs) npc a1 a2) :: rest) p ls ((0, x) :: st) H Q :=
  tr_at (ls' := ls) (st' := st) (H' := H) (f := so_tableswitch d lo hi offs) (fun _ _ _ _ _ _ _ _ _ _ _ _ _ _ _ => rfl) (fun hl hs h0 hW => ⟨h0, hW, hl, (pokS_cons.mp hs).2, by
    have hx : zIn x := (pokS_cons.mp hs).1
    show zsw p d lo hi offs (pe (0, x)) (fun t => zgo t (peL ls) (peS st) h0) = _
    unfold zsw
    have eb : zbd (pe (0, x)) = some (x, x) := by
      show some ((zI (zu x)).toInt, (zI (zu x)).toInt) = _
      rw [zI_zu hx]
    rw [eb]
    unfold ptsw at h
    by_cases e : x < lo ∨ hi < x
    · rw [if_pos e] at h
      show (if x < lo ∨ hi < x then ztgt p d _ else _) = _
      rw [if_pos e, ztgt_pe h]
    · rw [if_neg e] at h
      show (if x < lo ∨ hi < x then ztgt p d _ else if x = x ∧ lo ≤ x ∧ x ≤ hi then _ else _) = _
      rw [if_neg e, if_pos ⟨rfl, by omega, by omega⟩]
      match ho : offs[(x - lo).toNat]?, h with
      | some off, h => exact ztgt_pe h _⟩) rfl hk
theorem tr_lsw {x d : Int} {ps : Array (Int × Int)} {t : Nat} (h : ptl p (Op.lookupswitch.offset ps.toList d x) = some t) (hk : Tr G us cd D (Bool.rec (motive := fun _ => List zQ) (zget cd t) rest (Nat.beq t npc)) t ls st H Q) : Tr G us cd D ((fun k => k p (yo_lookupswitch d ps) npc a1 a2) :: rest) p ls ((0, x) :: st) H Q :=
  tr_at (ls' := ls) (st' := st) (H' := H) (f := so_lookupswitch d ps) (fun _ _ _ _ _ _ _ _ _ _ _ _ _ _ _ => rfl) (fun hl hs h0 hW => ⟨h0, hW, hl, (pokS_cons.mp hs).2, by
    have hx : zIn x := (pokS_cons.mp hs).1
    show ztgt p (Op.lookupswitch.offset ps.toList d (zI (zu x)).toInt) (fun t => zgo t (peL ls) (peS st) h0) = _
    rw [zI_zu hx]
    exact ztgt_pe h _⟩) rfl hk
end TR5
