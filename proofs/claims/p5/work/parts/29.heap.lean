/-- a test of every leaf -/
def zAny {α : Type} (q : α → Bool) : zT α → Bool
  | .leaf a => q a
  | .branch _ l r => zAny q l && zAny q r
theorem zallD {α : Type} {P : α → Prop} (q : α → Bool) (hq : ∀ a, q a = true → P a) : ∀ {t : zT α}, zAny q t = true → zAll P t
  | .leaf a, h => hq a h
  | .branch _ l r, h => ⟨zallD q hq (Bool.and_eq_true_iff.mp h).1, zallD q hq (Bool.and_eq_true_iff.mp h).2⟩
section TR2
variable {G : zG} {us : Nat} {cd : zK} {D : Nat} {rest : List zQ} {p npc a1 a2 : Nat} {ls ls' : PL} {st st' : List pv} {H H' : PH} {Q : Option pv → PH → Prop} {fn : zCn} {f : zFn}
/-! ===== cells ===== -/
theorem pe_cell (n : Nat) : pe (2, (n : Int)) = zr (n + 2) := by
  show zr ((n : Int) + 2).toNat = zr (n + 2)
  congr 4
theorem zcell_pe {n : Nat} (hn : n < zNC) {h : zH} {k : Nat → zC → zO} : zcell zNC h (pe (2, (n : Int))) k = k n (zget h n) := by
  rw [pe_cell]
  show Bool.rec (motive := fun _ => zO) none (k n (zget h n)) (Nat.blt n zNC) = _
  have e : Nat.blt n zNC = true := Nat.ble_eq_true_of_le hn
  rw [e]
theorem zidx_pe {n : Nat} {i : Int} (h0 : 0 ≤ i) (h1 : i < n) (hn : n < 4294967296) {k : Nat → zO} : zidx n (pe (0, i)) k = k i.toNat := by
  have e : zu i = i.toNat := by
    unfold zu
    omega
  show Bool.rec (motive := fun _ => zO) none (k (zu i)) (Nat.blt (zu i) n) = _
  have e2 : Nat.blt (zu i) n = true := Nat.ble_eq_true_of_le (by omega : zu i + 1 ≤ n)
  rw [e2, e]
theorem zde_pe (x : Int) : zde (zu x) = pe (0, x) := by
  have e : Nat.blt (zu x) (nat_lit 4294967296) = true := Nat.ble_eq_true_of_le (zu_lt x)
  rw [zde_I e]
  rfl
theorem zSh_len_lt : ∀ c, c < zNC → (zSh c).2.1 < 100000 := by
  have h : zAll (fun q : Nat × Nat × Nat => q.2.1 < 100000) zShT := zallD (fun q : Nat × Nat × Nat => Nat.blt q.2.1 100000) (fun q hq => Nat.le_of_ble_eq_true hq) (by decide +kernel)
  exact fun c _ => zAll_get h c
theorem zbeq16 : Nat.beq 16 (nat_lit 16) = true := rfl
theorem zwhen_t {k : zO} : zwhen true k = k := rfl
theorem tr_getfield {c : Int} (h0 : 0 ≤ c) (h1 : c < zNC) (hk1 : (zSh c.toNat).1 = a1) (hr : ¬ zrow a1) (ha : a2 < (zSh c.toNat).2.1) (hk : Tr G us cd D rest npc ls ((ztg a1 a2, gv H c a2) :: st) H Q) : Tr G us cd D ((fun k => k p yo_getfield npc a1 a2) :: rest) p ls ((2, c) :: st) H Q :=
  tr_nx (ls' := ls) (st' := (ztg a1 a2, gv H c a2) :: st) (H' := H) yk_getfield (fun hl hs h hW => by
    rw [gv_RF hW.2.2 h0 h1 (by omega)]
    obtain ⟨n, rfl⟩ := Int.eq_ofNat_of_zero_le h0
    have hn : n < zNC := by omega
    obtain ⟨w1, w2, -, w4⟩ := hW.2.1 n hn
    have e : ((n : Int)).toNat = n := by omega
    rw [e] at hk1 ha
    obtain ⟨-, -, w5⟩ := w4 (by rw [hk1]; exact hr)
    obtain ⟨w6, w7⟩ := w5 a2 ha
    rw [hk1] at w6 w7
    refine ⟨h, hW, hl, pokS_cons.mpr ⟨w7, (pokS_cons.mp hs).2⟩, ?_⟩
    show zcell zNC h (pe (2, (n : Int))) (fun _ c => zwhen (Nat.beq c.1 a1) (zgo npc (peL ls) (zget c.2.2.2 a2 :: peS st) h)) = _
    rw [zcell_pe hn, w1, hk1, Nat.beq_refl, w6]
    rfl) hk
theorem tr_iaload {c i : Int} (h0 : 0 ≤ c) (h1 : c < zNC) (hk1 : (zSh c.toNat).1 = 16) (hi0 : 0 ≤ i) (hi1 : i < (zSh c.toNat).2.1) (hk : Tr G us cd D rest npc ls ((0, H c i) :: st) H Q) : Tr G us cd D ((fun k => k p yo_iaload npc a1 a2) :: rest) p ls ((0, i) :: (2, c) :: st) H Q :=
  tr_nx (ls' := ls) (st' := (0, H c i) :: st) (H' := H) yk_iaload (fun hl hs h hW => by
    obtain ⟨n, rfl⟩ := Int.eq_ofNat_of_zero_le h0
    obtain ⟨m, rfl⟩ := Int.eq_ofNat_of_zero_le hi0
    have hn : n < zNC := by omega
    obtain ⟨w1, w2, w3, -⟩ := hW.2.1 n hn
    have e : ((n : Int)).toNat = n := by omega
    have em : ((m : Int)).toNat = m := by omega
    rw [e] at hk1 hi1
    obtain ⟨w6, w7⟩ := w3 (by rw [hk1]; exact ⟨by omega, by omega⟩) m (by omega)
    refine ⟨h, hW, hl, pokS_cons.mpr ⟨w7, (pokS_cons.mp (pokS_cons.mp hs).2).2⟩, ?_⟩
    show zali G npc (peL ls) (peS st) zNC h (pe (2, (n : Int))) (pe (0, (m : Int))) = _
    have ea : zali G npc (peL ls) (peS st) zNC h (pe (2, (n : Int))) (pe (0, (m : Int))) = zcell zNC h (pe (2, (n : Int))) (fun _ c => zwhen (Nat.beq c.1 (nat_lit 16)) (zidx c.2.1 (pe (0, (m : Int))) (fun u => zkde (zdg c.2.2.1 u) (fun a => zgo npc (peL ls) (a :: peS st) h)))) := by
      rw [pe_cell]
      rfl
    have hlen := zSh_len_lt n hn
    rw [ea, zcell_pe hn, w1, hk1, w2, zbeq16, zwhen_t]
    rw [zidx_pe (by omega) hi1 (by omega), em, w6, zkde_eq, zde_pe]
    rfl) hk
/-! ===== a cell is put ===== -/
theorem zW_put {h : zH} (hW : zW h H) {n : Nat} (hn : n < zNC) {q : zC} {H' : PH} (hq : zWc (zSh n) q (H' n)) (ho : ∀ c : Nat, c ≠ n → ∀ i, H' c i = H c i) (hr : RF H') : zW (zput h q n) H' := by
  refine ⟨zput_full _ _ _ _ _ hW.1, fun c hc => ?_, hr⟩
  have hc' : zget (zput h q n) c = if c = n then q else zget h c := zget_zput q n c zdep 0 h hW.1 (by omega) (by have : zNC = 622 := rfl; have : (2 : Nat) ^ zdep = 1024 := rfl; omega) (by omega) (by have : zNC = 622 := rfl; have : (2 : Nat) ^ zdep = 1024 := rfl; omega)
  rw [hc']
  by_cases e : c = n
  · rw [if_pos e, e]
    exact hq
  · rw [if_neg e]
    have eH : H' c = H c := funext (ho c e)
    rw [eH]
    exact hW.2.1 c hc
theorem pup_same {c i v : Int} : pup H c i v c i = v := by
  unfold pup
  rw [if_pos ⟨rfl, rfl⟩]
theorem pup_other {c i v c' i' : Int} (h : ¬ (c' = c ∧ i' = i)) : pup H c i v c' i' = H c' i' := by
  unfold pup
  rw [if_neg h]
theorem RF_pup {c i v : Int} (h : RF H) (hv : VA c i) (hz : ∀ n m : Nat, n < zNC → c = n → i = m → zrt n m = none) : RF (pup H c i v) := by
  refine ⟨?_, fun c' i' q => ?_⟩
  · intro n m hn w hw
    rw [pup_other (fun q => ?_)]
    · exact h.1 n m hn w hw
    · rw [hz n m hn q.1.symm q.2.symm] at hw
      cases hw
  · rw [pup_other (fun e => q (by rw [e.1, e.2]; exact hv))]
    exact h.2 c' i' q
theorem RF_row {c i v : Int} (h : RF H) (hv : VA c i) (h0 : 0 ≤ c) (h1 : c < zNC) (hk : 16 ≤ (zSh c.toNat).1 ∧ (zSh c.toNat).1 ≤ 18) : RF (pup H c i v) := RF_pup h hv (fun n m hn e _ => by
  match hz : zrt n m with
  | none => rfl
  | some w =>
    subst e
    exact absurd hk (zrt_kind hn hz).1)
theorem tr_putfield {c : Int} {v : pv} {t : Nat} (h0 : 0 ≤ c) (h1 : c < zNC) (hk1 : (zSh c.toNat).1 = a1) (hr : ¬ zrow a1) (h16 : a1 < 16) (ha : a2 % 64 < (zSh c.toNat).2.1) (hv : v.1 = ztg a1 (a2 % 64)) (hz : ztg a1 (a2 % 64) ≠ 2 ∨ zrt c.toNat (a2 % 64) = none) (hf : pok v → zfit (a2 / 64) (pe v) = true) (hk : Tr G us cd D rest npc ls st (pup H c ((a2 % 64 : Nat) : Int) v.2) Q) : Tr G us cd D ((fun k => k p yo_putfield npc a1 a2) :: rest) p ls (v :: (2, c) :: st) H Q :=
  tr_nx (ls' := ls) (st' := st) (H' := pup H c ((a2 % 64 : Nat) : Int) v.2) (f := so_putfield) (fun _ _ _ _ _ _ _ _ _ _ _ _ _ _ _ => rfl) (fun hl hs h hW => by
    obtain ⟨n, rfl⟩ := Int.eq_ofNat_of_zero_le h0
    have hn : n < zNC := by omega
    obtain ⟨w1, w2, -, w4⟩ := hW.2.1 n hn
    have e : ((n : Int)).toNat = n := by omega
    rw [e] at hk1 ha
    have hnr : ¬ zrow (zSh n).1 := by rw [hk1]; exact hr
    obtain ⟨w5, w6, w7⟩ := w4 hnr
    have hpv := (pokS_cons.mp hs).1
    refine ⟨_, zW_put hW hn (q := ((zget h n).1, (zget h n).2.1, (zget h n).2.2.1, zput (zget h n).2.2.2 (pe v) (a2 % 64))) ⟨w1, w2, fun q => absurd q hnr, fun _ => ⟨zput_full _ _ _ _ _ w5, w6, fun i hi => ?_⟩⟩ (fun c hc i => pup_other (fun q => hc (by omega))) (RF_pup hW.2.2 ⟨h0, h1, by omega, by rw [e]; omega⟩ (fun n' m' hn' e1 e2 => by
      have en : n = n' := by omega
      have em : m' = a2 % 64 := by omega
      subst en
      subst em
      rcases hz with hz | hz
      · match hq : zrt n (a2 % 64) with
        | none => rfl
        | some w =>
          have := (zrt_kind hn hq).2 (by rw [hk1]; exact h16)
          rw [hk1] at this
          exact absurd this hz
      · rw [e] at hz
        exact hz)), hl, (pokS_cons.mp (pokS_cons.mp hs).2).2, ?_⟩
    · have hg := zget_zput (pe v) (a2 % 64) i (zSh n).2.2 0 (zget h n).2.2.2 w5 (by omega) (by omega) (by omega) (by omega)
      show zget (zput (zget h n).2.2.2 (pe v) (a2 % 64)) i = _ ∧ _
      rw [hg]
      by_cases ei : i = a2 % 64
      · rw [if_pos ei, ei, hk1, ← hv, pup_same]
        exact ⟨rfl, hpv⟩
      · rw [if_neg ei, pup_other (fun q => ei (by omega))]
        exact w7 i hi
    · show zcell zNC h (pe (2, (n : Int))) (fun q c => zwhen (Nat.beq c.1 a1 && zfit (Nat.div a2 (nat_lit 64)) (pe v)) (zset c.2.2.2 (pe v) (Nat.mod a2 (nat_lit 64)) (fun t => zset h (c.1, c.2.1, c.2.2.1, t) q (fun h' => zgo npc (peL ls) (peS st) h')))) = _
      rw [zcell_pe hn]
      have ef : zfit (Nat.div a2 (nat_lit 64)) (pe v) = true := hf hpv
      rw [ef, w1, hk1, Nat.beq_refl]
      show zset (zget h n).2.2.2 (pe v) (Nat.mod a2 (nat_lit 64)) _ = _
      rw [zset_eq, zset_eq]
      rw [← hk1, ← w1]
      rfl) hk
theorem tr_iastore {c i x : Int} (h0 : 0 ≤ c) (h1 : c < zNC) (hk1 : (zSh c.toNat).1 = 16) (hi0 : 0 ≤ i) (hi1 : i < (zSh c.toNat).2.1) (hk : Tr G us cd D rest npc ls st (pup H c i x) Q) : Tr G us cd D ((fun k => k p yo_iastore npc a1 a2) :: rest) p ls ((0, x) :: (0, i) :: (2, c) :: st) H Q :=
  tr_nx (ls' := ls) (st' := st) (H' := pup H c i x) (f := so_iastore) (fun _ _ _ _ _ _ _ _ _ _ _ _ _ _ _ => rfl) (fun hl hs h hW => by
    obtain ⟨n, rfl⟩ := Int.eq_ofNat_of_zero_le h0
    obtain ⟨m, rfl⟩ := Int.eq_ofNat_of_zero_le hi0
    have hn : n < zNC := by omega
    obtain ⟨w1, w2, w3, -⟩ := hW.2.1 n hn
    have e : ((n : Int)).toNat = n := by omega
    have em : ((m : Int)).toNat = m := by omega
    rw [e] at hk1 hi1
    have hrow : zrow (zSh n).1 := by rw [hk1]; exact ⟨by omega, by omega⟩
    have hpx : zIn x := (pokS_cons.mp hs).1
    refine ⟨_, zW_put hW hn (q := ((zget h n).1, (zget h n).2.1, zsd (zget h n).2.2.1 m (zu x), (zget h n).2.2.2)) ⟨w1, w2, fun _ i hi => ?_, fun q => absurd hrow q⟩ (fun c hc i => pup_other (fun q => hc (by omega))) (RF_row hW.2.2 ⟨h0, h1, by omega, by rw [e]; omega⟩ h0 h1 (by rw [e]; exact hrow)), hl, (pokS_cons.mp (pokS_cons.mp (pokS_cons.mp hs).2).2).2, ?_⟩
    · show zdg (zsd (zget h n).2.2.1 m (zu x)) i = _ ∧ _
      have hlt : zu x < 2 ^ 48 := by
        have := zu_lt x
        omega
      rw [zdg_zsd _ _ _ _ hlt]
      by_cases ei : i = m
      · rw [if_pos ei, ei, pup_same]
        exact ⟨rfl, hpx⟩
      · rw [if_neg ei, pup_other (fun q => ei (by omega))]
        exact w3 hrow i hi
    · show zcell zNC h (pe (2, (n : Int))) (fun q c => zwhen (Nat.beq c.1 (nat_lit 16) && zisI (pe (0, x))) (zist npc (peL ls) (peS st) h q c (pe (0, (m : Int))) (pe (0, x)))) = _
      have hlen := zSh_len_lt n hn
      rw [zcell_pe hn, w1, hk1]
      show zidx (zget h n).2.1 (pe (0, (m : Int))) (fun u => zen (pe (0, x)) (fun N => fN (zsd (zget h n).2.2.1 u N) (fun N => zset h ((zget h n).1, (zget h n).2.1, N, (zget h n).2.2.2) n (fun h' => zgo npc (peL ls) (peS st) h')))) = _
      rw [w2, zidx_pe (by omega) hi1 (by omega), em]
      have ez : ∀ k : Nat → zO, zen (pe (0, x)) k = k (zu x) := fun k => by
        show Bool.rec (motive := fun _ => zO) none (k (zu x)) (Nat.blt (zu x) (nat_lit 4294967296)) = _
        have e : Nat.blt (zu x) (nat_lit 4294967296) = true := Nat.ble_eq_true_of_le (zu_lt x)
        rw [e]
      rw [ez, fN_eq, zset_eq, w1, hk1]) hk
end TR2
