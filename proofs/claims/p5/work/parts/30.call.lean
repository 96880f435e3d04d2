/-! ===== calls and answers ===== -/
def pcat (st : List pv) : Nat := (st.map fun q => if q.1 = 1 then 2 else 1).sum
def parg : Nat → List pv → PL
  | _, [] => []
  | i, a :: t => (i, a) :: parg (if a.1 = 1 then i + 2 else i + 1) t
def ppush (r : Option pv) (st : List pv) : List pv := match r with
  | some v => v :: st
  | none => st
theorem zcat_pe : ∀ st : List pv, zcat (peS st) = pcat st
  | [] => rfl
  | q :: t => by
    have ih := zcat_pe t
    unfold zcat pcat at ih ⊢
    show (((if zisL (pe q) = true then 2 else 1) :: (peS t).map fun a => if zisL a = true then 2 else 1)).sum = ((if q.1 = 1 then 2 else 1) :: t.map fun q => if q.1 = 1 then 2 else 1).sum
    rw [List.sum_cons, List.sum_cons, ih, zisL_pe]
    simp only [beq_iff_eq]
theorem zarg_pe : ∀ (as : List pv) (i : Nat), zarg i (peS as) = peL (parg i as)
  | [], _ => rfl
  | q :: t, i => by
    show (i, pe q) :: zarg (if zisL (pe q) = true then i + 2 else i + 1) (peS t) = (i, pe q) :: peL (parg (if q.1 = 1 then i + 2 else i + 1) t)
    rw [zarg_pe t, zisL_pe]
    simp only [beq_iff_eq]
theorem parg_ok : ∀ (as : List pv) (i : Nat), pokS as → pokL (parg i as)
  | [], _, _ => fun q hq => by cases hq
  | a :: t, i, h => by
    intro q hq
    rcases List.mem_cons.mp hq with rfl | e
    · exact (pokS_cons.mp h).1
    · exact parg_ok t _ (pokS_cons.mp h).2 q e
theorem ztk_app (k : List zV → List zV → zO) : ∀ (l : List zV) (st0 acc : List zV), ztk l.length (l ++ st0) acc k = k (l.reverse ++ acc) st0
  | [], st0, acc => rfl
  | a :: l, st0, acc => by
    show ztk l.length (l ++ st0) (a :: acc) k = _
    rw [ztk_app k l st0 (a :: acc), List.reverse_cons, List.append_assoc]
    rfl
/-- a method, called -/
def Ca (G : zG) (us D mj : Nat) (as : List pv) (H : PH) (K : Option pv → PH → Prop) : Prop := ∃ (oc : Nat) (ini : Bool) (cc : ByteArray) (maxL : Nat) (rt : Option FieldType) (cdj : zK), zget zM mj = some ((mj, oc, ini, cc, maxL, rt), cdj) ∧ pcat as ≤ maxL ∧ Tr G us cdj D (zget cdj 0) 0 (parg 0 as) [] H K
theorem Tr_mono {G : zG} {us : Nat} {cd : zK} {D D' : Nat} {cur : List zQ} {pc : Nat} {ls : PL} {st : List pv} {H : PH} {Q Q' : Option pv → PH → Prop} (hD : D ≤ D') (hQ : ∀ r H', Q r H' → Q' r H') (h : Tr G us cd D cur pc ls st H Q) : Tr G us cd D' cur pc ls st H Q' := by
  intro hl hs h0 hW
  obtain ⟨r, h', H', n0, a, b, c, d⟩ := h hl hs h0 hW
  exact ⟨r, h', H', n0, a, hQ _ _ b, c, fun d' hd n hn => d d' (by omega) n hn⟩
theorem Ca_mono {G : zG} {us D D' mj : Nat} {as : List pv} {H : PH} {K K' : Option pv → PH → Prop} (hD : D ≤ D') (hK : ∀ r H', K r H' → K' r H') (h : Ca G us D mj as H K) : Ca G us D' mj as H K' := by
  obtain ⟨oc, ini, cc, maxL, rt, cdj, h1, h2, h3⟩ := h
  exact ⟨oc, ini, cc, maxL, rt, cdj, h1, h2, Tr_mono hD hK h3⟩
section TR3
variable {G : zG} {us : Nat} {cd : zK} {D : Nat} {rest : List zQ} {p npc a1 a2 : Nat} {ls ls' : PL} {st st' : List pv} {H H' : PH} {Q : Option pv → PH → Prop} {fn : zCn} {f : zFn}
theorem tr_inv (hq : zQk fn f) {as st0 : List pv} (hne : a1 ≠ 511) (hst : st = as.reverse ++ st0) (hcat : pcat st0 ≤ 8) (hf : pokS as → ∀ h, zW h H → f G p npc a1 a2 (peL ls) (peS st) zNC h = some (.inr (.inl (a1, peS as, peS st0, npc)))) (hk : Ca G us D a1 as H (fun r H' => Tr G us cd (D + 1) rest npc ls (ppush r st0) H' Q)) : Tr G us cd (D + 1) ((fun k => k p fn npc a1 a2) :: rest) p ls st H Q := by
  intro hl hs h hW
  have hs' : pokS as ∧ pokS st0 := by
    rw [hst] at hs
    exact ⟨fun q hq => hs q (List.mem_append_left _ (List.mem_reverse.mpr hq)), fun q hq => hs q (List.mem_append_right _ hq)⟩
  obtain ⟨oc, ini, cc, maxL, rt, cdj, hrec, hcm, hT⟩ := hk
  obtain ⟨r, h1, H1, n1, w1, k1, o1, run1⟩ := hT (parg_ok as 0 hs'.1) (fun q hq => by cases hq) h hW
  have hpush : pokS (ppush r st0) := by
    cases r with
    | none => exact hs'.2
    | some v => exact pokS_cons.mpr ⟨o1 v rfl, hs'.2⟩
  obtain ⟨r2, h2, H2, n2, w2, k2, o2, run2⟩ := k1 hl hpush h1 w1
  refine ⟨r2, h2, H2, max n1 n2 + 1, w2, k2, o2, fun d' hd n hn => ?_⟩
  obtain ⟨m, rfl⟩ : ∃ m, n = m + 1 := ⟨n - 1, by omega⟩
  obtain ⟨d, rfl⟩ : ∃ d, d' = d + 1 := ⟨d' - 1, by omega⟩
  rw [zrun_qk hq, Nat.beq_refl]
  show zout zM (zrun zM G m) (d + 1) cd rest npc (peL ls) zNC us h (f G p npc a1 a2 (peL ls) (peS st) zNC h) = _
  rw [hf hs'.1 h hW]
  show zinv zM (zrun zM G m) (d + 1) cd rest (peL ls) zNC us h a1 (peS as) (peS st0) npc = _
  have r1 := run1 d (by omega) m (by omega)
  rw [← zarg_pe] at r1
  rw [zinv_call hne hrec (by rw [zcat_pe]; exact hcm) (by rw [zcat_pe]; exact hcat) r1]
  have r2' := run2 (d + 1) hd m (by omega)
  cases r with
  | none => exact r2'
  | some v => exact r2'
theorem zcall_pe {as st0 : List pv} {h : zH} (hn : as.length = a2 % 16) (hrecv : a2 / 16 = 0 ∨ ∃ (c : Nat) (t : List pv), as = (2, (c : Int)) :: t ∧ c < zNC ∧ (zget h c).1 + 1 = a2 / 16) : zcall npc a1 a2 (peS (as.reverse ++ st0)) zNC h = some (.inr (.inl (a1, peS as, peS st0, npc))) := by
  have e1 : peS (as.reverse ++ st0) = (peS as).reverse ++ peS st0 := by
    unfold peS
    rw [List.map_append, List.map_reverse]
  have e2 : Nat.mod a2 (nat_lit 16) = ((peS as).reverse).length := by
    unfold peS
    rw [List.length_reverse, List.length_map, hn]
    rfl
  unfold zcall
  rw [e1, e2, ztk_app, List.reverse_reverse, List.append_nil]
  rcases hrecv with h0 | ⟨c, t, rfl, hc, hk⟩
  · have e3 : Nat.beq (Nat.div a2 (nat_lit 16)) (nat_lit 0) = true := by
      have : Nat.div a2 (nat_lit 16) = 0 := h0
      rw [this]
      rfl
    rw [e3]
  · have hkk : Nat.div a2 (nat_lit 16) = (zget h c).1 + 1 := hk.symm
    have e3 : Nat.beq (Nat.div a2 (nat_lit 16)) (nat_lit 0) = false := by
      rw [hkk]
      rfl
    rw [e3]
    show zcell zNC h (pe (2, (c : Int))) (fun _ q => zwhen (Nat.beq (Nat.succ q.1) (Nat.div a2 (nat_lit 16))) _) = _
    rw [zcell_pe hc, hkk, Nat.beq_refl]
    rfl
theorem tr_static {as st0 : List pv} (hne : a1 ≠ 511) (hst : st = as.reverse ++ st0) (hn : as.length = a2 % 16) (h0 : a2 / 16 = 0) (hcat : pcat st0 ≤ 8) (hk : Ca G us D a1 as H (fun r H' => Tr G us cd (D + 1) rest npc ls (ppush r st0) H' Q)) : Tr G us cd (D + 1) ((fun k => k p yo_invokestatic npc a1 a2) :: rest) p ls st H Q :=
  tr_inv (f := so_invokestatic) (fun _ _ _ _ _ _ _ _ _ _ _ _ _ _ _ => rfl) hne hst hcat (fun _ h _ => by
    rw [hst]
    exact zcall_pe hn (Or.inl h0)) hk
theorem tr_virtual {c : Int} {t st0 : List pv} (hne : a1 ≠ 511) (hst : st = ((2, c) :: t).reverse ++ st0) (hn : t.length + 1 = a2 % 16) (h0 : 0 ≤ c) (h1 : c < zNC) (hc : (zSh c.toNat).1 + 1 = a2 / 16) (hcat : pcat st0 ≤ 8) (hk : Ca G us D a1 ((2, c) :: t) H (fun r H' => Tr G us cd (D + 1) rest npc ls (ppush r st0) H' Q)) : Tr G us cd (D + 1) ((fun k => k p yo_invokevirtual npc a1 a2) :: rest) p ls st H Q :=
  tr_inv (f := so_invokevirtual) (fun _ _ _ _ _ _ _ _ _ _ _ _ _ _ _ => rfl) hne hst hcat (fun _ h hW => by
    obtain ⟨n, rfl⟩ := Int.eq_ofNat_of_zero_le h0
    have hn' : n < zNC := by omega
    have e : ((n : Int)).toNat = n := by omega
    rw [e] at hc
    rw [hst]
    exact zcall_pe hn (Or.inr ⟨n, t, rfl, hn', by rw [(hW.2.1 n hn').1]; exact hc⟩)) hk
theorem tr_ireturn {x : Int} (ha : a1 = 0 ∨ (a1 = 2 ∧ 0 ≤ x ∧ x < 2)) (hk : Q (some (0, x)) H) : Tr G us cd D ((fun k => k p yo_ireturn npc a1 a2) :: rest) p ls [(0, x)] H Q :=
  tr_ret (f := so_ireturn) (r := some (0, x)) (fun _ _ _ _ _ _ _ _ _ _ _ _ _ _ _ => rfl) (fun hs => ⟨fun q hq => by cases hq; exact (pokS_cons.mp hs).1, fun h => by
    show zwhen (zfit a1 (pe (0, x))) (some (.inr (.inr (some (pe (0, x)))))) = _
    have e : zfit a1 (pe (0, x)) = true := by
      rcases ha with rfl | ⟨rfl, h0, h1⟩
      · rfl
      · show Nat.blt (zu x) 2 = true
        have : zu x < 2 := by
          unfold zu
          omega
        exact Nat.ble_eq_true_of_le this
    rw [e]
    rfl⟩) hk
theorem tr_areturn {c : Int} (hc : 0 ≤ c + 1) (hk : Q (some (2, c)) H) : Tr G us cd D ((fun k => k p yo_areturn npc a1 a2) :: rest) p ls [(2, c)] H Q :=
  tr_ret (f := so_areturn) (r := some (2, c)) (fun _ _ _ _ _ _ _ _ _ _ _ _ _ _ _ => rfl) (fun hs => ⟨fun q hq => by cases hq; exact (pokS_cons.mp hs).1, fun h => by
    show zwhen (zisR (pe (2, c))) (some (.inr (.inr (some (pe (2, c)))))) = _
    rw [pe_R hc]
    rfl⟩) hk
theorem tr_lreturn {x : Int} (hk : Q (some (1, x)) H) : Tr G us cd D ((fun k => k p yo_lreturn npc a1 a2) :: rest) p ls [(1, x)] H Q :=
  tr_ret (f := so_lreturn) (r := some (1, x)) (fun _ _ _ _ _ _ _ _ _ _ _ _ _ _ _ => rfl) (fun hs => ⟨fun q hq => by cases hq; exact (pokS_cons.mp hs).1, fun h => rfl⟩) hk
theorem tr_return (hk : Q none H) : Tr G us cd D ((fun k => k p yo_return_ npc a1 a2) :: rest) p ls [] H Q :=
  tr_ret (f := so_return_) (r := none) (fun _ _ _ _ _ _ _ _ _ _ _ _ _ _ _ => rfl) (fun hs => ⟨fun q hq => (by cases hq), fun h => rfl⟩) hk
end TR3
