/-! ===== a run that comes to its end is what the machine does ===== -/
def zConc (l : Launch) (tb : zTb) (n0 : Nat) (D : va_G) (cid : Nat → ClassId) (ρ : Nat → Int32) (b L : Nat) (xs : Nat → Int32) (d : Nat) (cd : zK) (cur : List zQ) (pc : Nat) (al : zLs) (ast : List zV) (sz us : Nat) (h : zH) (v : Option zV) (sz' us' : Nat) (h' : zH) : Prop :=
  ∀ (oc : Nat) (ini : Bool) (cc : ByteArray) (nL : Nat) (rt : Option FieldType), zAll (zEok tb oc ini cc nL rt) cd → zEok tb oc ini cc nL rt cur → (sz ≤ sz' ∧ us ≤ us') ∧
    ∀ (p : Program) (e : Env) (R : Room) (s : State) (m : MethodId) (args : Array Value) (below : List Frame) (meth : Method) (c : Code) (H : Heap) (locs : List Loc) (cells slots : Nat) (Q : State → Prop) (ls : Array Slot) (st : List Value) (ws : va_W),
      zCx p s m args meth c n0 D cid b L xs oc ini cc nL rt → zAt D cid ρ b n0 nL s al ast sz h ls st ws H locs → d + 1 ≤ R.frames → 64 * (d + 1) ≤ R.locals → cells + (sz' - sz) ≤ R.cells → slots + (us' - us) ≤ R.slots →
      (∀ (pc' : Nat) (ls' : Array Slot) (ws' : va_W) (H' : Heap) (locs' : List Loc) (vs : List Value) (ins : Instr), decode cc pc' = .ok (ins, 1) → zRet ρ b (ws'.map Prod.fst) rt ins v vs → va_P D vwCl ws' H' → va_D (zA n0) ws' → va_S (zA n0) s.heap H' locs' → zWd cid ρ b sz' h' ws' → (∃ ys, ws'.map Prod.fst = ws.map Prod.fst ++ ys) →
        W p l e R s m args below meth c H' locs' (cells + (sz' - sz)) (slots + (us' - us)) Q (F0 m pc' ls' vs)) →
      W p l e R s m args below meth c H locs cells slots Q (F0 m pc ls st)
set_option maxHeartbeats 2000000 in
theorem zmet {l : Launch} {tb : zTb} {n0 : Nat} {D : va_G} {cid : Nat → ClassId} {ρ : Nat → Int32} {b L : Nat} {xs : Nat → Int32} {d : Nat} {cdj : zK} {as : List zV} {sz us : Nat} {h : zH} {v1 : Option zV} {sz1 us1 : Nat} {h1 : zH} {ws : va_W} {H : Heap} (hC : zConc l tb n0 D cid ρ b L xs d cdj (zget cdj 0) 0 (zarg 0 as) [] sz us h v1 sz1 us1 h1)
    {y : MethodName} {oc : Nat} {ini : Bool} {cc : ByteArray} {nL : Nat} {rt : Option FieldType} (hcls : y.cls = zcn oc) (hplain : plainName y.cls = true) (hini : ini = true → y.name = "<init>") (hcd : zAll (zEok tb oc ini cc nL rt) cdj) {As : List Value} (hS : zS ρ b (ws.map Prod.fst) as As) (hcat : zcat as ≤ nL) (hP : va_P D vwCl ws H) (hD : va_D (zA n0) ws) (hW : zWd cid ρ b sz h ws) (hn0 : n0 ≤ H.size) (hbn : b < n0) :
    Met l y (Cond.code y cc nL rt :: zws) { frames := d + 1, cells := sz1 - sz, slots := us1 - us, locals := 64 * (d + 1) } (zPc D cid b L xs As H) (zBk D cid ρ b n0 ws v1 sz1 h1) (sz1 - sz) (us1 - us) (zA n0) := by
  refine Met.ofW (cc := cc) (maxL := nL) (ret := rt) hplain rfl ?_
  intro p e s m args below meth c s₁ B hml hv
  obtain ⟨rfl, hH, hK⟩ := hv
  subst hH
  have hts := atoms_spec (ws := Cond.code y cc nL rt :: zws) B.pre
  have hown : s.vm.findClass y.cls = some m.cls := findClass_of_methodNamed B.named
  have hlocks := B.notSynchronized
  have hl := lv_entry As (n := nL) (by rw [zsl_len, zS_cat hS]; exact hcat)
  rw [lg_entry_eq]
  refine (hC oc ini cc nL rt hcd (zAll_get hcd 0)).2 p e _ s m As.toArray below meth c s.heap [] 0 0 _ _ [] ws ⟨B.exec, B.bytes, hml, hcls ▸ hown, fun w hw => hts w (List.mem_cons_of_mem _ hw), hK, fun q => (name_of_methodNamed B.named B.method).1.trans (hini q), B.returns, hlocks, hn0, hbn⟩ ⟨⟨_, hl, zarg_ok 0 hS⟩, trivial, hP, hD, va_S.rf, hW⟩ (Nat.le_refl _) (Nat.le_refl _) (Nat.le_of_eq (Nat.zero_add _)) (Nat.le_of_eq (Nat.zero_add _)) ?_
  intro pc' ls' ws' H' locs' vs ins hdec hR hP' hD' hS' hW' hpre
  rw [Nat.zero_add, Nat.zero_add]
  rcases hR with ⟨rfl, rfl, hrt, rfl⟩ | ⟨a, w, ty, rfl, rfl, hg, hrt, hh⟩
  · exact W.vret B.exec B.bytes (B.returns.trans hrt) (fun t ht _ => ⟨none, ws', rfl, trivial, by rw [ht]; exact hP', hD', hW', hpre, hS'.F ht⟩) hS'.2.2 hdec
  · rcases hh with ⟨rfl, x, rfl, hn⟩ | ⟨rfl, hty, q, rfl⟩ | ⟨rfl, rfl, x, rfl⟩
    · exact W.zret B.exec B.bytes (B.returns.trans hrt) hn (fun t ht _ => ⟨some _, ws', rfl, ⟨hg, trivial⟩, by rw [ht]; exact hP', hD', hW', hpre, hS'.F ht⟩) hS'.2.2 hdec
    · exact W.aret B.exec B.bytes (B.returns.trans hrt) hty (Or.inr ⟨q, rfl⟩) (fun t ht _ => ⟨some _, ws', rfl, ⟨hg, trivial⟩, by rw [ht]; exact hP', hD', hW', hpre, hS'.F ht⟩) hS'.2.2 hdec
    · exact W.lret B.exec B.bytes (B.returns.trans hrt) (fun t ht _ => ⟨some _, ws', rfl, ⟨hg, trivial⟩, by rw [ht]; exact hP', hD', hW', hpre, hS'.F ht⟩) hS'.2.2 hdec
theorem zchk_inv {tb : zTb} {oc : Nat} {ini : Bool} {cc : ByteArray} {nL : Nat} {rt : Option FieldType} {pc : Nat} {ins : Instr} {npc a1 a2 : Nat} (h : zchk tb oc ini cc nL rt (pc, ins, npc, a1, a2) = true) : decode cc pc = .ok (ins, if zisSw ins then npc - pc else zlen ins) ∧ (zisSw ins = false → npc = pc + zlen ins) ∧ zchI tb oc ini nL rt pc ins a1 a2 = true := by
  have h' : ((if zisSw ins then decide (decode cc pc = .ok (ins, npc - pc)) else decide (decode cc pc = .ok (ins, zlen ins)) && npc == pc + zlen ins) && zchI tb oc ini nL rt pc ins a1 a2) = true := h
  rw [Bool.and_eq_true] at h'
  obtain ⟨h1, h2⟩ := h'
  cases hs : zisSw ins
  · rw [hs] at h1
    simp only [Bool.false_eq_true, if_false, Bool.and_eq_true, decide_eq_true_eq, beq_iff_eq] at h1
    exact ⟨by simpa using h1.1, fun _ => h1.2, h2⟩
  · rw [hs] at h1
    simp only [if_true, decide_eq_true_eq] at h1
    exact ⟨by simpa using h1, fun q => by simp at q, h2⟩
theorem zany4 {l : List (Nat × Nat × Nat × Nat)} {i kd a1 a2 : Nat} (h : l.any (fun q => q.1 == i && q.2.1 == kd && q.2.2.1 == a1 && q.2.2.2 == a2) = true) : (i, kd, a1, a2) ∈ l := by
  obtain ⟨⟨i2, k2, b1, b2⟩, h1, h2⟩ := List.any_eq_true.mp h
  simp only [Bool.and_eq_true, beq_iff_eq] at h2
  obtain ⟨⟨⟨rfl, rfl⟩, rfl⟩, rfl⟩ := h2
  exact h1
/-- an instruction that calls, with its kind -/
theorem zcall_kind {tb : zTb} {G : zG} {ρ : Nat → Int32} {oc : Nat} {ini : Bool} {nL : Nat} {rt : Option FieldType} {pc npc a1 a2 : Nat} {ins : Instr} {al : zLs} {ast : List zV} {sz : Nat} {h : zH} {x} (hG : ∀ a, G.1 = some a → zisI a = true → zgI ρ a (ρ 1 &&& 63)) (hch : zchI tb oc ini nL rt pc ins a1 a2 = true) (hs : zstep G ins npc a1 a2 pc al ast sz h = some (.inr (.inl x))) : ∃ i kd, (i, kd, a1, a2) ∈ tb.ml oc ∧ ((kd = 0 ∧ ins = .invokevirtual i) ∨ (kd = 1 ∧ ins = .invokestatic i) ∨ (kd = 2 ∧ ins = .invokespecial i)) ∧ ∃ as rest, x = (a1, as, rest, npc) ∧ ast = as.reverse ++ rest ∧ as.length = a2 % 16 ∧ (kd = 0 → a2 / 16 = 0 ∨ ∃ (i : Nat) (t : List zV), as = zr (i + 2) :: t ∧ i < sz ∧ (zget h i).1 + 1 = a2 / 16) ∧ (kd = 2 → ∃ (q : zV) (t : List zV), as = q :: t ∧ zisR q = true) := by
  cases ins with
  | invokevirtual i =>
    obtain ⟨as, rest, e1, e2, h0, e3⟩ := zcall_inv hs
    cases h0
    exact ⟨i, 0, zany4 hch, Or.inl ⟨rfl, rfl⟩, as, rest, rfl, e1, e2, fun _ => e3, (fun q => by cases q)⟩
  | invokestatic i =>
    obtain ⟨as, rest, e1, e2, h0, e3⟩ := zcall_inv hs
    cases h0
    exact ⟨i, 1, zany4 hch, Or.inr (Or.inl ⟨rfl, rfl⟩), as, rest, rfl, e1, e2, (fun q => by cases q), (fun q => by cases q)⟩
  | invokespecial i =>
    obtain ⟨as, rest, e1, e2, h0, e3⟩ := zcallI_inv hs
    cases h0
    exact ⟨i, 2, zany4 hch, Or.inr (Or.inr ⟨rfl, rfl⟩), as, rest, rfl, e1, e2, (fun q => by cases q), fun _ => e3⟩
  | ireturn =>
    obtain ⟨a, -, -, h0⟩ := zret_inv hs
    cases h0
  | areturn =>
    obtain ⟨a, -, -, h0⟩ := zret_inv hs
    cases h0
  | lreturn =>
    obtain ⟨a, -, -, h0⟩ := zret_inv hs
    cases h0
  | return_ =>
    match ast, hs with
    | [], hs => cases hs
    | _ :: _, hs => cases hs
  | _ => exact absurd (zstep_inr hG hs) Bool.noConfusion
theorem zpar {o : Option Nat} {y : MethodName} {k : Nat} (h : (parseMethodDescriptor y.desc).map (fun d => d.parameters.length + 1) = some (k + 1)) : (parseMethodDescriptor y.desc).map (fun d => d.parameters.length) = some k := by
  cases hp : parseMethodDescriptor y.desc with
  | none => rw [hp] at h; cases h
  | some sg =>
    rw [hp] at h
    have := Option.some.inj h
    exact congrArg some (Nat.succ.inj this)
