/-! ===== calls ===== -/
section ZCALL
variable {ρ : Nat → Int32} {b : Nat} {as : List Nat}
theorem zS_split : ∀ {t1 t2 : List zV} {u : List Value}, zS ρ b as (t1 ++ t2) u → ∃ u1 u2, u = u1 ++ u2 ∧ zS ρ b as t1 u1 ∧ zS ρ b as t2 u2
  | [], t2, u, h => ⟨[], u, rfl, trivial, h⟩
  | a :: t, t2, u, h => by
    obtain ⟨v, w, rfl, hg, hS⟩ := zS_cons (t := t ++ t2) h
    obtain ⟨u1, u2, rfl, h1, h2⟩ := zS_split hS
    exact ⟨v :: u1, u2, rfl, ⟨hg, h1⟩, h2⟩
theorem zS_rev : ∀ {t : List zV} {u : List Value}, zS ρ b as t u → zS ρ b as t.reverse u.reverse
  | [], [], _ => trivial
  | a :: t, v :: u, h => by
    rw [List.reverse_cons, List.reverse_cons]
    exact zS_app (zS_rev h.2) ⟨h.1, trivial⟩
theorem zarg_ok : ∀ {t : List zV} {u : List Value} (i : Nat), zS ρ b as t u → zLr ρ b as (zarg i t) (lv_args i u)
  | [], [], _, _ => trivial
  | a :: t, v :: u, i, h => by
    have hc := zg_cat h.1
    refine ⟨rfl, h.1, ?_⟩
    have e : (if v.category = 2 then i + 2 else i + 1) = (if zisL a = true then i + 2 else i + 1) := by
      rw [hc]
      cases zisL a <;> simp
    rw [e]
    exact zarg_ok _ h.2
theorem zsl_len : ∀ (u : List Value), (lg_sl u).length = (u.map fun v => v.category).sum
  | [] => rfl
  | v :: u => by
    have ih := zsl_len u
    unfold lg_sl at ih ⊢
    rw [List.flatMap_cons, List.length_append, ih, List.map_cons, List.sum_cons]
    congr 1
    rcases lv_cat v with h | h <;> simp [h]
end ZCALL
theorem zKU_same {D : va_G} {cid : Nat → ClassId} {b L : Nat} {xs : Nat → Int32} {U V : State} (hvm : U.vm = V.vm) (hh : U.heap = V.heap) (h : zKU D cid b L xs U) : zKU D cid b L xs V := by
  have hal : U.vm.Alike V.vm := hvm ▸ Vm.Alike.refl U.vm
  obtain ⟨h1, h2, h3, h4, scr, g1, g2, g3⟩ := h
  exact ⟨h1.moved hal, fun own i y host hm => va_Nw.same rfl hvm (h2 own i y host hm), fun C hm => va_AO.moved hal (h3 C hm), fun t hm => zAOA_moved hal (h4 t hm), scr, by rw [← hh]; exact g1, State.isArrayOf_alike hal g2, g3⟩
theorem zGood {y : MethodName} {cc : ByteArray} {n : Nat} {rt : Option FieldType} (h : Cond.code y cc n rt ∈ zws) : GoodIn zws (Cond.code y cc n rt :: zws) := by
  intro w hw
  have hm : w ∈ zws := by
    rcases List.mem_cons.mp hw with rfl | hw
    · exact h
    · exact hw
  exact ⟨hm, good_of_word (List.mem_filter.mp hm).2⟩
/-- what a call hands back -/
def zBk (D : va_G) (cid : Nat → ClassId) (ρ : Nat → Int32) (b n0 : Nat) (ws : va_W) (v1 : Option zV) (sz1 : Nat) (h1 : zH) : Array Value → State → Outcome → State → Prop := fun _ st o t =>
  ∃ (vo : Option Value) (ws1 : va_W), o = .returned vo ∧ zS ρ b (ws1.map Prod.fst) v1.toList vo.toList ∧ va_P D vwCl ws1 t.heap ∧ va_D (zA n0) ws1 ∧ zWd cid ρ b sz1 h1 ws1 ∧ (∃ ys, ws1.map Prod.fst = ws.map Prod.fst ++ ys) ∧ va_F (zA n0) st t
def zPc (D : va_G) (cid : Nat → ClassId) (b L : Nat) (xs : Nat → Int32) (As : List Value) (H : Heap) : Array Value → State → Prop := va_Pc As (fun U => U.heap = H ∧ zKU D cid b L xs U)
theorem zPc_blind {D : va_G} {cid : Nat → ClassId} {b L : Nat} {xs : Nat → Int32} {As : List Value} {H : Heap} : FrameBlind (zPc D cid b L xs As H) := fun a U g mk q => ⟨q.1, q.2.1, zKU_same (V := U.calling g mk a) rfl rfl q.2.2⟩
/-- behind a call -/
theorem zafter {p : Program} {l : Launch} {e : Env} {R : Room} {s : State} {m : MethodId} {args : Array Value} {below : List Frame} {meth : Method} {c : Code} {H : Heap} {locs : List Loc} {cells slots mc ms : Nat} {Q : State → Prop} {n0 : Nat} {D : va_G} {cid : Nat → ClassId} {ρ : Nat → Int32} {b : Nat} {pc : Nat} {ls : Array Slot} {st0 rest : List Value} {a : Array Value} {ws : va_W} {v1 : Option zV} {sz1 : Nat} {h1 : zH}
    (hr : va_Run p l e R s m args below meth c H locs cells slots mc ms (F0 m pc ls st0) rest (zBk D cid ρ b n0 ws v1 sz1 h1 a) (zA n0)) (hS : va_S (zA n0) s.heap H locs)
    (kk : ∀ (ws1 : va_W) (vo : Option Value) (H1 : Heap) (locs1 : List Loc), zS ρ b (ws1.map Prod.fst) v1.toList vo.toList → va_P D vwCl ws1 H1 → va_D (zA n0) ws1 → va_S (zA n0) s.heap H1 locs1 → zWd cid ρ b sz1 h1 ws1 → (∃ ys, ws1.map Prod.fst = ws.map Prod.fst ++ ys) → W p l e R s m args below meth c H1 locs1 (cells + mc) (slots + ms) Q (F0 m (pc + 3) ls (vo.toList ++ rest))) : W p l e R s m args below meth c H locs cells slots Q (F0 m pc ls st0) := by
  intro T hT X
  obtain ⟨v, st₀, t, T', L, h0, X', hL, e1, e2, ⟨vo, ws1, hv, g1, g2, g3, g4, g5, hz, hk⟩, st⟩ := hr T hT X
  cases hv
  rw [h0] at hz hk
  obtain ⟨t2, a1, b1⟩ := kk ws1 v T'.heap (locs ++ L) g1 (by rw [e1]; exact g2) g3
    ⟨Nat.le_trans hS.1 (by rw [e1]; exact hz), fun q h1 h2 => by rw [e1, hk q (Nat.lt_of_lt_of_le h1 hS.1) h2]; exact hS.2.1 q h1 h2, fun q hq => by
      rcases List.mem_append.mp hq with h | h
      · exact hS.2.2 q h
      · exact hL q h⟩ g4 g5 T' rfl X'
  exact ⟨t2, st t2 a1, b1⟩
/-- a call's run, by the kind of the call and of its link -/
theorem zrunV {p : Program} {l : Launch} {e : Env} {R : Room} {s : State} {m : MethodId} {args : Array Value} {below : List Frame} {meth : Method} {c : Code} {H : Heap} {locs : List Loc} {cells slots mc ms : Nat} {own : String} {cc bytes : ByteArray} {nL maxL n index : Nat} {ret : Option FieldType} {y : MethodName} {rm : Room} {Pc : Array Value → State → Prop} {Qc : Array Value → State → Outcome → State → Prop} {free : Addr → Prop} {b : Addr} {As rest : List Value} {pc : Nat} {ls : Array Slot}
    (S : CallFix p m c cc nL s args zws own) (hM : Met l y (Cond.code y bytes maxL ret :: zws) rm Pc Qc mc ms free) (hrc : rm.cells = mc) (hrs : rm.slots = ms) (hcode : Cond.code y bytes maxL ret ∈ zws) (hlk : zlink own index y) (hNw : ∀ (own : String) (i : Nat) (y : MethodName) (host : String), Cond.methodLinkNest own i y host ∈ lw_tbl → va_Nw (.methodLinkNest own i y host) s) (hini : Cond.initialized y.cls ∈ zws) (hy : y.cls ≠ "java/lang/invoke/MethodHandle" ∧ y.cls ≠ "java/lang/invoke/VarHandle") (hd : (parseMethodDescriptor y.desc).map (fun d => d.parameters.length) = some n) (hR : rm.frames + 1 ≤ R.frames ∧ 8 + (maxL + 11) + rm.locals ≤ R.locals)
    (hin : Cond.instanceMethod y ∈ zws) (hsel : Cond.selects y.cls y y ∈ zws) (hp : PreV s H y.cls b Pc As)
    (hn : As.length = n) (hsize : ls.size = nL) (hW : (rest.map fun v => v.category).sum ≤ 8) (hdg : decode cc pc = .ok (.invokevirtual index, 3)) (hf : cells + mc ≤ R.cells ∧ slots + ms ≤ R.slots) :
    va_Run p l e R s m args below meth c H locs cells slots mc ms (F0 m pc ls (As.reverse ++ .ref b :: rest)) rest (Qc (Value.ref b :: As).toArray) free := by
  have hts := S.2.2.2.2
  rcases hlk with hl | ⟨host, hl⟩
  · exact va_runV S hM ⟨callB_of n hts (zGood hcode) rfl hrc hrs (hts _ hini) (hts _ hl) ⟨hy.1, hy.2, hd⟩ hR, hts _ hin, hts _ hsel⟩ hp rfl hn hsize rfl (lv_room hW) hdg hf
  · exact va_runVN S hM ⟨va_cnB n hts (zGood hcode) rfl hrc hrs (hNw _ _ _ _ hl) (hts _ hini) ⟨hy.1, hy.2, hd⟩ hR, hts _ hin, hts _ hsel⟩ hp rfl hn hsize rfl (lv_room hW) hdg hf
theorem zrunS {p : Program} {l : Launch} {e : Env} {R : Room} {s : State} {m : MethodId} {args : Array Value} {below : List Frame} {meth : Method} {c : Code} {H : Heap} {locs : List Loc} {cells slots mc ms : Nat} {own : String} {cc bytes : ByteArray} {nL maxL n index : Nat} {ret : Option FieldType} {y : MethodName} {rm : Room} {Pc : Array Value → State → Prop} {Qc : Array Value → State → Outcome → State → Prop} {free : Addr → Prop} {As rest : List Value} {pc : Nat} {ls : Array Slot}
    (S : CallFix p m c cc nL s args zws own) (hM : Met l y (Cond.code y bytes maxL ret :: zws) rm Pc Qc mc ms free) (hrc : rm.cells = mc) (hrs : rm.slots = ms) (hcode : Cond.code y bytes maxL ret ∈ zws) (hlk : zlink own index y) (hNw : ∀ (own : String) (i : Nat) (y : MethodName) (host : String), Cond.methodLinkNest own i y host ∈ lw_tbl → va_Nw (.methodLinkNest own i y host) s) (hini : Cond.initialized y.cls ∈ zws) (hy : y.cls ≠ "java/lang/invoke/MethodHandle" ∧ y.cls ≠ "java/lang/invoke/VarHandle") (hd : (parseMethodDescriptor y.desc).map (fun d => d.parameters.length) = some n) (hR : rm.frames + 1 ≤ R.frames ∧ 8 + (maxL + 11) + rm.locals ≤ R.locals)
    (hst : Cond.static y ∈ zws) (hp : PreS s H Pc As)
    (hn : As.length = n) (hsize : ls.size = nL) (hW : (rest.map fun v => v.category).sum ≤ 8) (hdg : decode cc pc = .ok (.invokestatic index, 3)) (hf : cells + mc ≤ R.cells ∧ slots + ms ≤ R.slots) :
    va_Run p l e R s m args below meth c H locs cells slots mc ms (F0 m pc ls (As.reverse ++ rest)) rest (Qc As.toArray) free := by
  have hts := S.2.2.2.2
  rcases hlk with hl | ⟨host, hl⟩
  · exact va_runS S hM ⟨callB_of n hts (zGood hcode) rfl hrc hrs (hts _ hini) (hts _ hl) ⟨hy.1, hy.2, hd⟩ hR, hts _ hst⟩ hp rfl hn hsize rfl (lv_room hW) hdg hf
  · exact va_runSN S hM ⟨va_cnB n hts (zGood hcode) rfl hrc hrs (hNw _ _ _ _ hl) (hts _ hini) ⟨hy.1, hy.2, hd⟩ hR, hts _ hst, trivial⟩ hp rfl hn hsize rfl (lv_room hW) hdg hf
theorem zrunI {p : Program} {l : Launch} {e : Env} {R : Room} {s : State} {m : MethodId} {args : Array Value} {below : List Frame} {meth : Method} {c : Code} {H : Heap} {locs : List Loc} {cells slots mc ms : Nat} {own : String} {cc bytes : ByteArray} {nL maxL n index : Nat} {y : MethodName} {rm : Room} {Pc : Array Value → State → Prop} {Qc : Array Value → State → Outcome → State → Prop} {free : Addr → Prop} {b : Addr} {As rest : List Value} {pc : Nat} {ls : Array Slot}
    (S : CallFix p m c cc nL s args zws own) (hM : Met l y (Cond.code y bytes maxL none :: zws) rm Pc Qc mc ms free) (hrc : rm.cells = mc) (hrs : rm.slots = ms) (hcode : Cond.code y bytes maxL none ∈ zws) (hlk : zlink own index y) (hNw : ∀ (own : String) (i : Nat) (y : MethodName) (host : String), Cond.methodLinkNest own i y host ∈ lw_tbl → va_Nw (.methodLinkNest own i y host) s) (hini : Cond.initialized y.cls ∈ zws) (hy : y.cls ≠ "java/lang/invoke/MethodHandle" ∧ y.cls ≠ "java/lang/invoke/VarHandle") (hd : (parseMethodDescriptor y.desc).map (fun d => d.parameters.length) = some n) (hR : rm.frames + 1 ≤ R.frames ∧ 8 + (maxL + 11) + rm.locals ≤ R.locals)
    (hnm : y.name = "<init>") (hin : Cond.instanceMethod y ∈ zws) (hp : PreS s H Pc (.ref b :: As))
    (hn : As.length = n) (hsize : ls.size = nL) (hW : (rest.map fun v => v.category).sum ≤ 8) (hdg : decode cc pc = .ok (.invokespecial index, 3)) (hf : cells + mc ≤ R.cells ∧ slots + ms ≤ R.slots) :
    va_Run p l e R s m args below meth c H locs cells slots mc ms (F0 m pc ls (As.reverse ++ .ref b :: rest)) rest (Qc (Value.ref b :: As).toArray) free := by
  have hts := S.2.2.2.2
  rcases hlk with hl | ⟨host, hl⟩
  · exact va_runI S hM ⟨callB_of n hts (zGood hcode) rfl hrc hrs (hts _ hini) (hts _ hl) ⟨hy.1, hy.2, hd⟩ hR, hnm, hts _ hin⟩ hp rfl hn hsize rfl (lv_room hW) hdg hf
  · exact va_runIN S hM ⟨va_cnB n hts (zGood hcode) rfl hrc hrs (hNw _ _ _ _ hl) (hts _ hini) ⟨hy.1, hy.2, hd⟩ hR, hnm, hts _ hin⟩ hp rfl hn hsize rfl (lv_room hW) hdg hf
