/-! ===== a step within a method: the machine does what zstep says ===== -/
def zA (n0 : Nat) : Nat → Prop := fun q => n0 ≤ q
def zCx (p : Program) (s : State) (m : MethodId) (args : Array Value) (meth : Method) (c : Code) (n0 : Nat) (D : va_G) (cid : Nat → ClassId) (b L : Nat) (xs : Nat → Int32) (oc : Nat) (ini : Bool) (cc : ByteArray) (nL : Nat) (rt : Option FieldType) : Prop :=
  p.tables.exec = Jvm.exec ∧ c.code = cc ∧ c.maxLocals = nL ∧ s.vm.findClass (zcn oc) = some m.cls ∧ (∀ w ∈ zws, w.before args s = true) ∧ zKU D cid b L xs s ∧ (ini = true → meth.name = "<init>") ∧ meth.sig.returnType = rt ∧ meth.locks = false ∧ n0 ≤ s.heap.size ∧ b < n0
def zAt (D : va_G) (cid : Nat → ClassId) (ρ : Nat → Int32) (b n0 nL : Nat) (s : State) (al : zLs) (ast : List zV) (sz : Nat) (h : zH) (ls : Array Slot) (st : List Value) (ws : va_W) (H : Heap) (locs : List Loc) : Prop :=
  (∃ lv : List (Nat × Value), lv_has ls nL lv ∧ zLr ρ b (ws.map Prod.fst) al lv) ∧ zS ρ b (ws.map Prod.fst) ast st ∧ va_P D vwCl ws H ∧ va_D (zA n0) ws ∧ va_S (zA n0) s.heap H locs ∧ zWd cid ρ b sz h ws
def zGok (G : zG) (ρ : Nat → Int32) (L : Nat) (xs : Nat → Int32) : Prop := (∀ a, G.1 = some a → zisI a = true → zgI ρ a (ρ 1 &&& 63)) ∧ (∀ n, G.2.1 = some n → L = n ∧ n < 2 ^ 31) ∧ ∀ (u : Nat) (a : zV), G.2.2[u]? = some a → zisI a = true → zgI ρ a (xs u)
def zFx (tb : zTb) (ys : List MethodName) : Prop := zFlOK tb ∧ zClOK ∧ zNlOK tb ∧ zAlOK tb ∧ zMmOK tb ∧ zKiOK tb ∧ zKlOK tb ∧ zArOK ∧ zMlOK tb ys ∧ zMtOK
theorem zpre {ws : va_W} : ∃ xs, ws.map Prod.fst = ws.map Prod.fst ++ xs := ⟨[], (List.append_nil _).symm⟩
theorem zblt {a b : Nat} (h : Nat.blt a b = true) : a < b := Nat.le_of_ble_eq_true h
theorem zLr_st1 {ρ : Nat → Int32} {b : Nat} {as : List Nat} {al : zLs} {lv : List (Nat × Value)} {i : Nat} {a : zV} {v : Value} (h : zLr ρ b as al lv) (hg : zg ρ b as a v) : zLr ρ b as ((i, a) :: al.filter (fun q => !zdrop i false q)) ((i, v) :: lv.filter (fun q => !(q.1 == i) && !(q.1 + 1 == i && q.2.category == 2))) := by
  refine ⟨rfl, hg, ?_⟩
  have := zLr_filter i false h
  rw [show (fun q : Nat × Value => !(q.1 == i) && !(q.1 + 1 == i && q.2.category == 2)) = (fun r : Nat × Value => !(r.1 == i || (r.1 + 1 == i && r.2.category == 2) || (false && r.1 == i + 1))) from funext fun q => by simp]
  exact this
theorem zLr_st2 {ρ : Nat → Int32} {b : Nat} {as : List Nat} {al : zLs} {lv : List (Nat × Value)} {i : Nat} {a : zV} {v : Value} (h : zLr ρ b as al lv) (hg : zg ρ b as a v) : zLr ρ b as ((i, a) :: al.filter (fun q => !zdrop i true q)) ((i, v) :: lv.filter (fun q => !(q.1 == i) && (!(q.1 == i + 1) && !(q.1 + 1 == i && q.2.category == 2)))) := by
  refine ⟨rfl, hg, ?_⟩
  have := zLr_filter i true h
  rw [show (fun q : Nat × Value => !(q.1 == i) && (!(q.1 == i + 1) && !(q.1 + 1 == i && q.2.category == 2))) = (fun r : Nat × Value => !(r.1 == i || (r.1 + 1 == i && r.2.category == 2) || (true && r.1 == i + 1))) from funext fun q => by
    cases q.1 == i <;> cases (q.1 + 1 == i && q.2.category == 2) <;> cases q.1 == i + 1 <;> rfl]
  exact this
theorem zfit_ok {ρ : Nat → Int32} {b : Nat} {as : List Nat} {ty : FieldType} {ft : Nat} {a : zV} {v : Value} (h1 : zfo ty = ft) (h2 : ft ≤ 3) (h3 : zfit ft a = true) (hg : zg ρ b as a v) : narrow ty v = v ∧ fits ty v = true := by
  cases ty with
  | int =>
    cases h1
    obtain ⟨x, rfl, -⟩ := zg_I hg h3
    exact ⟨rfl, rfl⟩
  | long =>
    cases h1
    obtain ⟨x, -, rfl⟩ := zg_L hg h3
    exact ⟨rfl, rfl⟩
  | boolean =>
    cases h1
    match a, h3, hg with
    | .inl u, h3, hg =>
      have hu : u < 2 := zblt h3
      cases hg
      match u, hu with
      | 0, _ => decide +kernel
      | 1, _ => decide +kernel
  | object C =>
    cases h1
    obtain ⟨x, rfl⟩ := zg_R hg h3
    exact ⟨rfl, rfl⟩
  | array t =>
    cases h1
    obtain ⟨x, rfl⟩ := zg_R hg h3
    exact ⟨rfl, rfl⟩
  | _ => exact absurd (h1 ▸ h2) (by decide)

set_option maxHeartbeats 2000000 in
theorem zs_aload_n {p : Program} {l : Launch} {e : Env} {R : Room} {s : State} {m : MethodId} {args : Array Value} {below : List Frame} {meth : Method} {c : Code} {H : Heap} {locs : List Loc} {cells slots : Nat} {Q : State → Prop} {n0 : Nat} {D : va_G} {cid : Nat → ClassId} {ρ : Nat → Int32} {b L : Nat} {xs : Nat → Int32} {oc : Nat} {ini : Bool} {cc : ByteArray} {nL : Nat} {rt : Option FieldType} {tb : zTb} {ys : List MethodName} {G : zG} {pc npc a1 a2 : Nat} {al al' : zLs} {ast ast' : List zV} {sz dz du : Nat} {h h' : zH} {ls : Array Slot} {st : List Value} {ws : va_W} {pc' : Nat} {i : Fin 4}
    (C : zCx p s m args meth c n0 D cid b L xs oc ini cc nL rt) (F : zFx tb ys) (hG : zGok G ρ L xs) (hch : zchI tb oc ini nL rt pc (.aload_n i) a1 a2 = true) (hd : decode cc pc = .ok ((.aload_n i), zlen (.aload_n i))) (hn : npc = pc + zlen (.aload_n i))
    (hs0 : zstep G (.aload_n i) npc a1 a2 pc al ast sz h = some (.inl (pc', al', ast', h', dz, du))) (hA : zAt D cid ρ b n0 nL s al ast sz h ls st ws H locs) (hcells : cells + dz ≤ R.cells) (hslots : slots + du ≤ R.slots)
    (kk : ∀ (ws' : va_W) (H' : Heap) (locs' : List Loc) (ls' : Array Slot) (st' : List Value), zAt D cid ρ b n0 nL s al' ast' (sz + dz) h' ls' st' ws' H' locs' → (∃ xs, ws'.map Prod.fst = ws.map Prod.fst ++ xs) → W p l e R s m args below meth c H' locs' (cells + dz) (slots + du) Q (F0 m pc' ls' st')) : W p l e R s m args below meth c H locs cells slots Q (F0 m pc ls st) := by
  obtain ⟨hx, hb, hml, hown, hts, hKU, hini, hr, hlocks, hn0, hbn⟩ := C
  subst hn
  obtain ⟨a, hf, ha, hs1⟩ := zld_inv hs0
  cases hs1
  obtain ⟨⟨lv, hl, hL⟩, hS0, hP, hD, hSt, hW⟩ := hA
  obtain ⟨k, v, hk, hg⟩ := zLr_find hL hf
  obtain ⟨q, rfl⟩ := zg_R hg ha
  exact lv_aload_n hx hb hd rfl (lv_at hl k hk) (kk _ _ _ _ _ ⟨⟨lv, hl, hL⟩, ⟨hg, hS0⟩, hP, hD, hSt, hW⟩ zpre)

set_option maxHeartbeats 2000000 in
theorem zs_aload {p : Program} {l : Launch} {e : Env} {R : Room} {s : State} {m : MethodId} {args : Array Value} {below : List Frame} {meth : Method} {c : Code} {H : Heap} {locs : List Loc} {cells slots : Nat} {Q : State → Prop} {n0 : Nat} {D : va_G} {cid : Nat → ClassId} {ρ : Nat → Int32} {b L : Nat} {xs : Nat → Int32} {oc : Nat} {ini : Bool} {cc : ByteArray} {nL : Nat} {rt : Option FieldType} {tb : zTb} {ys : List MethodName} {G : zG} {pc npc a1 a2 : Nat} {al al' : zLs} {ast ast' : List zV} {sz dz du : Nat} {h h' : zH} {ls : Array Slot} {st : List Value} {ws : va_W} {pc' : Nat} {i : Nat}
    (C : zCx p s m args meth c n0 D cid b L xs oc ini cc nL rt) (F : zFx tb ys) (hG : zGok G ρ L xs) (hch : zchI tb oc ini nL rt pc (.aload i) a1 a2 = true) (hd : decode cc pc = .ok ((.aload i), zlen (.aload i))) (hn : npc = pc + zlen (.aload i))
    (hs0 : zstep G (.aload i) npc a1 a2 pc al ast sz h = some (.inl (pc', al', ast', h', dz, du))) (hA : zAt D cid ρ b n0 nL s al ast sz h ls st ws H locs) (hcells : cells + dz ≤ R.cells) (hslots : slots + du ≤ R.slots)
    (kk : ∀ (ws' : va_W) (H' : Heap) (locs' : List Loc) (ls' : Array Slot) (st' : List Value), zAt D cid ρ b n0 nL s al' ast' (sz + dz) h' ls' st' ws' H' locs' → (∃ xs, ws'.map Prod.fst = ws.map Prod.fst ++ xs) → W p l e R s m args below meth c H' locs' (cells + dz) (slots + du) Q (F0 m pc' ls' st')) : W p l e R s m args below meth c H locs cells slots Q (F0 m pc ls st) := by
  obtain ⟨hx, hb, hml, hown, hts, hKU, hini, hr, hlocks, hn0, hbn⟩ := C
  subst hn
  obtain ⟨a, hf, ha, hs1⟩ := zld_inv hs0
  cases hs1
  obtain ⟨⟨lv, hl, hL⟩, hS0, hP, hD, hSt, hW⟩ := hA
  obtain ⟨k, v, hk, hg⟩ := zLr_find hL hf
  obtain ⟨q, rfl⟩ := zg_R hg ha
  exact lv_aload hx hb hd (lv_at hl k hk) (kk _ _ _ _ _ ⟨⟨lv, hl, hL⟩, ⟨hg, hS0⟩, hP, hD, hSt, hW⟩ zpre)

set_option maxHeartbeats 2000000 in
theorem zs_iload_n {p : Program} {l : Launch} {e : Env} {R : Room} {s : State} {m : MethodId} {args : Array Value} {below : List Frame} {meth : Method} {c : Code} {H : Heap} {locs : List Loc} {cells slots : Nat} {Q : State → Prop} {n0 : Nat} {D : va_G} {cid : Nat → ClassId} {ρ : Nat → Int32} {b L : Nat} {xs : Nat → Int32} {oc : Nat} {ini : Bool} {cc : ByteArray} {nL : Nat} {rt : Option FieldType} {tb : zTb} {ys : List MethodName} {G : zG} {pc npc a1 a2 : Nat} {al al' : zLs} {ast ast' : List zV} {sz dz du : Nat} {h h' : zH} {ls : Array Slot} {st : List Value} {ws : va_W} {pc' : Nat} {i : Fin 4}
    (C : zCx p s m args meth c n0 D cid b L xs oc ini cc nL rt) (F : zFx tb ys) (hG : zGok G ρ L xs) (hch : zchI tb oc ini nL rt pc (.iload_n i) a1 a2 = true) (hd : decode cc pc = .ok ((.iload_n i), zlen (.iload_n i))) (hn : npc = pc + zlen (.iload_n i))
    (hs0 : zstep G (.iload_n i) npc a1 a2 pc al ast sz h = some (.inl (pc', al', ast', h', dz, du))) (hA : zAt D cid ρ b n0 nL s al ast sz h ls st ws H locs) (hcells : cells + dz ≤ R.cells) (hslots : slots + du ≤ R.slots)
    (kk : ∀ (ws' : va_W) (H' : Heap) (locs' : List Loc) (ls' : Array Slot) (st' : List Value), zAt D cid ρ b n0 nL s al' ast' (sz + dz) h' ls' st' ws' H' locs' → (∃ xs, ws'.map Prod.fst = ws.map Prod.fst ++ xs) → W p l e R s m args below meth c H' locs' (cells + dz) (slots + du) Q (F0 m pc' ls' st')) : W p l e R s m args below meth c H locs cells slots Q (F0 m pc ls st) := by
  obtain ⟨hx, hb, hml, hown, hts, hKU, hini, hr, hlocks, hn0, hbn⟩ := C
  subst hn
  obtain ⟨a, hf, ha, hs1⟩ := zld_inv hs0
  cases hs1
  obtain ⟨⟨lv, hl, hL⟩, hS0, hP, hD, hSt, hW⟩ := hA
  obtain ⟨k, v, hk, hg⟩ := zLr_find hL hf
  obtain ⟨q, rfl, -⟩ := zg_I hg ha
  exact lv_iload_n hx hb hd rfl (lv_at hl k hk) (kk _ _ _ _ _ ⟨⟨lv, hl, hL⟩, ⟨hg, hS0⟩, hP, hD, hSt, hW⟩ zpre)

set_option maxHeartbeats 2000000 in
theorem zs_iload {p : Program} {l : Launch} {e : Env} {R : Room} {s : State} {m : MethodId} {args : Array Value} {below : List Frame} {meth : Method} {c : Code} {H : Heap} {locs : List Loc} {cells slots : Nat} {Q : State → Prop} {n0 : Nat} {D : va_G} {cid : Nat → ClassId} {ρ : Nat → Int32} {b L : Nat} {xs : Nat → Int32} {oc : Nat} {ini : Bool} {cc : ByteArray} {nL : Nat} {rt : Option FieldType} {tb : zTb} {ys : List MethodName} {G : zG} {pc npc a1 a2 : Nat} {al al' : zLs} {ast ast' : List zV} {sz dz du : Nat} {h h' : zH} {ls : Array Slot} {st : List Value} {ws : va_W} {pc' : Nat} {i : Nat}
    (C : zCx p s m args meth c n0 D cid b L xs oc ini cc nL rt) (F : zFx tb ys) (hG : zGok G ρ L xs) (hch : zchI tb oc ini nL rt pc (.iload i) a1 a2 = true) (hd : decode cc pc = .ok ((.iload i), zlen (.iload i))) (hn : npc = pc + zlen (.iload i))
    (hs0 : zstep G (.iload i) npc a1 a2 pc al ast sz h = some (.inl (pc', al', ast', h', dz, du))) (hA : zAt D cid ρ b n0 nL s al ast sz h ls st ws H locs) (hcells : cells + dz ≤ R.cells) (hslots : slots + du ≤ R.slots)
    (kk : ∀ (ws' : va_W) (H' : Heap) (locs' : List Loc) (ls' : Array Slot) (st' : List Value), zAt D cid ρ b n0 nL s al' ast' (sz + dz) h' ls' st' ws' H' locs' → (∃ xs, ws'.map Prod.fst = ws.map Prod.fst ++ xs) → W p l e R s m args below meth c H' locs' (cells + dz) (slots + du) Q (F0 m pc' ls' st')) : W p l e R s m args below meth c H locs cells slots Q (F0 m pc ls st) := by
  obtain ⟨hx, hb, hml, hown, hts, hKU, hini, hr, hlocks, hn0, hbn⟩ := C
  subst hn
  obtain ⟨a, hf, ha, hs1⟩ := zld_inv hs0
  cases hs1
  obtain ⟨⟨lv, hl, hL⟩, hS0, hP, hD, hSt, hW⟩ := hA
  obtain ⟨k, v, hk, hg⟩ := zLr_find hL hf
  obtain ⟨q, rfl, -⟩ := zg_I hg ha
  exact lv_iload hx hb hd (lv_at hl k hk) (kk _ _ _ _ _ ⟨⟨lv, hl, hL⟩, ⟨hg, hS0⟩, hP, hD, hSt, hW⟩ zpre)

set_option maxHeartbeats 2000000 in
theorem zs_lload_n {p : Program} {l : Launch} {e : Env} {R : Room} {s : State} {m : MethodId} {args : Array Value} {below : List Frame} {meth : Method} {c : Code} {H : Heap} {locs : List Loc} {cells slots : Nat} {Q : State → Prop} {n0 : Nat} {D : va_G} {cid : Nat → ClassId} {ρ : Nat → Int32} {b L : Nat} {xs : Nat → Int32} {oc : Nat} {ini : Bool} {cc : ByteArray} {nL : Nat} {rt : Option FieldType} {tb : zTb} {ys : List MethodName} {G : zG} {pc npc a1 a2 : Nat} {al al' : zLs} {ast ast' : List zV} {sz dz du : Nat} {h h' : zH} {ls : Array Slot} {st : List Value} {ws : va_W} {pc' : Nat} {i : Fin 4}
    (C : zCx p s m args meth c n0 D cid b L xs oc ini cc nL rt) (F : zFx tb ys) (hG : zGok G ρ L xs) (hch : zchI tb oc ini nL rt pc (.lload_n i) a1 a2 = true) (hd : decode cc pc = .ok ((.lload_n i), zlen (.lload_n i))) (hn : npc = pc + zlen (.lload_n i))
    (hs0 : zstep G (.lload_n i) npc a1 a2 pc al ast sz h = some (.inl (pc', al', ast', h', dz, du))) (hA : zAt D cid ρ b n0 nL s al ast sz h ls st ws H locs) (hcells : cells + dz ≤ R.cells) (hslots : slots + du ≤ R.slots)
    (kk : ∀ (ws' : va_W) (H' : Heap) (locs' : List Loc) (ls' : Array Slot) (st' : List Value), zAt D cid ρ b n0 nL s al' ast' (sz + dz) h' ls' st' ws' H' locs' → (∃ xs, ws'.map Prod.fst = ws.map Prod.fst ++ xs) → W p l e R s m args below meth c H' locs' (cells + dz) (slots + du) Q (F0 m pc' ls' st')) : W p l e R s m args below meth c H locs cells slots Q (F0 m pc ls st) := by
  obtain ⟨hx, hb, hml, hown, hts, hKU, hini, hr, hlocks, hn0, hbn⟩ := C
  subst hn
  obtain ⟨a, hf, ha, hs1⟩ := zld_inv hs0
  cases hs1
  obtain ⟨⟨lv, hl, hL⟩, hS0, hP, hD, hSt, hW⟩ := hA
  obtain ⟨k, v, hk, hg⟩ := zLr_find hL hf
  obtain ⟨q, -, rfl⟩ := zg_L hg ha
  exact lv_lload_n hx hb hd rfl (lv_at hl k hk) (kk _ _ _ _ _ ⟨⟨lv, hl, hL⟩, ⟨hg, hS0⟩, hP, hD, hSt, hW⟩ zpre)

set_option maxHeartbeats 2000000 in
theorem zs_lload {p : Program} {l : Launch} {e : Env} {R : Room} {s : State} {m : MethodId} {args : Array Value} {below : List Frame} {meth : Method} {c : Code} {H : Heap} {locs : List Loc} {cells slots : Nat} {Q : State → Prop} {n0 : Nat} {D : va_G} {cid : Nat → ClassId} {ρ : Nat → Int32} {b L : Nat} {xs : Nat → Int32} {oc : Nat} {ini : Bool} {cc : ByteArray} {nL : Nat} {rt : Option FieldType} {tb : zTb} {ys : List MethodName} {G : zG} {pc npc a1 a2 : Nat} {al al' : zLs} {ast ast' : List zV} {sz dz du : Nat} {h h' : zH} {ls : Array Slot} {st : List Value} {ws : va_W} {pc' : Nat} {i : Nat}
    (C : zCx p s m args meth c n0 D cid b L xs oc ini cc nL rt) (F : zFx tb ys) (hG : zGok G ρ L xs) (hch : zchI tb oc ini nL rt pc (.lload i) a1 a2 = true) (hd : decode cc pc = .ok ((.lload i), zlen (.lload i))) (hn : npc = pc + zlen (.lload i))
    (hs0 : zstep G (.lload i) npc a1 a2 pc al ast sz h = some (.inl (pc', al', ast', h', dz, du))) (hA : zAt D cid ρ b n0 nL s al ast sz h ls st ws H locs) (hcells : cells + dz ≤ R.cells) (hslots : slots + du ≤ R.slots)
    (kk : ∀ (ws' : va_W) (H' : Heap) (locs' : List Loc) (ls' : Array Slot) (st' : List Value), zAt D cid ρ b n0 nL s al' ast' (sz + dz) h' ls' st' ws' H' locs' → (∃ xs, ws'.map Prod.fst = ws.map Prod.fst ++ xs) → W p l e R s m args below meth c H' locs' (cells + dz) (slots + du) Q (F0 m pc' ls' st')) : W p l e R s m args below meth c H locs cells slots Q (F0 m pc ls st) := by
  obtain ⟨hx, hb, hml, hown, hts, hKU, hini, hr, hlocks, hn0, hbn⟩ := C
  subst hn
  obtain ⟨a, hf, ha, hs1⟩ := zld_inv hs0
  cases hs1
  obtain ⟨⟨lv, hl, hL⟩, hS0, hP, hD, hSt, hW⟩ := hA
  obtain ⟨k, v, hk, hg⟩ := zLr_find hL hf
  obtain ⟨q, -, rfl⟩ := zg_L hg ha
  exact lv_lload hx hb hd (lv_at hl k hk) (kk _ _ _ _ _ ⟨⟨lv, hl, hL⟩, ⟨hg, hS0⟩, hP, hD, hSt, hW⟩ zpre)

set_option maxHeartbeats 2000000 in
theorem zs_istore_n {p : Program} {l : Launch} {e : Env} {R : Room} {s : State} {m : MethodId} {args : Array Value} {below : List Frame} {meth : Method} {c : Code} {H : Heap} {locs : List Loc} {cells slots : Nat} {Q : State → Prop} {n0 : Nat} {D : va_G} {cid : Nat → ClassId} {ρ : Nat → Int32} {b L : Nat} {xs : Nat → Int32} {oc : Nat} {ini : Bool} {cc : ByteArray} {nL : Nat} {rt : Option FieldType} {tb : zTb} {ys : List MethodName} {G : zG} {pc npc a1 a2 : Nat} {al al' : zLs} {ast ast' : List zV} {sz dz du : Nat} {h h' : zH} {ls : Array Slot} {st : List Value} {ws : va_W} {pc' : Nat} {i : Fin 4}
    (C : zCx p s m args meth c n0 D cid b L xs oc ini cc nL rt) (F : zFx tb ys) (hG : zGok G ρ L xs) (hch : zchI tb oc ini nL rt pc (.istore_n i) a1 a2 = true) (hd : decode cc pc = .ok ((.istore_n i), zlen (.istore_n i))) (hn : npc = pc + zlen (.istore_n i))
    (hs0 : zstep G (.istore_n i) npc a1 a2 pc al ast sz h = some (.inl (pc', al', ast', h', dz, du))) (hA : zAt D cid ρ b n0 nL s al ast sz h ls st ws H locs) (hcells : cells + dz ≤ R.cells) (hslots : slots + du ≤ R.slots)
    (kk : ∀ (ws' : va_W) (H' : Heap) (locs' : List Loc) (ls' : Array Slot) (st' : List Value), zAt D cid ρ b n0 nL s al' ast' (sz + dz) h' ls' st' ws' H' locs' → (∃ xs, ws'.map Prod.fst = ws.map Prod.fst ++ xs) → W p l e R s m args below meth c H' locs' (cells + dz) (slots + du) Q (F0 m pc' ls' st')) : W p l e R s m args below meth c H locs cells slots Q (F0 m pc ls st) := by
  obtain ⟨hx, hb, hml, hown, hts, hKU, hini, hr, hlocks, hn0, hbn⟩ := C
  subst hn
  obtain ⟨a, r, rfl, hs1⟩ := z1_inv hs0
  obtain ⟨ha, hs2⟩ := zwhen_inv hs1
  rw [zstore_eq] at hs2
  cases hs2
  obtain ⟨⟨lv, hl, hL⟩, hS0, hP, hD, hSt, hW⟩ := hA
  obtain ⟨v, w, rfl, hg, hS1⟩ := zS_cons hS0
  obtain ⟨q, rfl, -⟩ := zg_I hg ha
  exact lv_istore_n hx hb hd rfl hl (zblt ((Bool.and_eq_true _ _).mp hch).1) rfl (fun ls2 hl2 => kk _ _ _ _ _ ⟨⟨_, hl2, zLr_st1 hL hg⟩, hS1, hP, hD, hSt, hW⟩ zpre)

set_option maxHeartbeats 2000000 in
theorem zs_istore {p : Program} {l : Launch} {e : Env} {R : Room} {s : State} {m : MethodId} {args : Array Value} {below : List Frame} {meth : Method} {c : Code} {H : Heap} {locs : List Loc} {cells slots : Nat} {Q : State → Prop} {n0 : Nat} {D : va_G} {cid : Nat → ClassId} {ρ : Nat → Int32} {b L : Nat} {xs : Nat → Int32} {oc : Nat} {ini : Bool} {cc : ByteArray} {nL : Nat} {rt : Option FieldType} {tb : zTb} {ys : List MethodName} {G : zG} {pc npc a1 a2 : Nat} {al al' : zLs} {ast ast' : List zV} {sz dz du : Nat} {h h' : zH} {ls : Array Slot} {st : List Value} {ws : va_W} {pc' : Nat} {i : Nat}
    (C : zCx p s m args meth c n0 D cid b L xs oc ini cc nL rt) (F : zFx tb ys) (hG : zGok G ρ L xs) (hch : zchI tb oc ini nL rt pc (.istore i) a1 a2 = true) (hd : decode cc pc = .ok ((.istore i), zlen (.istore i))) (hn : npc = pc + zlen (.istore i))
    (hs0 : zstep G (.istore i) npc a1 a2 pc al ast sz h = some (.inl (pc', al', ast', h', dz, du))) (hA : zAt D cid ρ b n0 nL s al ast sz h ls st ws H locs) (hcells : cells + dz ≤ R.cells) (hslots : slots + du ≤ R.slots)
    (kk : ∀ (ws' : va_W) (H' : Heap) (locs' : List Loc) (ls' : Array Slot) (st' : List Value), zAt D cid ρ b n0 nL s al' ast' (sz + dz) h' ls' st' ws' H' locs' → (∃ xs, ws'.map Prod.fst = ws.map Prod.fst ++ xs) → W p l e R s m args below meth c H' locs' (cells + dz) (slots + du) Q (F0 m pc' ls' st')) : W p l e R s m args below meth c H locs cells slots Q (F0 m pc ls st) := by
  obtain ⟨hx, hb, hml, hown, hts, hKU, hini, hr, hlocks, hn0, hbn⟩ := C
  subst hn
  obtain ⟨a, r, rfl, hs1⟩ := z1_inv hs0
  obtain ⟨ha, hs2⟩ := zwhen_inv hs1
  rw [zstore_eq] at hs2
  cases hs2
  obtain ⟨⟨lv, hl, hL⟩, hS0, hP, hD, hSt, hW⟩ := hA
  obtain ⟨v, w, rfl, hg, hS1⟩ := zS_cons hS0
  obtain ⟨q, rfl, -⟩ := zg_I hg ha
  exact lv_istore hx hb hd hl (zblt ((Bool.and_eq_true _ _).mp hch).1) rfl (fun ls2 hl2 => kk _ _ _ _ _ ⟨⟨_, hl2, zLr_st1 hL hg⟩, hS1, hP, hD, hSt, hW⟩ zpre)

set_option maxHeartbeats 2000000 in
theorem zs_astore_n {p : Program} {l : Launch} {e : Env} {R : Room} {s : State} {m : MethodId} {args : Array Value} {below : List Frame} {meth : Method} {c : Code} {H : Heap} {locs : List Loc} {cells slots : Nat} {Q : State → Prop} {n0 : Nat} {D : va_G} {cid : Nat → ClassId} {ρ : Nat → Int32} {b L : Nat} {xs : Nat → Int32} {oc : Nat} {ini : Bool} {cc : ByteArray} {nL : Nat} {rt : Option FieldType} {tb : zTb} {ys : List MethodName} {G : zG} {pc npc a1 a2 : Nat} {al al' : zLs} {ast ast' : List zV} {sz dz du : Nat} {h h' : zH} {ls : Array Slot} {st : List Value} {ws : va_W} {pc' : Nat} {i : Fin 4}
    (C : zCx p s m args meth c n0 D cid b L xs oc ini cc nL rt) (F : zFx tb ys) (hG : zGok G ρ L xs) (hch : zchI tb oc ini nL rt pc (.astore_n i) a1 a2 = true) (hd : decode cc pc = .ok ((.astore_n i), zlen (.astore_n i))) (hn : npc = pc + zlen (.astore_n i))
    (hs0 : zstep G (.astore_n i) npc a1 a2 pc al ast sz h = some (.inl (pc', al', ast', h', dz, du))) (hA : zAt D cid ρ b n0 nL s al ast sz h ls st ws H locs) (hcells : cells + dz ≤ R.cells) (hslots : slots + du ≤ R.slots)
    (kk : ∀ (ws' : va_W) (H' : Heap) (locs' : List Loc) (ls' : Array Slot) (st' : List Value), zAt D cid ρ b n0 nL s al' ast' (sz + dz) h' ls' st' ws' H' locs' → (∃ xs, ws'.map Prod.fst = ws.map Prod.fst ++ xs) → W p l e R s m args below meth c H' locs' (cells + dz) (slots + du) Q (F0 m pc' ls' st')) : W p l e R s m args below meth c H locs cells slots Q (F0 m pc ls st) := by
  obtain ⟨hx, hb, hml, hown, hts, hKU, hini, hr, hlocks, hn0, hbn⟩ := C
  subst hn
  obtain ⟨a, r, rfl, hs1⟩ := z1_inv hs0
  obtain ⟨ha, hs2⟩ := zwhen_inv hs1
  rw [zstore_eq] at hs2
  cases hs2
  obtain ⟨⟨lv, hl, hL⟩, hS0, hP, hD, hSt, hW⟩ := hA
  obtain ⟨v, w, rfl, hg, hS1⟩ := zS_cons hS0
  obtain ⟨q, rfl⟩ := zg_R hg ha
  exact lv_astore_n hx hb hd rfl hl (zblt ((Bool.and_eq_true _ _).mp hch).1) rfl (fun ls2 hl2 => kk _ _ _ _ _ ⟨⟨_, hl2, zLr_st1 hL hg⟩, hS1, hP, hD, hSt, hW⟩ zpre)

set_option maxHeartbeats 2000000 in
theorem zs_astore {p : Program} {l : Launch} {e : Env} {R : Room} {s : State} {m : MethodId} {args : Array Value} {below : List Frame} {meth : Method} {c : Code} {H : Heap} {locs : List Loc} {cells slots : Nat} {Q : State → Prop} {n0 : Nat} {D : va_G} {cid : Nat → ClassId} {ρ : Nat → Int32} {b L : Nat} {xs : Nat → Int32} {oc : Nat} {ini : Bool} {cc : ByteArray} {nL : Nat} {rt : Option FieldType} {tb : zTb} {ys : List MethodName} {G : zG} {pc npc a1 a2 : Nat} {al al' : zLs} {ast ast' : List zV} {sz dz du : Nat} {h h' : zH} {ls : Array Slot} {st : List Value} {ws : va_W} {pc' : Nat} {i : Nat}
    (C : zCx p s m args meth c n0 D cid b L xs oc ini cc nL rt) (F : zFx tb ys) (hG : zGok G ρ L xs) (hch : zchI tb oc ini nL rt pc (.astore i) a1 a2 = true) (hd : decode cc pc = .ok ((.astore i), zlen (.astore i))) (hn : npc = pc + zlen (.astore i))
    (hs0 : zstep G (.astore i) npc a1 a2 pc al ast sz h = some (.inl (pc', al', ast', h', dz, du))) (hA : zAt D cid ρ b n0 nL s al ast sz h ls st ws H locs) (hcells : cells + dz ≤ R.cells) (hslots : slots + du ≤ R.slots)
    (kk : ∀ (ws' : va_W) (H' : Heap) (locs' : List Loc) (ls' : Array Slot) (st' : List Value), zAt D cid ρ b n0 nL s al' ast' (sz + dz) h' ls' st' ws' H' locs' → (∃ xs, ws'.map Prod.fst = ws.map Prod.fst ++ xs) → W p l e R s m args below meth c H' locs' (cells + dz) (slots + du) Q (F0 m pc' ls' st')) : W p l e R s m args below meth c H locs cells slots Q (F0 m pc ls st) := by
  obtain ⟨hx, hb, hml, hown, hts, hKU, hini, hr, hlocks, hn0, hbn⟩ := C
  subst hn
  obtain ⟨a, r, rfl, hs1⟩ := z1_inv hs0
  obtain ⟨ha, hs2⟩ := zwhen_inv hs1
  rw [zstore_eq] at hs2
  cases hs2
  obtain ⟨⟨lv, hl, hL⟩, hS0, hP, hD, hSt, hW⟩ := hA
  obtain ⟨v, w, rfl, hg, hS1⟩ := zS_cons hS0
  obtain ⟨q, rfl⟩ := zg_R hg ha
  exact lv_astore hx hb hd hl (zblt ((Bool.and_eq_true _ _).mp hch).1) rfl (fun ls2 hl2 => kk _ _ _ _ _ ⟨⟨_, hl2, zLr_st1 hL hg⟩, hS1, hP, hD, hSt, hW⟩ zpre)

set_option maxHeartbeats 2000000 in
theorem zs_lstore_n {p : Program} {l : Launch} {e : Env} {R : Room} {s : State} {m : MethodId} {args : Array Value} {below : List Frame} {meth : Method} {c : Code} {H : Heap} {locs : List Loc} {cells slots : Nat} {Q : State → Prop} {n0 : Nat} {D : va_G} {cid : Nat → ClassId} {ρ : Nat → Int32} {b L : Nat} {xs : Nat → Int32} {oc : Nat} {ini : Bool} {cc : ByteArray} {nL : Nat} {rt : Option FieldType} {tb : zTb} {ys : List MethodName} {G : zG} {pc npc a1 a2 : Nat} {al al' : zLs} {ast ast' : List zV} {sz dz du : Nat} {h h' : zH} {ls : Array Slot} {st : List Value} {ws : va_W} {pc' : Nat} {i : Fin 4}
    (C : zCx p s m args meth c n0 D cid b L xs oc ini cc nL rt) (F : zFx tb ys) (hG : zGok G ρ L xs) (hch : zchI tb oc ini nL rt pc (.lstore_n i) a1 a2 = true) (hd : decode cc pc = .ok ((.lstore_n i), zlen (.lstore_n i))) (hn : npc = pc + zlen (.lstore_n i))
    (hs0 : zstep G (.lstore_n i) npc a1 a2 pc al ast sz h = some (.inl (pc', al', ast', h', dz, du))) (hA : zAt D cid ρ b n0 nL s al ast sz h ls st ws H locs) (hcells : cells + dz ≤ R.cells) (hslots : slots + du ≤ R.slots)
    (kk : ∀ (ws' : va_W) (H' : Heap) (locs' : List Loc) (ls' : Array Slot) (st' : List Value), zAt D cid ρ b n0 nL s al' ast' (sz + dz) h' ls' st' ws' H' locs' → (∃ xs, ws'.map Prod.fst = ws.map Prod.fst ++ xs) → W p l e R s m args below meth c H' locs' (cells + dz) (slots + du) Q (F0 m pc' ls' st')) : W p l e R s m args below meth c H locs cells slots Q (F0 m pc ls st) := by
  obtain ⟨hx, hb, hml, hown, hts, hKU, hini, hr, hlocks, hn0, hbn⟩ := C
  subst hn
  obtain ⟨a, r, rfl, hs1⟩ := z1_inv hs0
  obtain ⟨ha, hs2⟩ := zwhen_inv hs1
  rw [zstore_eq] at hs2
  cases hs2
  obtain ⟨⟨lv, hl, hL⟩, hS0, hP, hD, hSt, hW⟩ := hA
  obtain ⟨v, w, rfl, hg, hS1⟩ := zS_cons hS0
  obtain ⟨q, -, rfl⟩ := zg_L hg ha
  exact lv_lstore_n hx hb hd rfl hl (zblt ((Bool.and_eq_true _ _).mp hch).1) rfl (fun ls2 hl2 => kk _ _ _ _ _ ⟨⟨_, hl2, zLr_st2 hL hg⟩, hS1, hP, hD, hSt, hW⟩ zpre)

set_option maxHeartbeats 2000000 in
theorem zs_lstore {p : Program} {l : Launch} {e : Env} {R : Room} {s : State} {m : MethodId} {args : Array Value} {below : List Frame} {meth : Method} {c : Code} {H : Heap} {locs : List Loc} {cells slots : Nat} {Q : State → Prop} {n0 : Nat} {D : va_G} {cid : Nat → ClassId} {ρ : Nat → Int32} {b L : Nat} {xs : Nat → Int32} {oc : Nat} {ini : Bool} {cc : ByteArray} {nL : Nat} {rt : Option FieldType} {tb : zTb} {ys : List MethodName} {G : zG} {pc npc a1 a2 : Nat} {al al' : zLs} {ast ast' : List zV} {sz dz du : Nat} {h h' : zH} {ls : Array Slot} {st : List Value} {ws : va_W} {pc' : Nat} {i : Nat}
    (C : zCx p s m args meth c n0 D cid b L xs oc ini cc nL rt) (F : zFx tb ys) (hG : zGok G ρ L xs) (hch : zchI tb oc ini nL rt pc (.lstore i) a1 a2 = true) (hd : decode cc pc = .ok ((.lstore i), zlen (.lstore i))) (hn : npc = pc + zlen (.lstore i))
    (hs0 : zstep G (.lstore i) npc a1 a2 pc al ast sz h = some (.inl (pc', al', ast', h', dz, du))) (hA : zAt D cid ρ b n0 nL s al ast sz h ls st ws H locs) (hcells : cells + dz ≤ R.cells) (hslots : slots + du ≤ R.slots)
    (kk : ∀ (ws' : va_W) (H' : Heap) (locs' : List Loc) (ls' : Array Slot) (st' : List Value), zAt D cid ρ b n0 nL s al' ast' (sz + dz) h' ls' st' ws' H' locs' → (∃ xs, ws'.map Prod.fst = ws.map Prod.fst ++ xs) → W p l e R s m args below meth c H' locs' (cells + dz) (slots + du) Q (F0 m pc' ls' st')) : W p l e R s m args below meth c H locs cells slots Q (F0 m pc ls st) := by
  obtain ⟨hx, hb, hml, hown, hts, hKU, hini, hr, hlocks, hn0, hbn⟩ := C
  subst hn
  obtain ⟨a, r, rfl, hs1⟩ := z1_inv hs0
  obtain ⟨ha, hs2⟩ := zwhen_inv hs1
  rw [zstore_eq] at hs2
  cases hs2
  obtain ⟨⟨lv, hl, hL⟩, hS0, hP, hD, hSt, hW⟩ := hA
  obtain ⟨v, w, rfl, hg, hS1⟩ := zS_cons hS0
  obtain ⟨q, -, rfl⟩ := zg_L hg ha
  exact lv_lstore hx hb hd hl (zblt ((Bool.and_eq_true _ _).mp hch).1) rfl (fun ls2 hl2 => kk _ _ _ _ _ ⟨⟨_, hl2, zLr_st2 hL hg⟩, hS1, hP, hD, hSt, hW⟩ zpre)

set_option maxHeartbeats 2000000 in
theorem zs_iinc {p : Program} {l : Launch} {e : Env} {R : Room} {s : State} {m : MethodId} {args : Array Value} {below : List Frame} {meth : Method} {c : Code} {H : Heap} {locs : List Loc} {cells slots : Nat} {Q : State → Prop} {n0 : Nat} {D : va_G} {cid : Nat → ClassId} {ρ : Nat → Int32} {b L : Nat} {xs : Nat → Int32} {oc : Nat} {ini : Bool} {cc : ByteArray} {nL : Nat} {rt : Option FieldType} {tb : zTb} {ys : List MethodName} {G : zG} {pc npc a1 a2 : Nat} {al al' : zLs} {ast ast' : List zV} {sz dz du : Nat} {h h' : zH} {ls : Array Slot} {st : List Value} {ws : va_W} {pc' : Nat} {i : Nat} {n : Int}
    (C : zCx p s m args meth c n0 D cid b L xs oc ini cc nL rt) (F : zFx tb ys) (hG : zGok G ρ L xs) (hch : zchI tb oc ini nL rt pc (.iinc i n) a1 a2 = true) (hd : decode cc pc = .ok ((.iinc i n), zlen (.iinc i n))) (hn : npc = pc + zlen (.iinc i n))
    (hs0 : zstep G (.iinc i n) npc a1 a2 pc al ast sz h = some (.inl (pc', al', ast', h', dz, du))) (hA : zAt D cid ρ b n0 nL s al ast sz h ls st ws H locs) (hcells : cells + dz ≤ R.cells) (hslots : slots + du ≤ R.slots)
    (kk : ∀ (ws' : va_W) (H' : Heap) (locs' : List Loc) (ls' : Array Slot) (st' : List Value), zAt D cid ρ b n0 nL s al' ast' (sz + dz) h' ls' st' ws' H' locs' → (∃ xs, ws'.map Prod.fst = ws.map Prod.fst ++ xs) → W p l e R s m args below meth c H' locs' (cells + dz) (slots + du) Q (F0 m pc' ls' st')) : W p l e R s m args below meth c H locs cells slots Q (F0 m pc ls st) := by
  obtain ⟨hx, hb, hml, hown, hts, hKU, hini, hr, hlocks, hn0, hbn⟩ := C
  subst hn
  obtain ⟨a, hf, ha, hs1⟩ := zld_inv hs0
  have hch : (Nat.blt i nL && Nat.beq a1 i && decide (Int32.ofInt n = zI a2)) = true := hch
  rw [Bool.and_eq_true, Bool.and_eq_true] at hch
  obtain ⟨⟨hch1, -⟩, hch3⟩ := hch
  have hch3 := of_decide_eq_true hch3
  obtain ⟨-, r, hs1, hr2⟩ := zinc_ok (ρ := ρ) hs1
  rw [zstore_eq] at hs1
  cases hs1
  obtain ⟨⟨lv, hl, hL⟩, hS0, hP, hD, hSt, hW⟩ := hA
  obtain ⟨k, v, hk, hg⟩ := zLr_find hL hf
  obtain ⟨x, rfl, hgx⟩ := zg_I hg ha
  exact lv_iinc hx hb hd hl hk (by rw [hch3]) (zblt hch1) rfl (fun ls2 hl2 => kk _ _ _ _ _ ⟨⟨_, hl2, zLr_st1 hL (zg_ofI (hr2 x hgx))⟩, hS0, hP, hD, hSt, hW⟩ zpre)

set_option maxHeartbeats 2000000 in
theorem zs_iconst {p : Program} {l : Launch} {e : Env} {R : Room} {s : State} {m : MethodId} {args : Array Value} {below : List Frame} {meth : Method} {c : Code} {H : Heap} {locs : List Loc} {cells slots : Nat} {Q : State → Prop} {n0 : Nat} {D : va_G} {cid : Nat → ClassId} {ρ : Nat → Int32} {b L : Nat} {xs : Nat → Int32} {oc : Nat} {ini : Bool} {cc : ByteArray} {nL : Nat} {rt : Option FieldType} {tb : zTb} {ys : List MethodName} {G : zG} {pc npc a1 a2 : Nat} {al al' : zLs} {ast ast' : List zV} {sz dz du : Nat} {h h' : zH} {ls : Array Slot} {st : List Value} {ws : va_W} {pc' : Nat} {n : Int}
    (C : zCx p s m args meth c n0 D cid b L xs oc ini cc nL rt) (F : zFx tb ys) (hG : zGok G ρ L xs) (hch : zchI tb oc ini nL rt pc (.iconst n) a1 a2 = true) (hd : decode cc pc = .ok ((.iconst n), zlen (.iconst n))) (hn : npc = pc + zlen (.iconst n))
    (hs0 : zstep G (.iconst n) npc a1 a2 pc al ast sz h = some (.inl (pc', al', ast', h', dz, du))) (hA : zAt D cid ρ b n0 nL s al ast sz h ls st ws H locs) (hcells : cells + dz ≤ R.cells) (hslots : slots + du ≤ R.slots)
    (kk : ∀ (ws' : va_W) (H' : Heap) (locs' : List Loc) (ls' : Array Slot) (st' : List Value), zAt D cid ρ b n0 nL s al' ast' (sz + dz) h' ls' st' ws' H' locs' → (∃ xs, ws'.map Prod.fst = ws.map Prod.fst ++ xs) → W p l e R s m args below meth c H' locs' (cells + dz) (slots + du) Q (F0 m pc' ls' st')) : W p l e R s m args below meth c H locs cells slots Q (F0 m pc ls st) := by
  obtain ⟨hx, hb, hml, hown, hts, hKU, hini, hr, hlocks, hn0, hbn⟩ := C
  subst hn
  cases hs0
  obtain ⟨⟨lv, hl, hL⟩, hS0, hP, hD, hSt, hW⟩ := hA
  exact lv_iconst hx hb hd (of_decide_eq_true hch) (kk _ _ _ _ _ ⟨⟨lv, hl, hL⟩, ⟨rfl, hS0⟩, hP, hD, hSt, hW⟩ zpre)

set_option maxHeartbeats 2000000 in
theorem zs_bipush {p : Program} {l : Launch} {e : Env} {R : Room} {s : State} {m : MethodId} {args : Array Value} {below : List Frame} {meth : Method} {c : Code} {H : Heap} {locs : List Loc} {cells slots : Nat} {Q : State → Prop} {n0 : Nat} {D : va_G} {cid : Nat → ClassId} {ρ : Nat → Int32} {b L : Nat} {xs : Nat → Int32} {oc : Nat} {ini : Bool} {cc : ByteArray} {nL : Nat} {rt : Option FieldType} {tb : zTb} {ys : List MethodName} {G : zG} {pc npc a1 a2 : Nat} {al al' : zLs} {ast ast' : List zV} {sz dz du : Nat} {h h' : zH} {ls : Array Slot} {st : List Value} {ws : va_W} {pc' : Nat} {n : Int}
    (C : zCx p s m args meth c n0 D cid b L xs oc ini cc nL rt) (F : zFx tb ys) (hG : zGok G ρ L xs) (hch : zchI tb oc ini nL rt pc (.bipush n) a1 a2 = true) (hd : decode cc pc = .ok ((.bipush n), zlen (.bipush n))) (hn : npc = pc + zlen (.bipush n))
    (hs0 : zstep G (.bipush n) npc a1 a2 pc al ast sz h = some (.inl (pc', al', ast', h', dz, du))) (hA : zAt D cid ρ b n0 nL s al ast sz h ls st ws H locs) (hcells : cells + dz ≤ R.cells) (hslots : slots + du ≤ R.slots)
    (kk : ∀ (ws' : va_W) (H' : Heap) (locs' : List Loc) (ls' : Array Slot) (st' : List Value), zAt D cid ρ b n0 nL s al' ast' (sz + dz) h' ls' st' ws' H' locs' → (∃ xs, ws'.map Prod.fst = ws.map Prod.fst ++ xs) → W p l e R s m args below meth c H' locs' (cells + dz) (slots + du) Q (F0 m pc' ls' st')) : W p l e R s m args below meth c H locs cells slots Q (F0 m pc ls st) := by
  obtain ⟨hx, hb, hml, hown, hts, hKU, hini, hr, hlocks, hn0, hbn⟩ := C
  subst hn
  cases hs0
  obtain ⟨⟨lv, hl, hL⟩, hS0, hP, hD, hSt, hW⟩ := hA
  exact lv_bipush hx hb hd (of_decide_eq_true hch) (kk _ _ _ _ _ ⟨⟨lv, hl, hL⟩, ⟨rfl, hS0⟩, hP, hD, hSt, hW⟩ zpre)

set_option maxHeartbeats 2000000 in
theorem zs_sipush {p : Program} {l : Launch} {e : Env} {R : Room} {s : State} {m : MethodId} {args : Array Value} {below : List Frame} {meth : Method} {c : Code} {H : Heap} {locs : List Loc} {cells slots : Nat} {Q : State → Prop} {n0 : Nat} {D : va_G} {cid : Nat → ClassId} {ρ : Nat → Int32} {b L : Nat} {xs : Nat → Int32} {oc : Nat} {ini : Bool} {cc : ByteArray} {nL : Nat} {rt : Option FieldType} {tb : zTb} {ys : List MethodName} {G : zG} {pc npc a1 a2 : Nat} {al al' : zLs} {ast ast' : List zV} {sz dz du : Nat} {h h' : zH} {ls : Array Slot} {st : List Value} {ws : va_W} {pc' : Nat} {n : Int}
    (C : zCx p s m args meth c n0 D cid b L xs oc ini cc nL rt) (F : zFx tb ys) (hG : zGok G ρ L xs) (hch : zchI tb oc ini nL rt pc (.sipush n) a1 a2 = true) (hd : decode cc pc = .ok ((.sipush n), zlen (.sipush n))) (hn : npc = pc + zlen (.sipush n))
    (hs0 : zstep G (.sipush n) npc a1 a2 pc al ast sz h = some (.inl (pc', al', ast', h', dz, du))) (hA : zAt D cid ρ b n0 nL s al ast sz h ls st ws H locs) (hcells : cells + dz ≤ R.cells) (hslots : slots + du ≤ R.slots)
    (kk : ∀ (ws' : va_W) (H' : Heap) (locs' : List Loc) (ls' : Array Slot) (st' : List Value), zAt D cid ρ b n0 nL s al' ast' (sz + dz) h' ls' st' ws' H' locs' → (∃ xs, ws'.map Prod.fst = ws.map Prod.fst ++ xs) → W p l e R s m args below meth c H' locs' (cells + dz) (slots + du) Q (F0 m pc' ls' st')) : W p l e R s m args below meth c H locs cells slots Q (F0 m pc ls st) := by
  obtain ⟨hx, hb, hml, hown, hts, hKU, hini, hr, hlocks, hn0, hbn⟩ := C
  subst hn
  cases hs0
  obtain ⟨⟨lv, hl, hL⟩, hS0, hP, hD, hSt, hW⟩ := hA
  exact lv_sipush hx hb hd (of_decide_eq_true hch) (kk _ _ _ _ _ ⟨⟨lv, hl, hL⟩, ⟨rfl, hS0⟩, hP, hD, hSt, hW⟩ zpre)

set_option maxHeartbeats 2000000 in
theorem zs_lconst {p : Program} {l : Launch} {e : Env} {R : Room} {s : State} {m : MethodId} {args : Array Value} {below : List Frame} {meth : Method} {c : Code} {H : Heap} {locs : List Loc} {cells slots : Nat} {Q : State → Prop} {n0 : Nat} {D : va_G} {cid : Nat → ClassId} {ρ : Nat → Int32} {b L : Nat} {xs : Nat → Int32} {oc : Nat} {ini : Bool} {cc : ByteArray} {nL : Nat} {rt : Option FieldType} {tb : zTb} {ys : List MethodName} {G : zG} {pc npc a1 a2 : Nat} {al al' : zLs} {ast ast' : List zV} {sz dz du : Nat} {h h' : zH} {ls : Array Slot} {st : List Value} {ws : va_W} {pc' : Nat} {n : Fin 2}
    (C : zCx p s m args meth c n0 D cid b L xs oc ini cc nL rt) (F : zFx tb ys) (hG : zGok G ρ L xs) (hch : zchI tb oc ini nL rt pc (.lconst n) a1 a2 = true) (hd : decode cc pc = .ok ((.lconst n), zlen (.lconst n))) (hn : npc = pc + zlen (.lconst n))
    (hs0 : zstep G (.lconst n) npc a1 a2 pc al ast sz h = some (.inl (pc', al', ast', h', dz, du))) (hA : zAt D cid ρ b n0 nL s al ast sz h ls st ws H locs) (hcells : cells + dz ≤ R.cells) (hslots : slots + du ≤ R.slots)
    (kk : ∀ (ws' : va_W) (H' : Heap) (locs' : List Loc) (ls' : Array Slot) (st' : List Value), zAt D cid ρ b n0 nL s al' ast' (sz + dz) h' ls' st' ws' H' locs' → (∃ xs, ws'.map Prod.fst = ws.map Prod.fst ++ xs) → W p l e R s m args below meth c H' locs' (cells + dz) (slots + du) Q (F0 m pc' ls' st')) : W p l e R s m args below meth c H locs cells slots Q (F0 m pc ls st) := by
  obtain ⟨hx, hb, hml, hown, hts, hKU, hini, hr, hlocks, hn0, hbn⟩ := C
  subst hn
  cases hs0
  obtain ⟨⟨lv, hl, hL⟩, hS0, hP, hD, hSt, hW⟩ := hA
  exact lv_lconst hx hb hd (of_decide_eq_true hch) (kk _ _ _ _ _ ⟨⟨lv, hl, hL⟩, ⟨rfl, hS0⟩, hP, hD, hSt, hW⟩ zpre)

set_option maxHeartbeats 2000000 in
theorem zs_ldc {p : Program} {l : Launch} {e : Env} {R : Room} {s : State} {m : MethodId} {args : Array Value} {below : List Frame} {meth : Method} {c : Code} {H : Heap} {locs : List Loc} {cells slots : Nat} {Q : State → Prop} {n0 : Nat} {D : va_G} {cid : Nat → ClassId} {ρ : Nat → Int32} {b L : Nat} {xs : Nat → Int32} {oc : Nat} {ini : Bool} {cc : ByteArray} {nL : Nat} {rt : Option FieldType} {tb : zTb} {ys : List MethodName} {G : zG} {pc npc a1 a2 : Nat} {al al' : zLs} {ast ast' : List zV} {sz dz du : Nat} {h h' : zH} {ls : Array Slot} {st : List Value} {ws : va_W} {pc' : Nat} {i : Nat}
    (C : zCx p s m args meth c n0 D cid b L xs oc ini cc nL rt) (F : zFx tb ys) (hG : zGok G ρ L xs) (hch : zchI tb oc ini nL rt pc (.ldc i) a1 a2 = true) (hd : decode cc pc = .ok ((.ldc i), zlen (.ldc i))) (hn : npc = pc + zlen (.ldc i))
    (hs0 : zstep G (.ldc i) npc a1 a2 pc al ast sz h = some (.inl (pc', al', ast', h', dz, du))) (hA : zAt D cid ρ b n0 nL s al ast sz h ls st ws H locs) (hcells : cells + dz ≤ R.cells) (hslots : slots + du ≤ R.slots)
    (kk : ∀ (ws' : va_W) (H' : Heap) (locs' : List Loc) (ls' : Array Slot) (st' : List Value), zAt D cid ρ b n0 nL s al' ast' (sz + dz) h' ls' st' ws' H' locs' → (∃ xs, ws'.map Prod.fst = ws.map Prod.fst ++ xs) → W p l e R s m args below meth c H' locs' (cells + dz) (slots + du) Q (F0 m pc' ls' st')) : W p l e R s m args below meth c H locs cells slots Q (F0 m pc ls st) := by
  obtain ⟨hx, hb, hml, hown, hts, hKU, hini, hr, hlocks, hn0, hbn⟩ := C
  subst hn
  cases hs0
  obtain ⟨⟨lv, hl, hL⟩, hS0, hP, hD, hSt, hW⟩ := hA
  obtain ⟨⟨i2, u2⟩, hm, hc⟩ := List.any_eq_true.mp hch
  simp only [Bool.and_eq_true, beq_iff_eq] at hc
  obtain ⟨rfl, rfl⟩ := hc
  exact lv_ldc hx hb hown (hts _ (F.2.2.2.2.2.1 oc _ _ hm)) hd (kk _ _ _ _ _ ⟨⟨lv, hl, hL⟩, ⟨rfl, hS0⟩, hP, hD, hSt, hW⟩ zpre)

set_option maxHeartbeats 2000000 in
theorem zs_ldc_w {p : Program} {l : Launch} {e : Env} {R : Room} {s : State} {m : MethodId} {args : Array Value} {below : List Frame} {meth : Method} {c : Code} {H : Heap} {locs : List Loc} {cells slots : Nat} {Q : State → Prop} {n0 : Nat} {D : va_G} {cid : Nat → ClassId} {ρ : Nat → Int32} {b L : Nat} {xs : Nat → Int32} {oc : Nat} {ini : Bool} {cc : ByteArray} {nL : Nat} {rt : Option FieldType} {tb : zTb} {ys : List MethodName} {G : zG} {pc npc a1 a2 : Nat} {al al' : zLs} {ast ast' : List zV} {sz dz du : Nat} {h h' : zH} {ls : Array Slot} {st : List Value} {ws : va_W} {pc' : Nat} {i : Nat}
    (C : zCx p s m args meth c n0 D cid b L xs oc ini cc nL rt) (F : zFx tb ys) (hG : zGok G ρ L xs) (hch : zchI tb oc ini nL rt pc (.ldc_w i) a1 a2 = true) (hd : decode cc pc = .ok ((.ldc_w i), zlen (.ldc_w i))) (hn : npc = pc + zlen (.ldc_w i))
    (hs0 : zstep G (.ldc_w i) npc a1 a2 pc al ast sz h = some (.inl (pc', al', ast', h', dz, du))) (hA : zAt D cid ρ b n0 nL s al ast sz h ls st ws H locs) (hcells : cells + dz ≤ R.cells) (hslots : slots + du ≤ R.slots)
    (kk : ∀ (ws' : va_W) (H' : Heap) (locs' : List Loc) (ls' : Array Slot) (st' : List Value), zAt D cid ρ b n0 nL s al' ast' (sz + dz) h' ls' st' ws' H' locs' → (∃ xs, ws'.map Prod.fst = ws.map Prod.fst ++ xs) → W p l e R s m args below meth c H' locs' (cells + dz) (slots + du) Q (F0 m pc' ls' st')) : W p l e R s m args below meth c H locs cells slots Q (F0 m pc ls st) := by
  obtain ⟨hx, hb, hml, hown, hts, hKU, hini, hr, hlocks, hn0, hbn⟩ := C
  subst hn
  cases hs0
  obtain ⟨⟨lv, hl, hL⟩, hS0, hP, hD, hSt, hW⟩ := hA
  obtain ⟨⟨i2, u2⟩, hm, hc⟩ := List.any_eq_true.mp hch
  simp only [Bool.and_eq_true, beq_iff_eq] at hc
  obtain ⟨rfl, rfl⟩ := hc
  exact lv_ldcw hx hb hown (hts _ (F.2.2.2.2.2.1 oc _ _ hm)) hd (kk _ _ _ _ _ ⟨⟨lv, hl, hL⟩, ⟨rfl, hS0⟩, hP, hD, hSt, hW⟩ zpre)

set_option maxHeartbeats 2000000 in
theorem zs_ldc2_w {p : Program} {l : Launch} {e : Env} {R : Room} {s : State} {m : MethodId} {args : Array Value} {below : List Frame} {meth : Method} {c : Code} {H : Heap} {locs : List Loc} {cells slots : Nat} {Q : State → Prop} {n0 : Nat} {D : va_G} {cid : Nat → ClassId} {ρ : Nat → Int32} {b L : Nat} {xs : Nat → Int32} {oc : Nat} {ini : Bool} {cc : ByteArray} {nL : Nat} {rt : Option FieldType} {tb : zTb} {ys : List MethodName} {G : zG} {pc npc a1 a2 : Nat} {al al' : zLs} {ast ast' : List zV} {sz dz du : Nat} {h h' : zH} {ls : Array Slot} {st : List Value} {ws : va_W} {pc' : Nat} {i : Nat}
    (C : zCx p s m args meth c n0 D cid b L xs oc ini cc nL rt) (F : zFx tb ys) (hG : zGok G ρ L xs) (hch : zchI tb oc ini nL rt pc (.ldc2_w i) a1 a2 = true) (hd : decode cc pc = .ok ((.ldc2_w i), zlen (.ldc2_w i))) (hn : npc = pc + zlen (.ldc2_w i))
    (hs0 : zstep G (.ldc2_w i) npc a1 a2 pc al ast sz h = some (.inl (pc', al', ast', h', dz, du))) (hA : zAt D cid ρ b n0 nL s al ast sz h ls st ws H locs) (hcells : cells + dz ≤ R.cells) (hslots : slots + du ≤ R.slots)
    (kk : ∀ (ws' : va_W) (H' : Heap) (locs' : List Loc) (ls' : Array Slot) (st' : List Value), zAt D cid ρ b n0 nL s al' ast' (sz + dz) h' ls' st' ws' H' locs' → (∃ xs, ws'.map Prod.fst = ws.map Prod.fst ++ xs) → W p l e R s m args below meth c H' locs' (cells + dz) (slots + du) Q (F0 m pc' ls' st')) : W p l e R s m args below meth c H locs cells slots Q (F0 m pc ls st) := by
  obtain ⟨hx, hb, hml, hown, hts, hKU, hini, hr, hlocks, hn0, hbn⟩ := C
  subst hn
  cases hs0
  obtain ⟨⟨lv, hl, hL⟩, hS0, hP, hD, hSt, hW⟩ := hA
  obtain ⟨⟨i2, u2⟩, hm, hc⟩ := List.any_eq_true.mp hch
  simp only [Bool.and_eq_true, beq_iff_eq] at hc
  obtain ⟨rfl, rfl⟩ := hc
  exact lv_ldc2 hx hb hown (hts _ (F.2.2.2.2.2.2.1 oc _ _ hm)) hd (kk _ _ _ _ _ ⟨⟨lv, hl, hL⟩, ⟨rfl, hS0⟩, hP, hD, hSt, hW⟩ zpre)

set_option maxHeartbeats 2000000 in
theorem zs_iadd {p : Program} {l : Launch} {e : Env} {R : Room} {s : State} {m : MethodId} {args : Array Value} {below : List Frame} {meth : Method} {c : Code} {H : Heap} {locs : List Loc} {cells slots : Nat} {Q : State → Prop} {n0 : Nat} {D : va_G} {cid : Nat → ClassId} {ρ : Nat → Int32} {b L : Nat} {xs : Nat → Int32} {oc : Nat} {ini : Bool} {cc : ByteArray} {nL : Nat} {rt : Option FieldType} {tb : zTb} {ys : List MethodName} {G : zG} {pc npc a1 a2 : Nat} {al al' : zLs} {ast ast' : List zV} {sz dz du : Nat} {h h' : zH} {ls : Array Slot} {st : List Value} {ws : va_W} {pc' : Nat} 
    (C : zCx p s m args meth c n0 D cid b L xs oc ini cc nL rt) (F : zFx tb ys) (hG : zGok G ρ L xs) (hch : zchI tb oc ini nL rt pc .iadd a1 a2 = true) (hd : decode cc pc = .ok (.iadd, zlen .iadd)) (hn : npc = pc + zlen .iadd)
    (hs0 : zstep G .iadd npc a1 a2 pc al ast sz h = some (.inl (pc', al', ast', h', dz, du))) (hA : zAt D cid ρ b n0 nL s al ast sz h ls st ws H locs) (hcells : cells + dz ≤ R.cells) (hslots : slots + du ≤ R.slots)
    (kk : ∀ (ws' : va_W) (H' : Heap) (locs' : List Loc) (ls' : Array Slot) (st' : List Value), zAt D cid ρ b n0 nL s al' ast' (sz + dz) h' ls' st' ws' H' locs' → (∃ xs, ws'.map Prod.fst = ws.map Prod.fst ++ xs) → W p l e R s m args below meth c H' locs' (cells + dz) (slots + du) Q (F0 m pc' ls' st')) : W p l e R s m args below meth c H locs cells slots Q (F0 m pc ls st) := by
  obtain ⟨hx, hb, hml, hown, hts, hKU, hini, hr, hlocks, hn0, hbn⟩ := C
  subst hn
  obtain ⟨a, d, r, rfl, hs1⟩ := z2_inv hs0
  obtain ⟨h1, h2, z, hs1, hz⟩ := zadd_ok (ρ := ρ) hs1
  cases hs1
  obtain ⟨⟨lv, hl, hL⟩, hS0, hP, hD, hSt, hW⟩ := hA
  obtain ⟨v2, w, rfl, g2, hS1⟩ := zS_cons hS0
  obtain ⟨v1, w, rfl, g1, hS2⟩ := zS_cons hS1
  obtain ⟨y, rfl, kk2⟩ := zg_I g2 h2
  obtain ⟨x, rfl, kk1⟩ := zg_I g1 h1
  exact lv_iadd hx hb hd (kk _ _ _ _ _ ⟨⟨lv, hl, hL⟩, ⟨zg_ofI (hz x y kk1 kk2), hS2⟩, hP, hD, hSt, hW⟩ zpre)

set_option maxHeartbeats 2000000 in
theorem zs_isub {p : Program} {l : Launch} {e : Env} {R : Room} {s : State} {m : MethodId} {args : Array Value} {below : List Frame} {meth : Method} {c : Code} {H : Heap} {locs : List Loc} {cells slots : Nat} {Q : State → Prop} {n0 : Nat} {D : va_G} {cid : Nat → ClassId} {ρ : Nat → Int32} {b L : Nat} {xs : Nat → Int32} {oc : Nat} {ini : Bool} {cc : ByteArray} {nL : Nat} {rt : Option FieldType} {tb : zTb} {ys : List MethodName} {G : zG} {pc npc a1 a2 : Nat} {al al' : zLs} {ast ast' : List zV} {sz dz du : Nat} {h h' : zH} {ls : Array Slot} {st : List Value} {ws : va_W} {pc' : Nat} 
    (C : zCx p s m args meth c n0 D cid b L xs oc ini cc nL rt) (F : zFx tb ys) (hG : zGok G ρ L xs) (hch : zchI tb oc ini nL rt pc .isub a1 a2 = true) (hd : decode cc pc = .ok (.isub, zlen .isub)) (hn : npc = pc + zlen .isub)
    (hs0 : zstep G .isub npc a1 a2 pc al ast sz h = some (.inl (pc', al', ast', h', dz, du))) (hA : zAt D cid ρ b n0 nL s al ast sz h ls st ws H locs) (hcells : cells + dz ≤ R.cells) (hslots : slots + du ≤ R.slots)
    (kk : ∀ (ws' : va_W) (H' : Heap) (locs' : List Loc) (ls' : Array Slot) (st' : List Value), zAt D cid ρ b n0 nL s al' ast' (sz + dz) h' ls' st' ws' H' locs' → (∃ xs, ws'.map Prod.fst = ws.map Prod.fst ++ xs) → W p l e R s m args below meth c H' locs' (cells + dz) (slots + du) Q (F0 m pc' ls' st')) : W p l e R s m args below meth c H locs cells slots Q (F0 m pc ls st) := by
  obtain ⟨hx, hb, hml, hown, hts, hKU, hini, hr, hlocks, hn0, hbn⟩ := C
  subst hn
  obtain ⟨a, d, r, rfl, hs1⟩ := z2_inv hs0
  obtain ⟨h1, h2, z, hs1, hz⟩ := zsub_ok (ρ := ρ) hs1
  cases hs1
  obtain ⟨⟨lv, hl, hL⟩, hS0, hP, hD, hSt, hW⟩ := hA
  obtain ⟨v2, w, rfl, g2, hS1⟩ := zS_cons hS0
  obtain ⟨v1, w, rfl, g1, hS2⟩ := zS_cons hS1
  obtain ⟨y, rfl, kk2⟩ := zg_I g2 h2
  obtain ⟨x, rfl, kk1⟩ := zg_I g1 h1
  exact lv_isub hx hb hd (kk _ _ _ _ _ ⟨⟨lv, hl, hL⟩, ⟨zg_ofI (hz x y kk1 kk2), hS2⟩, hP, hD, hSt, hW⟩ zpre)

set_option maxHeartbeats 2000000 in
theorem zs_imul {p : Program} {l : Launch} {e : Env} {R : Room} {s : State} {m : MethodId} {args : Array Value} {below : List Frame} {meth : Method} {c : Code} {H : Heap} {locs : List Loc} {cells slots : Nat} {Q : State → Prop} {n0 : Nat} {D : va_G} {cid : Nat → ClassId} {ρ : Nat → Int32} {b L : Nat} {xs : Nat → Int32} {oc : Nat} {ini : Bool} {cc : ByteArray} {nL : Nat} {rt : Option FieldType} {tb : zTb} {ys : List MethodName} {G : zG} {pc npc a1 a2 : Nat} {al al' : zLs} {ast ast' : List zV} {sz dz du : Nat} {h h' : zH} {ls : Array Slot} {st : List Value} {ws : va_W} {pc' : Nat} 
    (C : zCx p s m args meth c n0 D cid b L xs oc ini cc nL rt) (F : zFx tb ys) (hG : zGok G ρ L xs) (hch : zchI tb oc ini nL rt pc .imul a1 a2 = true) (hd : decode cc pc = .ok (.imul, zlen .imul)) (hn : npc = pc + zlen .imul)
    (hs0 : zstep G .imul npc a1 a2 pc al ast sz h = some (.inl (pc', al', ast', h', dz, du))) (hA : zAt D cid ρ b n0 nL s al ast sz h ls st ws H locs) (hcells : cells + dz ≤ R.cells) (hslots : slots + du ≤ R.slots)
    (kk : ∀ (ws' : va_W) (H' : Heap) (locs' : List Loc) (ls' : Array Slot) (st' : List Value), zAt D cid ρ b n0 nL s al' ast' (sz + dz) h' ls' st' ws' H' locs' → (∃ xs, ws'.map Prod.fst = ws.map Prod.fst ++ xs) → W p l e R s m args below meth c H' locs' (cells + dz) (slots + du) Q (F0 m pc' ls' st')) : W p l e R s m args below meth c H locs cells slots Q (F0 m pc ls st) := by
  obtain ⟨hx, hb, hml, hown, hts, hKU, hini, hr, hlocks, hn0, hbn⟩ := C
  subst hn
  obtain ⟨a, d, r, rfl, hs1⟩ := z2_inv hs0
  obtain ⟨h1, h2, z, hs1, hz⟩ := zmul_ok (ρ := ρ) hs1
  cases hs1
  obtain ⟨⟨lv, hl, hL⟩, hS0, hP, hD, hSt, hW⟩ := hA
  obtain ⟨v2, w, rfl, g2, hS1⟩ := zS_cons hS0
  obtain ⟨v1, w, rfl, g1, hS2⟩ := zS_cons hS1
  obtain ⟨y, rfl, kk2⟩ := zg_I g2 h2
  obtain ⟨x, rfl, kk1⟩ := zg_I g1 h1
  exact lv_imul hx hb hd (kk _ _ _ _ _ ⟨⟨lv, hl, hL⟩, ⟨zg_ofI (hz x y kk1 kk2), hS2⟩, hP, hD, hSt, hW⟩ zpre)

set_option maxHeartbeats 2000000 in
theorem zs_iand {p : Program} {l : Launch} {e : Env} {R : Room} {s : State} {m : MethodId} {args : Array Value} {below : List Frame} {meth : Method} {c : Code} {H : Heap} {locs : List Loc} {cells slots : Nat} {Q : State → Prop} {n0 : Nat} {D : va_G} {cid : Nat → ClassId} {ρ : Nat → Int32} {b L : Nat} {xs : Nat → Int32} {oc : Nat} {ini : Bool} {cc : ByteArray} {nL : Nat} {rt : Option FieldType} {tb : zTb} {ys : List MethodName} {G : zG} {pc npc a1 a2 : Nat} {al al' : zLs} {ast ast' : List zV} {sz dz du : Nat} {h h' : zH} {ls : Array Slot} {st : List Value} {ws : va_W} {pc' : Nat} 
    (C : zCx p s m args meth c n0 D cid b L xs oc ini cc nL rt) (F : zFx tb ys) (hG : zGok G ρ L xs) (hch : zchI tb oc ini nL rt pc .iand a1 a2 = true) (hd : decode cc pc = .ok (.iand, zlen .iand)) (hn : npc = pc + zlen .iand)
    (hs0 : zstep G .iand npc a1 a2 pc al ast sz h = some (.inl (pc', al', ast', h', dz, du))) (hA : zAt D cid ρ b n0 nL s al ast sz h ls st ws H locs) (hcells : cells + dz ≤ R.cells) (hslots : slots + du ≤ R.slots)
    (kk : ∀ (ws' : va_W) (H' : Heap) (locs' : List Loc) (ls' : Array Slot) (st' : List Value), zAt D cid ρ b n0 nL s al' ast' (sz + dz) h' ls' st' ws' H' locs' → (∃ xs, ws'.map Prod.fst = ws.map Prod.fst ++ xs) → W p l e R s m args below meth c H' locs' (cells + dz) (slots + du) Q (F0 m pc' ls' st')) : W p l e R s m args below meth c H locs cells slots Q (F0 m pc ls st) := by
  obtain ⟨hx, hb, hml, hown, hts, hKU, hini, hr, hlocks, hn0, hbn⟩ := C
  subst hn
  obtain ⟨a, d, r, rfl, hs1⟩ := z2_inv hs0
  obtain ⟨h1, h2, z, hs1, hz⟩ := zand_ok hG.1 (ρ := ρ) hs1
  cases hs1
  obtain ⟨⟨lv, hl, hL⟩, hS0, hP, hD, hSt, hW⟩ := hA
  obtain ⟨v2, w, rfl, g2, hS1⟩ := zS_cons hS0
  obtain ⟨v1, w, rfl, g1, hS2⟩ := zS_cons hS1
  obtain ⟨y, rfl, kk2⟩ := zg_I g2 h2
  obtain ⟨x, rfl, kk1⟩ := zg_I g1 h1
  exact lv_iand hx hb hd (kk _ _ _ _ _ ⟨⟨lv, hl, hL⟩, ⟨zg_ofI (hz x y kk1 kk2), hS2⟩, hP, hD, hSt, hW⟩ zpre)

set_option maxHeartbeats 2000000 in
theorem zs_ior {p : Program} {l : Launch} {e : Env} {R : Room} {s : State} {m : MethodId} {args : Array Value} {below : List Frame} {meth : Method} {c : Code} {H : Heap} {locs : List Loc} {cells slots : Nat} {Q : State → Prop} {n0 : Nat} {D : va_G} {cid : Nat → ClassId} {ρ : Nat → Int32} {b L : Nat} {xs : Nat → Int32} {oc : Nat} {ini : Bool} {cc : ByteArray} {nL : Nat} {rt : Option FieldType} {tb : zTb} {ys : List MethodName} {G : zG} {pc npc a1 a2 : Nat} {al al' : zLs} {ast ast' : List zV} {sz dz du : Nat} {h h' : zH} {ls : Array Slot} {st : List Value} {ws : va_W} {pc' : Nat} 
    (C : zCx p s m args meth c n0 D cid b L xs oc ini cc nL rt) (F : zFx tb ys) (hG : zGok G ρ L xs) (hch : zchI tb oc ini nL rt pc .ior a1 a2 = true) (hd : decode cc pc = .ok (.ior, zlen .ior)) (hn : npc = pc + zlen .ior)
    (hs0 : zstep G .ior npc a1 a2 pc al ast sz h = some (.inl (pc', al', ast', h', dz, du))) (hA : zAt D cid ρ b n0 nL s al ast sz h ls st ws H locs) (hcells : cells + dz ≤ R.cells) (hslots : slots + du ≤ R.slots)
    (kk : ∀ (ws' : va_W) (H' : Heap) (locs' : List Loc) (ls' : Array Slot) (st' : List Value), zAt D cid ρ b n0 nL s al' ast' (sz + dz) h' ls' st' ws' H' locs' → (∃ xs, ws'.map Prod.fst = ws.map Prod.fst ++ xs) → W p l e R s m args below meth c H' locs' (cells + dz) (slots + du) Q (F0 m pc' ls' st')) : W p l e R s m args below meth c H locs cells slots Q (F0 m pc ls st) := by
  obtain ⟨hx, hb, hml, hown, hts, hKU, hini, hr, hlocks, hn0, hbn⟩ := C
  subst hn
  obtain ⟨a, d, r, rfl, hs1⟩ := z2_inv hs0
  obtain ⟨h1, h2, z, hs1, hz⟩ := zb2_ok (ρ := ρ) hs1
  cases hs1
  obtain ⟨⟨lv, hl, hL⟩, hS0, hP, hD, hSt, hW⟩ := hA
  obtain ⟨v2, w, rfl, g2, hS1⟩ := zS_cons hS0
  obtain ⟨v1, w, rfl, g1, hS2⟩ := zS_cons hS1
  obtain ⟨y, rfl, kk2⟩ := zg_I g2 h2
  obtain ⟨x, rfl, kk1⟩ := zg_I g1 h1
  exact lv_ior hx hb hd (kk _ _ _ _ _ ⟨⟨lv, hl, hL⟩, ⟨zg_ofI (hz x y kk1 kk2), hS2⟩, hP, hD, hSt, hW⟩ zpre)

set_option maxHeartbeats 2000000 in
theorem zs_ixor {p : Program} {l : Launch} {e : Env} {R : Room} {s : State} {m : MethodId} {args : Array Value} {below : List Frame} {meth : Method} {c : Code} {H : Heap} {locs : List Loc} {cells slots : Nat} {Q : State → Prop} {n0 : Nat} {D : va_G} {cid : Nat → ClassId} {ρ : Nat → Int32} {b L : Nat} {xs : Nat → Int32} {oc : Nat} {ini : Bool} {cc : ByteArray} {nL : Nat} {rt : Option FieldType} {tb : zTb} {ys : List MethodName} {G : zG} {pc npc a1 a2 : Nat} {al al' : zLs} {ast ast' : List zV} {sz dz du : Nat} {h h' : zH} {ls : Array Slot} {st : List Value} {ws : va_W} {pc' : Nat} 
    (C : zCx p s m args meth c n0 D cid b L xs oc ini cc nL rt) (F : zFx tb ys) (hG : zGok G ρ L xs) (hch : zchI tb oc ini nL rt pc .ixor a1 a2 = true) (hd : decode cc pc = .ok (.ixor, zlen .ixor)) (hn : npc = pc + zlen .ixor)
    (hs0 : zstep G .ixor npc a1 a2 pc al ast sz h = some (.inl (pc', al', ast', h', dz, du))) (hA : zAt D cid ρ b n0 nL s al ast sz h ls st ws H locs) (hcells : cells + dz ≤ R.cells) (hslots : slots + du ≤ R.slots)
    (kk : ∀ (ws' : va_W) (H' : Heap) (locs' : List Loc) (ls' : Array Slot) (st' : List Value), zAt D cid ρ b n0 nL s al' ast' (sz + dz) h' ls' st' ws' H' locs' → (∃ xs, ws'.map Prod.fst = ws.map Prod.fst ++ xs) → W p l e R s m args below meth c H' locs' (cells + dz) (slots + du) Q (F0 m pc' ls' st')) : W p l e R s m args below meth c H locs cells slots Q (F0 m pc ls st) := by
  obtain ⟨hx, hb, hml, hown, hts, hKU, hini, hr, hlocks, hn0, hbn⟩ := C
  subst hn
  obtain ⟨a, d, r, rfl, hs1⟩ := z2_inv hs0
  obtain ⟨h1, h2, z, hs1, hz⟩ := zb2_ok (ρ := ρ) hs1
  cases hs1
  obtain ⟨⟨lv, hl, hL⟩, hS0, hP, hD, hSt, hW⟩ := hA
  obtain ⟨v2, w, rfl, g2, hS1⟩ := zS_cons hS0
  obtain ⟨v1, w, rfl, g1, hS2⟩ := zS_cons hS1
  obtain ⟨y, rfl, kk2⟩ := zg_I g2 h2
  obtain ⟨x, rfl, kk1⟩ := zg_I g1 h1
  exact lv_ixor hx hb hd (kk _ _ _ _ _ ⟨⟨lv, hl, hL⟩, ⟨zg_ofI (hz x y kk1 kk2), hS2⟩, hP, hD, hSt, hW⟩ zpre)

set_option maxHeartbeats 2000000 in
theorem zs_ishl {p : Program} {l : Launch} {e : Env} {R : Room} {s : State} {m : MethodId} {args : Array Value} {below : List Frame} {meth : Method} {c : Code} {H : Heap} {locs : List Loc} {cells slots : Nat} {Q : State → Prop} {n0 : Nat} {D : va_G} {cid : Nat → ClassId} {ρ : Nat → Int32} {b L : Nat} {xs : Nat → Int32} {oc : Nat} {ini : Bool} {cc : ByteArray} {nL : Nat} {rt : Option FieldType} {tb : zTb} {ys : List MethodName} {G : zG} {pc npc a1 a2 : Nat} {al al' : zLs} {ast ast' : List zV} {sz dz du : Nat} {h h' : zH} {ls : Array Slot} {st : List Value} {ws : va_W} {pc' : Nat} 
    (C : zCx p s m args meth c n0 D cid b L xs oc ini cc nL rt) (F : zFx tb ys) (hG : zGok G ρ L xs) (hch : zchI tb oc ini nL rt pc .ishl a1 a2 = true) (hd : decode cc pc = .ok (.ishl, zlen .ishl)) (hn : npc = pc + zlen .ishl)
    (hs0 : zstep G .ishl npc a1 a2 pc al ast sz h = some (.inl (pc', al', ast', h', dz, du))) (hA : zAt D cid ρ b n0 nL s al ast sz h ls st ws H locs) (hcells : cells + dz ≤ R.cells) (hslots : slots + du ≤ R.slots)
    (kk : ∀ (ws' : va_W) (H' : Heap) (locs' : List Loc) (ls' : Array Slot) (st' : List Value), zAt D cid ρ b n0 nL s al' ast' (sz + dz) h' ls' st' ws' H' locs' → (∃ xs, ws'.map Prod.fst = ws.map Prod.fst ++ xs) → W p l e R s m args below meth c H' locs' (cells + dz) (slots + du) Q (F0 m pc' ls' st')) : W p l e R s m args below meth c H locs cells slots Q (F0 m pc ls st) := by
  obtain ⟨hx, hb, hml, hown, hts, hKU, hini, hr, hlocks, hn0, hbn⟩ := C
  subst hn
  obtain ⟨a, d, r, rfl, hs1⟩ := z2_inv hs0
  obtain ⟨h1, h2, z, hs1, hz⟩ := zb2_ok (f := fun x y => x <<< (y &&& 31)) (ρ := ρ) hs1
  cases hs1
  obtain ⟨⟨lv, hl, hL⟩, hS0, hP, hD, hSt, hW⟩ := hA
  obtain ⟨v2, w, rfl, g2, hS1⟩ := zS_cons hS0
  obtain ⟨v1, w, rfl, g1, hS2⟩ := zS_cons hS1
  obtain ⟨y, rfl, kk2⟩ := zg_I g2 h2
  obtain ⟨x, rfl, kk1⟩ := zg_I g1 h1
  exact lv_ishl hx hb hd (kk _ _ _ _ _ ⟨⟨lv, hl, hL⟩, ⟨zg_ofI (hz x y kk1 kk2), hS2⟩, hP, hD, hSt, hW⟩ zpre)

set_option maxHeartbeats 2000000 in
theorem zs_ishr {p : Program} {l : Launch} {e : Env} {R : Room} {s : State} {m : MethodId} {args : Array Value} {below : List Frame} {meth : Method} {c : Code} {H : Heap} {locs : List Loc} {cells slots : Nat} {Q : State → Prop} {n0 : Nat} {D : va_G} {cid : Nat → ClassId} {ρ : Nat → Int32} {b L : Nat} {xs : Nat → Int32} {oc : Nat} {ini : Bool} {cc : ByteArray} {nL : Nat} {rt : Option FieldType} {tb : zTb} {ys : List MethodName} {G : zG} {pc npc a1 a2 : Nat} {al al' : zLs} {ast ast' : List zV} {sz dz du : Nat} {h h' : zH} {ls : Array Slot} {st : List Value} {ws : va_W} {pc' : Nat} 
    (C : zCx p s m args meth c n0 D cid b L xs oc ini cc nL rt) (F : zFx tb ys) (hG : zGok G ρ L xs) (hch : zchI tb oc ini nL rt pc .ishr a1 a2 = true) (hd : decode cc pc = .ok (.ishr, zlen .ishr)) (hn : npc = pc + zlen .ishr)
    (hs0 : zstep G .ishr npc a1 a2 pc al ast sz h = some (.inl (pc', al', ast', h', dz, du))) (hA : zAt D cid ρ b n0 nL s al ast sz h ls st ws H locs) (hcells : cells + dz ≤ R.cells) (hslots : slots + du ≤ R.slots)
    (kk : ∀ (ws' : va_W) (H' : Heap) (locs' : List Loc) (ls' : Array Slot) (st' : List Value), zAt D cid ρ b n0 nL s al' ast' (sz + dz) h' ls' st' ws' H' locs' → (∃ xs, ws'.map Prod.fst = ws.map Prod.fst ++ xs) → W p l e R s m args below meth c H' locs' (cells + dz) (slots + du) Q (F0 m pc' ls' st')) : W p l e R s m args below meth c H locs cells slots Q (F0 m pc ls st) := by
  obtain ⟨hx, hb, hml, hown, hts, hKU, hini, hr, hlocks, hn0, hbn⟩ := C
  subst hn
  obtain ⟨a, d, r, rfl, hs1⟩ := z2_inv hs0
  obtain ⟨h1, h2, z, hs1, hz⟩ := zb2_ok (f := fun x y => x >>> (y &&& 31)) (ρ := ρ) hs1
  cases hs1
  obtain ⟨⟨lv, hl, hL⟩, hS0, hP, hD, hSt, hW⟩ := hA
  obtain ⟨v2, w, rfl, g2, hS1⟩ := zS_cons hS0
  obtain ⟨v1, w, rfl, g1, hS2⟩ := zS_cons hS1
  obtain ⟨y, rfl, kk2⟩ := zg_I g2 h2
  obtain ⟨x, rfl, kk1⟩ := zg_I g1 h1
  exact lv_ishr hx hb hd (kk _ _ _ _ _ ⟨⟨lv, hl, hL⟩, ⟨zg_ofI (hz x y kk1 kk2), hS2⟩, hP, hD, hSt, hW⟩ zpre)

set_option maxHeartbeats 2000000 in
theorem zs_iushr {p : Program} {l : Launch} {e : Env} {R : Room} {s : State} {m : MethodId} {args : Array Value} {below : List Frame} {meth : Method} {c : Code} {H : Heap} {locs : List Loc} {cells slots : Nat} {Q : State → Prop} {n0 : Nat} {D : va_G} {cid : Nat → ClassId} {ρ : Nat → Int32} {b L : Nat} {xs : Nat → Int32} {oc : Nat} {ini : Bool} {cc : ByteArray} {nL : Nat} {rt : Option FieldType} {tb : zTb} {ys : List MethodName} {G : zG} {pc npc a1 a2 : Nat} {al al' : zLs} {ast ast' : List zV} {sz dz du : Nat} {h h' : zH} {ls : Array Slot} {st : List Value} {ws : va_W} {pc' : Nat} 
    (C : zCx p s m args meth c n0 D cid b L xs oc ini cc nL rt) (F : zFx tb ys) (hG : zGok G ρ L xs) (hch : zchI tb oc ini nL rt pc .iushr a1 a2 = true) (hd : decode cc pc = .ok (.iushr, zlen .iushr)) (hn : npc = pc + zlen .iushr)
    (hs0 : zstep G .iushr npc a1 a2 pc al ast sz h = some (.inl (pc', al', ast', h', dz, du))) (hA : zAt D cid ρ b n0 nL s al ast sz h ls st ws H locs) (hcells : cells + dz ≤ R.cells) (hslots : slots + du ≤ R.slots)
    (kk : ∀ (ws' : va_W) (H' : Heap) (locs' : List Loc) (ls' : Array Slot) (st' : List Value), zAt D cid ρ b n0 nL s al' ast' (sz + dz) h' ls' st' ws' H' locs' → (∃ xs, ws'.map Prod.fst = ws.map Prod.fst ++ xs) → W p l e R s m args below meth c H' locs' (cells + dz) (slots + du) Q (F0 m pc' ls' st')) : W p l e R s m args below meth c H locs cells slots Q (F0 m pc ls st) := by
  obtain ⟨hx, hb, hml, hown, hts, hKU, hini, hr, hlocks, hn0, hbn⟩ := C
  subst hn
  obtain ⟨a, d, r, rfl, hs1⟩ := z2_inv hs0
  obtain ⟨h1, h2, z, hs1, hz⟩ := zb2_ok (f := fun x y => (x.toUInt32 >>> (y.toUInt32 &&& Int32.toUInt32 31)).toInt32) (ρ := ρ) hs1
  cases hs1
  obtain ⟨⟨lv, hl, hL⟩, hS0, hP, hD, hSt, hW⟩ := hA
  obtain ⟨v2, w, rfl, g2, hS1⟩ := zS_cons hS0
  obtain ⟨v1, w, rfl, g1, hS2⟩ := zS_cons hS1
  obtain ⟨y, rfl, kk2⟩ := zg_I g2 h2
  obtain ⟨x, rfl, kk1⟩ := zg_I g1 h1
  exact lv_iushr hx hb hd rfl (kk _ _ _ _ _ ⟨⟨lv, hl, hL⟩, ⟨zg_ofI (hz x y kk1 kk2), hS2⟩, hP, hD, hSt, hW⟩ zpre)

set_option maxHeartbeats 2000000 in
theorem zs_idiv {p : Program} {l : Launch} {e : Env} {R : Room} {s : State} {m : MethodId} {args : Array Value} {below : List Frame} {meth : Method} {c : Code} {H : Heap} {locs : List Loc} {cells slots : Nat} {Q : State → Prop} {n0 : Nat} {D : va_G} {cid : Nat → ClassId} {ρ : Nat → Int32} {b L : Nat} {xs : Nat → Int32} {oc : Nat} {ini : Bool} {cc : ByteArray} {nL : Nat} {rt : Option FieldType} {tb : zTb} {ys : List MethodName} {G : zG} {pc npc a1 a2 : Nat} {al al' : zLs} {ast ast' : List zV} {sz dz du : Nat} {h h' : zH} {ls : Array Slot} {st : List Value} {ws : va_W} {pc' : Nat} 
    (C : zCx p s m args meth c n0 D cid b L xs oc ini cc nL rt) (F : zFx tb ys) (hG : zGok G ρ L xs) (hch : zchI tb oc ini nL rt pc .idiv a1 a2 = true) (hd : decode cc pc = .ok (.idiv, zlen .idiv)) (hn : npc = pc + zlen .idiv)
    (hs0 : zstep G .idiv npc a1 a2 pc al ast sz h = some (.inl (pc', al', ast', h', dz, du))) (hA : zAt D cid ρ b n0 nL s al ast sz h ls st ws H locs) (hcells : cells + dz ≤ R.cells) (hslots : slots + du ≤ R.slots)
    (kk : ∀ (ws' : va_W) (H' : Heap) (locs' : List Loc) (ls' : Array Slot) (st' : List Value), zAt D cid ρ b n0 nL s al' ast' (sz + dz) h' ls' st' ws' H' locs' → (∃ xs, ws'.map Prod.fst = ws.map Prod.fst ++ xs) → W p l e R s m args below meth c H' locs' (cells + dz) (slots + du) Q (F0 m pc' ls' st')) : W p l e R s m args below meth c H locs cells slots Q (F0 m pc ls st) := by
  obtain ⟨hx, hb, hml, hown, hts, hKU, hini, hr, hlocks, hn0, hbn⟩ := C
  subst hn
  obtain ⟨a, d, r, rfl, hs1⟩ := z2_inv hs0
  obtain ⟨h1, h2, z, hs1, hz⟩ := zdv_ok (ρ := ρ) hs1
  cases hs1
  obtain ⟨⟨lv, hl, hL⟩, hS0, hP, hD, hSt, hW⟩ := hA
  obtain ⟨v2, w, rfl, g2, hS1⟩ := zS_cons hS0
  obtain ⟨v1, w, rfl, g1, hS2⟩ := zS_cons hS1
  obtain ⟨y, rfl, kk2⟩ := zg_I g2 h2
  obtain ⟨x, rfl, kk1⟩ := zg_I g1 h1
  exact lv_idiv hx hb hd (hz x y kk1 kk2).1 (kk _ _ _ _ _ ⟨⟨lv, hl, hL⟩, ⟨zg_ofI (hz x y kk1 kk2).2, hS2⟩, hP, hD, hSt, hW⟩ zpre)

set_option maxHeartbeats 2000000 in
theorem zs_irem {p : Program} {l : Launch} {e : Env} {R : Room} {s : State} {m : MethodId} {args : Array Value} {below : List Frame} {meth : Method} {c : Code} {H : Heap} {locs : List Loc} {cells slots : Nat} {Q : State → Prop} {n0 : Nat} {D : va_G} {cid : Nat → ClassId} {ρ : Nat → Int32} {b L : Nat} {xs : Nat → Int32} {oc : Nat} {ini : Bool} {cc : ByteArray} {nL : Nat} {rt : Option FieldType} {tb : zTb} {ys : List MethodName} {G : zG} {pc npc a1 a2 : Nat} {al al' : zLs} {ast ast' : List zV} {sz dz du : Nat} {h h' : zH} {ls : Array Slot} {st : List Value} {ws : va_W} {pc' : Nat} 
    (C : zCx p s m args meth c n0 D cid b L xs oc ini cc nL rt) (F : zFx tb ys) (hG : zGok G ρ L xs) (hch : zchI tb oc ini nL rt pc .irem a1 a2 = true) (hd : decode cc pc = .ok (.irem, zlen .irem)) (hn : npc = pc + zlen .irem)
    (hs0 : zstep G .irem npc a1 a2 pc al ast sz h = some (.inl (pc', al', ast', h', dz, du))) (hA : zAt D cid ρ b n0 nL s al ast sz h ls st ws H locs) (hcells : cells + dz ≤ R.cells) (hslots : slots + du ≤ R.slots)
    (kk : ∀ (ws' : va_W) (H' : Heap) (locs' : List Loc) (ls' : Array Slot) (st' : List Value), zAt D cid ρ b n0 nL s al' ast' (sz + dz) h' ls' st' ws' H' locs' → (∃ xs, ws'.map Prod.fst = ws.map Prod.fst ++ xs) → W p l e R s m args below meth c H' locs' (cells + dz) (slots + du) Q (F0 m pc' ls' st')) : W p l e R s m args below meth c H locs cells slots Q (F0 m pc ls st) := by
  obtain ⟨hx, hb, hml, hown, hts, hKU, hini, hr, hlocks, hn0, hbn⟩ := C
  subst hn
  obtain ⟨a, d, r, rfl, hs1⟩ := z2_inv hs0
  obtain ⟨h1, h2, z, hs1, hz⟩ := zdv_ok (ρ := ρ) hs1
  cases hs1
  obtain ⟨⟨lv, hl, hL⟩, hS0, hP, hD, hSt, hW⟩ := hA
  obtain ⟨v2, w, rfl, g2, hS1⟩ := zS_cons hS0
  obtain ⟨v1, w, rfl, g1, hS2⟩ := zS_cons hS1
  obtain ⟨y, rfl, kk2⟩ := zg_I g2 h2
  obtain ⟨x, rfl, kk1⟩ := zg_I g1 h1
  exact lv_irem hx hb hd (hz x y kk1 kk2).1 (kk _ _ _ _ _ ⟨⟨lv, hl, hL⟩, ⟨zg_ofI (hz x y kk1 kk2).2, hS2⟩, hP, hD, hSt, hW⟩ zpre)

set_option maxHeartbeats 2000000 in
theorem zs_ineg {p : Program} {l : Launch} {e : Env} {R : Room} {s : State} {m : MethodId} {args : Array Value} {below : List Frame} {meth : Method} {c : Code} {H : Heap} {locs : List Loc} {cells slots : Nat} {Q : State → Prop} {n0 : Nat} {D : va_G} {cid : Nat → ClassId} {ρ : Nat → Int32} {b L : Nat} {xs : Nat → Int32} {oc : Nat} {ini : Bool} {cc : ByteArray} {nL : Nat} {rt : Option FieldType} {tb : zTb} {ys : List MethodName} {G : zG} {pc npc a1 a2 : Nat} {al al' : zLs} {ast ast' : List zV} {sz dz du : Nat} {h h' : zH} {ls : Array Slot} {st : List Value} {ws : va_W} {pc' : Nat} 
    (C : zCx p s m args meth c n0 D cid b L xs oc ini cc nL rt) (F : zFx tb ys) (hG : zGok G ρ L xs) (hch : zchI tb oc ini nL rt pc .ineg a1 a2 = true) (hd : decode cc pc = .ok (.ineg, zlen .ineg)) (hn : npc = pc + zlen .ineg)
    (hs0 : zstep G .ineg npc a1 a2 pc al ast sz h = some (.inl (pc', al', ast', h', dz, du))) (hA : zAt D cid ρ b n0 nL s al ast sz h ls st ws H locs) (hcells : cells + dz ≤ R.cells) (hslots : slots + du ≤ R.slots)
    (kk : ∀ (ws' : va_W) (H' : Heap) (locs' : List Loc) (ls' : Array Slot) (st' : List Value), zAt D cid ρ b n0 nL s al' ast' (sz + dz) h' ls' st' ws' H' locs' → (∃ xs, ws'.map Prod.fst = ws.map Prod.fst ++ xs) → W p l e R s m args below meth c H' locs' (cells + dz) (slots + du) Q (F0 m pc' ls' st')) : W p l e R s m args below meth c H locs cells slots Q (F0 m pc ls st) := by
  obtain ⟨hx, hb, hml, hown, hts, hKU, hini, hr, hlocks, hn0, hbn⟩ := C
  subst hn
  obtain ⟨a, r, rfl, hs1⟩ := z1_inv hs0
  obtain ⟨h1, z, hs1, hz⟩ := zu1_ok (ρ := ρ) hs1
  cases hs1
  obtain ⟨⟨lv, hl, hL⟩, hS0, hP, hD, hSt, hW⟩ := hA
  obtain ⟨v1, w, rfl, g1, hS1⟩ := zS_cons hS0
  obtain ⟨x, rfl, kk1⟩ := zg_I g1 h1
  exact lv_ineg hx hb hd (kk _ _ _ _ _ ⟨⟨lv, hl, hL⟩, ⟨zg_ofI (hz x kk1), hS1⟩, hP, hD, hSt, hW⟩ zpre)

set_option maxHeartbeats 2000000 in
theorem zs_i2b {p : Program} {l : Launch} {e : Env} {R : Room} {s : State} {m : MethodId} {args : Array Value} {below : List Frame} {meth : Method} {c : Code} {H : Heap} {locs : List Loc} {cells slots : Nat} {Q : State → Prop} {n0 : Nat} {D : va_G} {cid : Nat → ClassId} {ρ : Nat → Int32} {b L : Nat} {xs : Nat → Int32} {oc : Nat} {ini : Bool} {cc : ByteArray} {nL : Nat} {rt : Option FieldType} {tb : zTb} {ys : List MethodName} {G : zG} {pc npc a1 a2 : Nat} {al al' : zLs} {ast ast' : List zV} {sz dz du : Nat} {h h' : zH} {ls : Array Slot} {st : List Value} {ws : va_W} {pc' : Nat} 
    (C : zCx p s m args meth c n0 D cid b L xs oc ini cc nL rt) (F : zFx tb ys) (hG : zGok G ρ L xs) (hch : zchI tb oc ini nL rt pc .i2b a1 a2 = true) (hd : decode cc pc = .ok (.i2b, zlen .i2b)) (hn : npc = pc + zlen .i2b)
    (hs0 : zstep G .i2b npc a1 a2 pc al ast sz h = some (.inl (pc', al', ast', h', dz, du))) (hA : zAt D cid ρ b n0 nL s al ast sz h ls st ws H locs) (hcells : cells + dz ≤ R.cells) (hslots : slots + du ≤ R.slots)
    (kk : ∀ (ws' : va_W) (H' : Heap) (locs' : List Loc) (ls' : Array Slot) (st' : List Value), zAt D cid ρ b n0 nL s al' ast' (sz + dz) h' ls' st' ws' H' locs' → (∃ xs, ws'.map Prod.fst = ws.map Prod.fst ++ xs) → W p l e R s m args below meth c H' locs' (cells + dz) (slots + du) Q (F0 m pc' ls' st')) : W p l e R s m args below meth c H locs cells slots Q (F0 m pc ls st) := by
  obtain ⟨hx, hb, hml, hown, hts, hKU, hini, hr, hlocks, hn0, hbn⟩ := C
  subst hn
  obtain ⟨a, r, rfl, hs1⟩ := z1_inv hs0
  obtain ⟨h1, z, hs1, hz⟩ := zu1_ok (ρ := ρ) hs1
  cases hs1
  obtain ⟨⟨lv, hl, hL⟩, hS0, hP, hD, hSt, hW⟩ := hA
  obtain ⟨v1, w, rfl, g1, hS1⟩ := zS_cons hS0
  obtain ⟨x, rfl, kk1⟩ := zg_I g1 h1
  exact lv_i2b hx hb hd rfl (kk _ _ _ _ _ ⟨⟨lv, hl, hL⟩, ⟨zg_ofI (hz x kk1), hS1⟩, hP, hD, hSt, hW⟩ zpre)

set_option maxHeartbeats 2000000 in
theorem zs_i2l {p : Program} {l : Launch} {e : Env} {R : Room} {s : State} {m : MethodId} {args : Array Value} {below : List Frame} {meth : Method} {c : Code} {H : Heap} {locs : List Loc} {cells slots : Nat} {Q : State → Prop} {n0 : Nat} {D : va_G} {cid : Nat → ClassId} {ρ : Nat → Int32} {b L : Nat} {xs : Nat → Int32} {oc : Nat} {ini : Bool} {cc : ByteArray} {nL : Nat} {rt : Option FieldType} {tb : zTb} {ys : List MethodName} {G : zG} {pc npc a1 a2 : Nat} {al al' : zLs} {ast ast' : List zV} {sz dz du : Nat} {h h' : zH} {ls : Array Slot} {st : List Value} {ws : va_W} {pc' : Nat} 
    (C : zCx p s m args meth c n0 D cid b L xs oc ini cc nL rt) (F : zFx tb ys) (hG : zGok G ρ L xs) (hch : zchI tb oc ini nL rt pc .i2l a1 a2 = true) (hd : decode cc pc = .ok (.i2l, zlen .i2l)) (hn : npc = pc + zlen .i2l)
    (hs0 : zstep G .i2l npc a1 a2 pc al ast sz h = some (.inl (pc', al', ast', h', dz, du))) (hA : zAt D cid ρ b n0 nL s al ast sz h ls st ws H locs) (hcells : cells + dz ≤ R.cells) (hslots : slots + du ≤ R.slots)
    (kk : ∀ (ws' : va_W) (H' : Heap) (locs' : List Loc) (ls' : Array Slot) (st' : List Value), zAt D cid ρ b n0 nL s al' ast' (sz + dz) h' ls' st' ws' H' locs' → (∃ xs, ws'.map Prod.fst = ws.map Prod.fst ++ xs) → W p l e R s m args below meth c H' locs' (cells + dz) (slots + du) Q (F0 m pc' ls' st')) : W p l e R s m args below meth c H locs cells slots Q (F0 m pc ls st) := by
  obtain ⟨hx, hb, hml, hown, hts, hKU, hini, hr, hlocks, hn0, hbn⟩ := C
  subst hn
  obtain ⟨a, r, rfl, hs1⟩ := z1_inv hs0
  obtain ⟨u, rfl, hs2⟩ := zint1_inv hs1
  rw [zkl_eq] at hs2
  cases hs2
  obtain ⟨⟨lv, hl, hL⟩, hS0, hP, hD, hSt, hW⟩ := hA
  obtain ⟨v1, w, rfl, g1, hS1⟩ := zS_cons hS0
  cases g1
  exact lv_i2l hx hb hd rfl (kk _ _ _ _ _ ⟨⟨lv, hl, hL⟩, ⟨congrArg _ (zI6_zU6 _).symm, hS1⟩, hP, hD, hSt, hW⟩ zpre)

set_option maxHeartbeats 2000000 in
theorem zs_l2i {p : Program} {l : Launch} {e : Env} {R : Room} {s : State} {m : MethodId} {args : Array Value} {below : List Frame} {meth : Method} {c : Code} {H : Heap} {locs : List Loc} {cells slots : Nat} {Q : State → Prop} {n0 : Nat} {D : va_G} {cid : Nat → ClassId} {ρ : Nat → Int32} {b L : Nat} {xs : Nat → Int32} {oc : Nat} {ini : Bool} {cc : ByteArray} {nL : Nat} {rt : Option FieldType} {tb : zTb} {ys : List MethodName} {G : zG} {pc npc a1 a2 : Nat} {al al' : zLs} {ast ast' : List zV} {sz dz du : Nat} {h h' : zH} {ls : Array Slot} {st : List Value} {ws : va_W} {pc' : Nat} 
    (C : zCx p s m args meth c n0 D cid b L xs oc ini cc nL rt) (F : zFx tb ys) (hG : zGok G ρ L xs) (hch : zchI tb oc ini nL rt pc .l2i a1 a2 = true) (hd : decode cc pc = .ok (.l2i, zlen .l2i)) (hn : npc = pc + zlen .l2i)
    (hs0 : zstep G .l2i npc a1 a2 pc al ast sz h = some (.inl (pc', al', ast', h', dz, du))) (hA : zAt D cid ρ b n0 nL s al ast sz h ls st ws H locs) (hcells : cells + dz ≤ R.cells) (hslots : slots + du ≤ R.slots)
    (kk : ∀ (ws' : va_W) (H' : Heap) (locs' : List Loc) (ls' : Array Slot) (st' : List Value), zAt D cid ρ b n0 nL s al' ast' (sz + dz) h' ls' st' ws' H' locs' → (∃ xs, ws'.map Prod.fst = ws.map Prod.fst ++ xs) → W p l e R s m args below meth c H' locs' (cells + dz) (slots + du) Q (F0 m pc' ls' st')) : W p l e R s m args below meth c H locs cells slots Q (F0 m pc ls st) := by
  obtain ⟨hx, hb, hml, hown, hts, hKU, hini, hr, hlocks, hn0, hbn⟩ := C
  subst hn
  obtain ⟨a, r, rfl, hs1⟩ := z1_inv hs0
  obtain ⟨u, rfl, hs2⟩ := zlong1_inv hs1
  rw [zki_eq] at hs2
  cases hs2
  obtain ⟨⟨lv, hl, hL⟩, hS0, hP, hD, hSt, hW⟩ := hA
  obtain ⟨v1, w, rfl, g1, hS1⟩ := zS_cons hS0
  cases g1
  exact lv_l2i hx hb hd rfl (kk _ _ _ _ _ ⟨⟨lv, hl, hL⟩, ⟨congrArg _ (zI_zU _).symm, hS1⟩, hP, hD, hSt, hW⟩ zpre)

set_option maxHeartbeats 2000000 in
theorem zs_ladd {p : Program} {l : Launch} {e : Env} {R : Room} {s : State} {m : MethodId} {args : Array Value} {below : List Frame} {meth : Method} {c : Code} {H : Heap} {locs : List Loc} {cells slots : Nat} {Q : State → Prop} {n0 : Nat} {D : va_G} {cid : Nat → ClassId} {ρ : Nat → Int32} {b L : Nat} {xs : Nat → Int32} {oc : Nat} {ini : Bool} {cc : ByteArray} {nL : Nat} {rt : Option FieldType} {tb : zTb} {ys : List MethodName} {G : zG} {pc npc a1 a2 : Nat} {al al' : zLs} {ast ast' : List zV} {sz dz du : Nat} {h h' : zH} {ls : Array Slot} {st : List Value} {ws : va_W} {pc' : Nat} 
    (C : zCx p s m args meth c n0 D cid b L xs oc ini cc nL rt) (F : zFx tb ys) (hG : zGok G ρ L xs) (hch : zchI tb oc ini nL rt pc .ladd a1 a2 = true) (hd : decode cc pc = .ok (.ladd, zlen .ladd)) (hn : npc = pc + zlen .ladd)
    (hs0 : zstep G .ladd npc a1 a2 pc al ast sz h = some (.inl (pc', al', ast', h', dz, du))) (hA : zAt D cid ρ b n0 nL s al ast sz h ls st ws H locs) (hcells : cells + dz ≤ R.cells) (hslots : slots + du ≤ R.slots)
    (kk : ∀ (ws' : va_W) (H' : Heap) (locs' : List Loc) (ls' : Array Slot) (st' : List Value), zAt D cid ρ b n0 nL s al' ast' (sz + dz) h' ls' st' ws' H' locs' → (∃ xs, ws'.map Prod.fst = ws.map Prod.fst ++ xs) → W p l e R s m args below meth c H' locs' (cells + dz) (slots + du) Q (F0 m pc' ls' st')) : W p l e R s m args below meth c H locs cells slots Q (F0 m pc ls st) := by
  obtain ⟨hx, hb, hml, hown, hts, hKU, hini, hr, hlocks, hn0, hbn⟩ := C
  subst hn
  obtain ⟨a, d, r, rfl, hs1⟩ := z2_inv hs0
  obtain ⟨u, rfl, hs2⟩ := zlong1_inv hs1
  obtain ⟨u2, rfl, hs3⟩ := zlong1_inv hs2
  rw [zkl_eq] at hs3
  cases hs3
  obtain ⟨⟨lv, hl, hL⟩, hS0, hP, hD, hSt, hW⟩ := hA
  obtain ⟨v2, w, rfl, g2, hS1⟩ := zS_cons hS0
  obtain ⟨v1, w, rfl, g1, hS2⟩ := zS_cons hS1
  cases g2
  cases g1
  exact lv_ladd hx hb hd (kk _ _ _ _ _ ⟨⟨lv, hl, hL⟩, ⟨congrArg _ (zI6_zU6 _).symm, hS2⟩, hP, hD, hSt, hW⟩ zpre)

set_option maxHeartbeats 2000000 in
theorem zs_lshl {p : Program} {l : Launch} {e : Env} {R : Room} {s : State} {m : MethodId} {args : Array Value} {below : List Frame} {meth : Method} {c : Code} {H : Heap} {locs : List Loc} {cells slots : Nat} {Q : State → Prop} {n0 : Nat} {D : va_G} {cid : Nat → ClassId} {ρ : Nat → Int32} {b L : Nat} {xs : Nat → Int32} {oc : Nat} {ini : Bool} {cc : ByteArray} {nL : Nat} {rt : Option FieldType} {tb : zTb} {ys : List MethodName} {G : zG} {pc npc a1 a2 : Nat} {al al' : zLs} {ast ast' : List zV} {sz dz du : Nat} {h h' : zH} {ls : Array Slot} {st : List Value} {ws : va_W} {pc' : Nat} 
    (C : zCx p s m args meth c n0 D cid b L xs oc ini cc nL rt) (F : zFx tb ys) (hG : zGok G ρ L xs) (hch : zchI tb oc ini nL rt pc .lshl a1 a2 = true) (hd : decode cc pc = .ok (.lshl, zlen .lshl)) (hn : npc = pc + zlen .lshl)
    (hs0 : zstep G .lshl npc a1 a2 pc al ast sz h = some (.inl (pc', al', ast', h', dz, du))) (hA : zAt D cid ρ b n0 nL s al ast sz h ls st ws H locs) (hcells : cells + dz ≤ R.cells) (hslots : slots + du ≤ R.slots)
    (kk : ∀ (ws' : va_W) (H' : Heap) (locs' : List Loc) (ls' : Array Slot) (st' : List Value), zAt D cid ρ b n0 nL s al' ast' (sz + dz) h' ls' st' ws' H' locs' → (∃ xs, ws'.map Prod.fst = ws.map Prod.fst ++ xs) → W p l e R s m args below meth c H' locs' (cells + dz) (slots + du) Q (F0 m pc' ls' st')) : W p l e R s m args below meth c H locs cells slots Q (F0 m pc ls st) := by
  obtain ⟨hx, hb, hml, hown, hts, hKU, hini, hr, hlocks, hn0, hbn⟩ := C
  subst hn
  obtain ⟨a, d, r, rfl, hs1⟩ := z2_inv hs0
  obtain ⟨u, rfl, hs2⟩ := zlong1_inv hs1
  obtain ⟨u2, rfl, hs3⟩ := zint1_inv hs2
  rw [zkl_eq] at hs3
  cases hs3
  obtain ⟨⟨lv, hl, hL⟩, hS0, hP, hD, hSt, hW⟩ := hA
  obtain ⟨v2, w, rfl, g2, hS1⟩ := zS_cons hS0
  obtain ⟨v1, w, rfl, g1, hS2⟩ := zS_cons hS1
  cases g2
  cases g1
  exact lv_lshl hx hb hd rfl (kk _ _ _ _ _ ⟨⟨lv, hl, hL⟩, ⟨congrArg _ (zI6_zU6 _).symm, hS2⟩, hP, hD, hSt, hW⟩ zpre)

set_option maxHeartbeats 2000000 in
theorem zs_lushr {p : Program} {l : Launch} {e : Env} {R : Room} {s : State} {m : MethodId} {args : Array Value} {below : List Frame} {meth : Method} {c : Code} {H : Heap} {locs : List Loc} {cells slots : Nat} {Q : State → Prop} {n0 : Nat} {D : va_G} {cid : Nat → ClassId} {ρ : Nat → Int32} {b L : Nat} {xs : Nat → Int32} {oc : Nat} {ini : Bool} {cc : ByteArray} {nL : Nat} {rt : Option FieldType} {tb : zTb} {ys : List MethodName} {G : zG} {pc npc a1 a2 : Nat} {al al' : zLs} {ast ast' : List zV} {sz dz du : Nat} {h h' : zH} {ls : Array Slot} {st : List Value} {ws : va_W} {pc' : Nat} 
    (C : zCx p s m args meth c n0 D cid b L xs oc ini cc nL rt) (F : zFx tb ys) (hG : zGok G ρ L xs) (hch : zchI tb oc ini nL rt pc .lushr a1 a2 = true) (hd : decode cc pc = .ok (.lushr, zlen .lushr)) (hn : npc = pc + zlen .lushr)
    (hs0 : zstep G .lushr npc a1 a2 pc al ast sz h = some (.inl (pc', al', ast', h', dz, du))) (hA : zAt D cid ρ b n0 nL s al ast sz h ls st ws H locs) (hcells : cells + dz ≤ R.cells) (hslots : slots + du ≤ R.slots)
    (kk : ∀ (ws' : va_W) (H' : Heap) (locs' : List Loc) (ls' : Array Slot) (st' : List Value), zAt D cid ρ b n0 nL s al' ast' (sz + dz) h' ls' st' ws' H' locs' → (∃ xs, ws'.map Prod.fst = ws.map Prod.fst ++ xs) → W p l e R s m args below meth c H' locs' (cells + dz) (slots + du) Q (F0 m pc' ls' st')) : W p l e R s m args below meth c H locs cells slots Q (F0 m pc ls st) := by
  obtain ⟨hx, hb, hml, hown, hts, hKU, hini, hr, hlocks, hn0, hbn⟩ := C
  subst hn
  obtain ⟨a, d, r, rfl, hs1⟩ := z2_inv hs0
  obtain ⟨u, rfl, hs2⟩ := zlong1_inv hs1
  obtain ⟨u2, rfl, hs3⟩ := zint1_inv hs2
  rw [zkl_eq] at hs3
  cases hs3
  obtain ⟨⟨lv, hl, hL⟩, hS0, hP, hD, hSt, hW⟩ := hA
  obtain ⟨v2, w, rfl, g2, hS1⟩ := zS_cons hS0
  obtain ⟨v1, w, rfl, g1, hS2⟩ := zS_cons hS1
  cases g2
  cases g1
  exact lv_lushr hx hb hd rfl (kk _ _ _ _ _ ⟨⟨lv, hl, hL⟩, ⟨congrArg _ (zI6_zU6 _).symm, hS2⟩, hP, hD, hSt, hW⟩ zpre)

set_option maxHeartbeats 2000000 in
theorem zs_lcmp {p : Program} {l : Launch} {e : Env} {R : Room} {s : State} {m : MethodId} {args : Array Value} {below : List Frame} {meth : Method} {c : Code} {H : Heap} {locs : List Loc} {cells slots : Nat} {Q : State → Prop} {n0 : Nat} {D : va_G} {cid : Nat → ClassId} {ρ : Nat → Int32} {b L : Nat} {xs : Nat → Int32} {oc : Nat} {ini : Bool} {cc : ByteArray} {nL : Nat} {rt : Option FieldType} {tb : zTb} {ys : List MethodName} {G : zG} {pc npc a1 a2 : Nat} {al al' : zLs} {ast ast' : List zV} {sz dz du : Nat} {h h' : zH} {ls : Array Slot} {st : List Value} {ws : va_W} {pc' : Nat} 
    (C : zCx p s m args meth c n0 D cid b L xs oc ini cc nL rt) (F : zFx tb ys) (hG : zGok G ρ L xs) (hch : zchI tb oc ini nL rt pc .lcmp a1 a2 = true) (hd : decode cc pc = .ok (.lcmp, zlen .lcmp)) (hn : npc = pc + zlen .lcmp)
    (hs0 : zstep G .lcmp npc a1 a2 pc al ast sz h = some (.inl (pc', al', ast', h', dz, du))) (hA : zAt D cid ρ b n0 nL s al ast sz h ls st ws H locs) (hcells : cells + dz ≤ R.cells) (hslots : slots + du ≤ R.slots)
    (kk : ∀ (ws' : va_W) (H' : Heap) (locs' : List Loc) (ls' : Array Slot) (st' : List Value), zAt D cid ρ b n0 nL s al' ast' (sz + dz) h' ls' st' ws' H' locs' → (∃ xs, ws'.map Prod.fst = ws.map Prod.fst ++ xs) → W p l e R s m args below meth c H' locs' (cells + dz) (slots + du) Q (F0 m pc' ls' st')) : W p l e R s m args below meth c H locs cells slots Q (F0 m pc ls st) := by
  obtain ⟨hx, hb, hml, hown, hts, hKU, hini, hr, hlocks, hn0, hbn⟩ := C
  subst hn
  obtain ⟨a, d, r, rfl, hs1⟩ := z2_inv hs0
  obtain ⟨u, rfl, hs2⟩ := zlong1_inv hs1
  obtain ⟨u2, rfl, hs3⟩ := zlong1_inv hs2
  rw [zki_eq] at hs3
  cases hs3
  obtain ⟨⟨lv, hl, hL⟩, hS0, hP, hD, hSt, hW⟩ := hA
  obtain ⟨v2, w, rfl, g2, hS1⟩ := zS_cons hS0
  obtain ⟨v1, w, rfl, g1, hS2⟩ := zS_cons hS1
  cases g2
  cases g1
  exact W.lcmp hx hb hd (kk _ _ _ _ _ ⟨⟨lv, hl, hL⟩, ⟨congrArg _ (zI_zU _).symm, hS2⟩, hP, hD, hSt, hW⟩ zpre)

set_option maxHeartbeats 2000000 in
theorem zs_dup {p : Program} {l : Launch} {e : Env} {R : Room} {s : State} {m : MethodId} {args : Array Value} {below : List Frame} {meth : Method} {c : Code} {H : Heap} {locs : List Loc} {cells slots : Nat} {Q : State → Prop} {n0 : Nat} {D : va_G} {cid : Nat → ClassId} {ρ : Nat → Int32} {b L : Nat} {xs : Nat → Int32} {oc : Nat} {ini : Bool} {cc : ByteArray} {nL : Nat} {rt : Option FieldType} {tb : zTb} {ys : List MethodName} {G : zG} {pc npc a1 a2 : Nat} {al al' : zLs} {ast ast' : List zV} {sz dz du : Nat} {h h' : zH} {ls : Array Slot} {st : List Value} {ws : va_W} {pc' : Nat} 
    (C : zCx p s m args meth c n0 D cid b L xs oc ini cc nL rt) (F : zFx tb ys) (hG : zGok G ρ L xs) (hch : zchI tb oc ini nL rt pc .dup a1 a2 = true) (hd : decode cc pc = .ok (.dup, zlen .dup)) (hn : npc = pc + zlen .dup)
    (hs0 : zstep G .dup npc a1 a2 pc al ast sz h = some (.inl (pc', al', ast', h', dz, du))) (hA : zAt D cid ρ b n0 nL s al ast sz h ls st ws H locs) (hcells : cells + dz ≤ R.cells) (hslots : slots + du ≤ R.slots)
    (kk : ∀ (ws' : va_W) (H' : Heap) (locs' : List Loc) (ls' : Array Slot) (st' : List Value), zAt D cid ρ b n0 nL s al' ast' (sz + dz) h' ls' st' ws' H' locs' → (∃ xs, ws'.map Prod.fst = ws.map Prod.fst ++ xs) → W p l e R s m args below meth c H' locs' (cells + dz) (slots + du) Q (F0 m pc' ls' st')) : W p l e R s m args below meth c H locs cells slots Q (F0 m pc ls st) := by
  obtain ⟨hx, hb, hml, hown, hts, hKU, hini, hr, hlocks, hn0, hbn⟩ := C
  subst hn
  obtain ⟨a, r, rfl, hs1⟩ := z1_inv hs0
  obtain ⟨h1, hs2⟩ := zwhen_inv hs1
  cases hs2
  obtain ⟨⟨lv, hl, hL⟩, hS0, hP, hD, hSt, hW⟩ := hA
  obtain ⟨v1, w, rfl, g1, hS1⟩ := zS_cons hS0
  exact lv_dup hx hb hd (zg_cat1 g1 h1) (kk _ _ _ _ _ ⟨⟨lv, hl, hL⟩, ⟨g1, g1, hS1⟩, hP, hD, hSt, hW⟩ zpre)

set_option maxHeartbeats 2000000 in
theorem zs_pop {p : Program} {l : Launch} {e : Env} {R : Room} {s : State} {m : MethodId} {args : Array Value} {below : List Frame} {meth : Method} {c : Code} {H : Heap} {locs : List Loc} {cells slots : Nat} {Q : State → Prop} {n0 : Nat} {D : va_G} {cid : Nat → ClassId} {ρ : Nat → Int32} {b L : Nat} {xs : Nat → Int32} {oc : Nat} {ini : Bool} {cc : ByteArray} {nL : Nat} {rt : Option FieldType} {tb : zTb} {ys : List MethodName} {G : zG} {pc npc a1 a2 : Nat} {al al' : zLs} {ast ast' : List zV} {sz dz du : Nat} {h h' : zH} {ls : Array Slot} {st : List Value} {ws : va_W} {pc' : Nat} 
    (C : zCx p s m args meth c n0 D cid b L xs oc ini cc nL rt) (F : zFx tb ys) (hG : zGok G ρ L xs) (hch : zchI tb oc ini nL rt pc .pop a1 a2 = true) (hd : decode cc pc = .ok (.pop, zlen .pop)) (hn : npc = pc + zlen .pop)
    (hs0 : zstep G .pop npc a1 a2 pc al ast sz h = some (.inl (pc', al', ast', h', dz, du))) (hA : zAt D cid ρ b n0 nL s al ast sz h ls st ws H locs) (hcells : cells + dz ≤ R.cells) (hslots : slots + du ≤ R.slots)
    (kk : ∀ (ws' : va_W) (H' : Heap) (locs' : List Loc) (ls' : Array Slot) (st' : List Value), zAt D cid ρ b n0 nL s al' ast' (sz + dz) h' ls' st' ws' H' locs' → (∃ xs, ws'.map Prod.fst = ws.map Prod.fst ++ xs) → W p l e R s m args below meth c H' locs' (cells + dz) (slots + du) Q (F0 m pc' ls' st')) : W p l e R s m args below meth c H locs cells slots Q (F0 m pc ls st) := by
  obtain ⟨hx, hb, hml, hown, hts, hKU, hini, hr, hlocks, hn0, hbn⟩ := C
  subst hn
  obtain ⟨a, r, rfl, hs1⟩ := z1_inv hs0
  obtain ⟨h1, hs2⟩ := zwhen_inv hs1
  cases hs2
  obtain ⟨⟨lv, hl, hL⟩, hS0, hP, hD, hSt, hW⟩ := hA
  obtain ⟨v1, w, rfl, g1, hS1⟩ := zS_cons hS0
  exact lv_pop hx hb hd (zg_cat1 g1 h1) (kk _ _ _ _ _ ⟨⟨lv, hl, hL⟩, hS1, hP, hD, hSt, hW⟩ zpre)

set_option maxHeartbeats 2000000 in
theorem zs_dup2 {p : Program} {l : Launch} {e : Env} {R : Room} {s : State} {m : MethodId} {args : Array Value} {below : List Frame} {meth : Method} {c : Code} {H : Heap} {locs : List Loc} {cells slots : Nat} {Q : State → Prop} {n0 : Nat} {D : va_G} {cid : Nat → ClassId} {ρ : Nat → Int32} {b L : Nat} {xs : Nat → Int32} {oc : Nat} {ini : Bool} {cc : ByteArray} {nL : Nat} {rt : Option FieldType} {tb : zTb} {ys : List MethodName} {G : zG} {pc npc a1 a2 : Nat} {al al' : zLs} {ast ast' : List zV} {sz dz du : Nat} {h h' : zH} {ls : Array Slot} {st : List Value} {ws : va_W} {pc' : Nat} 
    (C : zCx p s m args meth c n0 D cid b L xs oc ini cc nL rt) (F : zFx tb ys) (hG : zGok G ρ L xs) (hch : zchI tb oc ini nL rt pc .dup2 a1 a2 = true) (hd : decode cc pc = .ok (.dup2, zlen .dup2)) (hn : npc = pc + zlen .dup2)
    (hs0 : zstep G .dup2 npc a1 a2 pc al ast sz h = some (.inl (pc', al', ast', h', dz, du))) (hA : zAt D cid ρ b n0 nL s al ast sz h ls st ws H locs) (hcells : cells + dz ≤ R.cells) (hslots : slots + du ≤ R.slots)
    (kk : ∀ (ws' : va_W) (H' : Heap) (locs' : List Loc) (ls' : Array Slot) (st' : List Value), zAt D cid ρ b n0 nL s al' ast' (sz + dz) h' ls' st' ws' H' locs' → (∃ xs, ws'.map Prod.fst = ws.map Prod.fst ++ xs) → W p l e R s m args below meth c H' locs' (cells + dz) (slots + du) Q (F0 m pc' ls' st')) : W p l e R s m args below meth c H locs cells slots Q (F0 m pc ls st) := by
  obtain ⟨hx, hb, hml, hown, hts, hKU, hini, hr, hlocks, hn0, hbn⟩ := C
  subst hn
  obtain ⟨a, d, r, rfl, hs1⟩ := z2_inv hs0
  obtain ⟨h1, hs2⟩ := zwhen_inv hs1
  cases hs2
  rw [Bool.and_eq_true] at h1
  obtain ⟨⟨lv, hl, hL⟩, hS0, hP, hD, hSt, hW⟩ := hA
  obtain ⟨v2, w, rfl, g2, hS1⟩ := zS_cons hS0
  obtain ⟨v1, w, rfl, g1, hS2⟩ := zS_cons hS1
  exact lv_dup2_11 hx hb hd (zg_cat1 g2 h1.2) (zg_cat1 g1 h1.1) (kk _ _ _ _ _ ⟨⟨lv, hl, hL⟩, ⟨g2, g1, g2, g1, hS2⟩, hP, hD, hSt, hW⟩ zpre)

set_option maxHeartbeats 2000000 in
theorem zs_goto {p : Program} {l : Launch} {e : Env} {R : Room} {s : State} {m : MethodId} {args : Array Value} {below : List Frame} {meth : Method} {c : Code} {H : Heap} {locs : List Loc} {cells slots : Nat} {Q : State → Prop} {n0 : Nat} {D : va_G} {cid : Nat → ClassId} {ρ : Nat → Int32} {b L : Nat} {xs : Nat → Int32} {oc : Nat} {ini : Bool} {cc : ByteArray} {nL : Nat} {rt : Option FieldType} {tb : zTb} {ys : List MethodName} {G : zG} {pc npc a1 a2 : Nat} {al al' : zLs} {ast ast' : List zV} {sz dz du : Nat} {h h' : zH} {ls : Array Slot} {st : List Value} {ws : va_W} {pc' : Nat} {off : Int}
    (C : zCx p s m args meth c n0 D cid b L xs oc ini cc nL rt) (F : zFx tb ys) (hG : zGok G ρ L xs) (hch : zchI tb oc ini nL rt pc (.goto off) a1 a2 = true) (hd : decode cc pc = .ok ((.goto off), zlen (.goto off))) (hn : npc = pc + zlen (.goto off))
    (hs0 : zstep G (.goto off) npc a1 a2 pc al ast sz h = some (.inl (pc', al', ast', h', dz, du))) (hA : zAt D cid ρ b n0 nL s al ast sz h ls st ws H locs) (hcells : cells + dz ≤ R.cells) (hslots : slots + du ≤ R.slots)
    (kk : ∀ (ws' : va_W) (H' : Heap) (locs' : List Loc) (ls' : Array Slot) (st' : List Value), zAt D cid ρ b n0 nL s al' ast' (sz + dz) h' ls' st' ws' H' locs' → (∃ xs, ws'.map Prod.fst = ws.map Prod.fst ++ xs) → W p l e R s m args below meth c H' locs' (cells + dz) (slots + du) Q (F0 m pc' ls' st')) : W p l e R s m args below meth c H locs cells slots Q (F0 m pc ls st) := by
  obtain ⟨hx, hb, hml, hown, hts, hKU, hini, hr, hlocks, hn0, hbn⟩ := C
  subst hn
  cases hs0
  obtain ⟨⟨lv, hl, hL⟩, hS0, hP, hD, hSt, hW⟩ := hA
  exact lv_goto hx hb hd (of_decide_eq_true hch) (kk _ _ _ _ _ ⟨⟨lv, hl, hL⟩, hS0, hP, hD, hSt, hW⟩ zpre)

set_option maxHeartbeats 2000000 in
theorem zs_if_eq {p : Program} {l : Launch} {e : Env} {R : Room} {s : State} {m : MethodId} {args : Array Value} {below : List Frame} {meth : Method} {c : Code} {H : Heap} {locs : List Loc} {cells slots : Nat} {Q : State → Prop} {n0 : Nat} {D : va_G} {cid : Nat → ClassId} {ρ : Nat → Int32} {b L : Nat} {xs : Nat → Int32} {oc : Nat} {ini : Bool} {cc : ByteArray} {nL : Nat} {rt : Option FieldType} {tb : zTb} {ys : List MethodName} {G : zG} {pc npc a1 a2 : Nat} {al al' : zLs} {ast ast' : List zV} {sz dz du : Nat} {h h' : zH} {ls : Array Slot} {st : List Value} {ws : va_W} {pc' : Nat} {off : Int}
    (C : zCx p s m args meth c n0 D cid b L xs oc ini cc nL rt) (F : zFx tb ys) (hG : zGok G ρ L xs) (hch : zchI tb oc ini nL rt pc (.ifCond .eq off) a1 a2 = true) (hd : decode cc pc = .ok ((.ifCond .eq off), zlen (.ifCond .eq off))) (hn : npc = pc + zlen (.ifCond .eq off))
    (hs0 : zstep G (.ifCond .eq off) npc a1 a2 pc al ast sz h = some (.inl (pc', al', ast', h', dz, du))) (hA : zAt D cid ρ b n0 nL s al ast sz h ls st ws H locs) (hcells : cells + dz ≤ R.cells) (hslots : slots + du ≤ R.slots)
    (kk : ∀ (ws' : va_W) (H' : Heap) (locs' : List Loc) (ls' : Array Slot) (st' : List Value), zAt D cid ρ b n0 nL s al' ast' (sz + dz) h' ls' st' ws' H' locs' → (∃ xs, ws'.map Prod.fst = ws.map Prod.fst ++ xs) → W p l e R s m args below meth c H' locs' (cells + dz) (slots + du) Q (F0 m pc' ls' st')) : W p l e R s m args below meth c H locs cells slots Q (F0 m pc ls st) := by
  obtain ⟨hx, hb, hml, hown, hts, hKU, hini, hr, hlocks, hn0, hbn⟩ := C
  subst hn
  obtain ⟨a, r, rfl, hs1⟩ := z1_inv hs0
  rcases zbr_inv hs1 with ⟨hc, hs2⟩ | ⟨hc, hs2⟩
  · cases hs2
    obtain ⟨h1, h2, hh⟩ := zcmp_ok (ρ := ρ) hc
    obtain ⟨⟨lv, hl, hL⟩, hS0, hP, hD, hSt, hW⟩ := hA
    obtain ⟨v1, w, rfl, g1, hS1⟩ := zS_cons hS0
    obtain ⟨x, rfl, kk1⟩ := zg_I g1 h1
    have hh := hh x 0 kk1 zI_0.symm
    exact lv_if_eq hx hb hd (of_decide_eq_true hch) (fun _ => (kk _ _ _ _ _ ⟨⟨lv, hl, hL⟩, hS1, hP, hD, hSt, hW⟩ zpre)) (fun q => absurd (hh.mpr rfl) q)
  · cases hs2
    obtain ⟨h1, h2, hh⟩ := zcmp_ok (ρ := ρ) hc
    obtain ⟨⟨lv, hl, hL⟩, hS0, hP, hD, hSt, hW⟩ := hA
    obtain ⟨v1, w, rfl, g1, hS1⟩ := zS_cons hS0
    obtain ⟨x, rfl, kk1⟩ := zg_I g1 h1
    have hh := hh x 0 kk1 zI_0.symm
    exact lv_if_eq hx hb hd (of_decide_eq_true hch) (fun q => Bool.noConfusion (hh.mp q)) (fun _ => (kk _ _ _ _ _ ⟨⟨lv, hl, hL⟩, hS1, hP, hD, hSt, hW⟩ zpre))

set_option maxHeartbeats 2000000 in
theorem zs_icmp_eq {p : Program} {l : Launch} {e : Env} {R : Room} {s : State} {m : MethodId} {args : Array Value} {below : List Frame} {meth : Method} {c : Code} {H : Heap} {locs : List Loc} {cells slots : Nat} {Q : State → Prop} {n0 : Nat} {D : va_G} {cid : Nat → ClassId} {ρ : Nat → Int32} {b L : Nat} {xs : Nat → Int32} {oc : Nat} {ini : Bool} {cc : ByteArray} {nL : Nat} {rt : Option FieldType} {tb : zTb} {ys : List MethodName} {G : zG} {pc npc a1 a2 : Nat} {al al' : zLs} {ast ast' : List zV} {sz dz du : Nat} {h h' : zH} {ls : Array Slot} {st : List Value} {ws : va_W} {pc' : Nat} {off : Int}
    (C : zCx p s m args meth c n0 D cid b L xs oc ini cc nL rt) (F : zFx tb ys) (hG : zGok G ρ L xs) (hch : zchI tb oc ini nL rt pc (.if_icmp .eq off) a1 a2 = true) (hd : decode cc pc = .ok ((.if_icmp .eq off), zlen (.if_icmp .eq off))) (hn : npc = pc + zlen (.if_icmp .eq off))
    (hs0 : zstep G (.if_icmp .eq off) npc a1 a2 pc al ast sz h = some (.inl (pc', al', ast', h', dz, du))) (hA : zAt D cid ρ b n0 nL s al ast sz h ls st ws H locs) (hcells : cells + dz ≤ R.cells) (hslots : slots + du ≤ R.slots)
    (kk : ∀ (ws' : va_W) (H' : Heap) (locs' : List Loc) (ls' : Array Slot) (st' : List Value), zAt D cid ρ b n0 nL s al' ast' (sz + dz) h' ls' st' ws' H' locs' → (∃ xs, ws'.map Prod.fst = ws.map Prod.fst ++ xs) → W p l e R s m args below meth c H' locs' (cells + dz) (slots + du) Q (F0 m pc' ls' st')) : W p l e R s m args below meth c H locs cells slots Q (F0 m pc ls st) := by
  obtain ⟨hx, hb, hml, hown, hts, hKU, hini, hr, hlocks, hn0, hbn⟩ := C
  subst hn
  obtain ⟨a, d, r, rfl, hs1⟩ := z2_inv hs0
  rcases zbr_inv hs1 with ⟨hc, hs2⟩ | ⟨hc, hs2⟩
  · cases hs2
    obtain ⟨h1, h2, hh⟩ := zcmp_ok (ρ := ρ) hc
    obtain ⟨⟨lv, hl, hL⟩, hS0, hP, hD, hSt, hW⟩ := hA
    obtain ⟨v2, w, rfl, g2, hS1⟩ := zS_cons hS0
    obtain ⟨v1, w, rfl, g1, hS2⟩ := zS_cons hS1
    obtain ⟨y, rfl, kk2⟩ := zg_I g2 h2
    obtain ⟨x, rfl, kk1⟩ := zg_I g1 h1
    have hh := hh x y kk1 kk2
    exact lv_icmp_eq hx hb hd (of_decide_eq_true hch) (fun _ => (kk _ _ _ _ _ ⟨⟨lv, hl, hL⟩, hS2, hP, hD, hSt, hW⟩ zpre)) (fun q => absurd (hh.mpr rfl) q)
  · cases hs2
    obtain ⟨h1, h2, hh⟩ := zcmp_ok (ρ := ρ) hc
    obtain ⟨⟨lv, hl, hL⟩, hS0, hP, hD, hSt, hW⟩ := hA
    obtain ⟨v2, w, rfl, g2, hS1⟩ := zS_cons hS0
    obtain ⟨v1, w, rfl, g1, hS2⟩ := zS_cons hS1
    obtain ⟨y, rfl, kk2⟩ := zg_I g2 h2
    obtain ⟨x, rfl, kk1⟩ := zg_I g1 h1
    have hh := hh x y kk1 kk2
    exact lv_icmp_eq hx hb hd (of_decide_eq_true hch) (fun q => Bool.noConfusion (hh.mp q)) (fun _ => (kk _ _ _ _ _ ⟨⟨lv, hl, hL⟩, hS2, hP, hD, hSt, hW⟩ zpre))

set_option maxHeartbeats 2000000 in
theorem zs_if_ne {p : Program} {l : Launch} {e : Env} {R : Room} {s : State} {m : MethodId} {args : Array Value} {below : List Frame} {meth : Method} {c : Code} {H : Heap} {locs : List Loc} {cells slots : Nat} {Q : State → Prop} {n0 : Nat} {D : va_G} {cid : Nat → ClassId} {ρ : Nat → Int32} {b L : Nat} {xs : Nat → Int32} {oc : Nat} {ini : Bool} {cc : ByteArray} {nL : Nat} {rt : Option FieldType} {tb : zTb} {ys : List MethodName} {G : zG} {pc npc a1 a2 : Nat} {al al' : zLs} {ast ast' : List zV} {sz dz du : Nat} {h h' : zH} {ls : Array Slot} {st : List Value} {ws : va_W} {pc' : Nat} {off : Int}
    (C : zCx p s m args meth c n0 D cid b L xs oc ini cc nL rt) (F : zFx tb ys) (hG : zGok G ρ L xs) (hch : zchI tb oc ini nL rt pc (.ifCond .ne off) a1 a2 = true) (hd : decode cc pc = .ok ((.ifCond .ne off), zlen (.ifCond .ne off))) (hn : npc = pc + zlen (.ifCond .ne off))
    (hs0 : zstep G (.ifCond .ne off) npc a1 a2 pc al ast sz h = some (.inl (pc', al', ast', h', dz, du))) (hA : zAt D cid ρ b n0 nL s al ast sz h ls st ws H locs) (hcells : cells + dz ≤ R.cells) (hslots : slots + du ≤ R.slots)
    (kk : ∀ (ws' : va_W) (H' : Heap) (locs' : List Loc) (ls' : Array Slot) (st' : List Value), zAt D cid ρ b n0 nL s al' ast' (sz + dz) h' ls' st' ws' H' locs' → (∃ xs, ws'.map Prod.fst = ws.map Prod.fst ++ xs) → W p l e R s m args below meth c H' locs' (cells + dz) (slots + du) Q (F0 m pc' ls' st')) : W p l e R s m args below meth c H locs cells slots Q (F0 m pc ls st) := by
  obtain ⟨hx, hb, hml, hown, hts, hKU, hini, hr, hlocks, hn0, hbn⟩ := C
  subst hn
  obtain ⟨a, r, rfl, hs1⟩ := z1_inv hs0
  rcases zbr_inv hs1 with ⟨hc, hs2⟩ | ⟨hc, hs2⟩
  · cases hs2
    obtain ⟨h1, h2, hh⟩ := zcmp_ok (ρ := ρ) hc
    obtain ⟨⟨lv, hl, hL⟩, hS0, hP, hD, hSt, hW⟩ := hA
    obtain ⟨v1, w, rfl, g1, hS1⟩ := zS_cons hS0
    obtain ⟨x, rfl, kk1⟩ := zg_I g1 h1
    have hh := hh x 0 kk1 zI_0.symm
    have hp : ¬ _ := hh.mpr rfl
    exact lv_if_ne hx hb hd (of_decide_eq_true hch) (fun _ => (kk _ _ _ _ _ ⟨⟨lv, hl, hL⟩, hS1, hP, hD, hSt, hW⟩ zpre)) (fun q => absurd q hp)
  · cases hs2
    obtain ⟨h1, h2, hh⟩ := zcmp_ok (ρ := ρ) hc
    obtain ⟨⟨lv, hl, hL⟩, hS0, hP, hD, hSt, hW⟩ := hA
    obtain ⟨v1, w, rfl, g1, hS1⟩ := zS_cons hS0
    obtain ⟨x, rfl, kk1⟩ := zg_I g1 h1
    have hh := hh x 0 kk1 zI_0.symm
    have hp : ¬ ¬ _ := fun q => Bool.noConfusion (hh.mp q)
    exact lv_if_ne hx hb hd (of_decide_eq_true hch) (fun q => absurd q hp) (fun _ => (kk _ _ _ _ _ ⟨⟨lv, hl, hL⟩, hS1, hP, hD, hSt, hW⟩ zpre))

set_option maxHeartbeats 2000000 in
theorem zs_icmp_ne {p : Program} {l : Launch} {e : Env} {R : Room} {s : State} {m : MethodId} {args : Array Value} {below : List Frame} {meth : Method} {c : Code} {H : Heap} {locs : List Loc} {cells slots : Nat} {Q : State → Prop} {n0 : Nat} {D : va_G} {cid : Nat → ClassId} {ρ : Nat → Int32} {b L : Nat} {xs : Nat → Int32} {oc : Nat} {ini : Bool} {cc : ByteArray} {nL : Nat} {rt : Option FieldType} {tb : zTb} {ys : List MethodName} {G : zG} {pc npc a1 a2 : Nat} {al al' : zLs} {ast ast' : List zV} {sz dz du : Nat} {h h' : zH} {ls : Array Slot} {st : List Value} {ws : va_W} {pc' : Nat} {off : Int}
    (C : zCx p s m args meth c n0 D cid b L xs oc ini cc nL rt) (F : zFx tb ys) (hG : zGok G ρ L xs) (hch : zchI tb oc ini nL rt pc (.if_icmp .ne off) a1 a2 = true) (hd : decode cc pc = .ok ((.if_icmp .ne off), zlen (.if_icmp .ne off))) (hn : npc = pc + zlen (.if_icmp .ne off))
    (hs0 : zstep G (.if_icmp .ne off) npc a1 a2 pc al ast sz h = some (.inl (pc', al', ast', h', dz, du))) (hA : zAt D cid ρ b n0 nL s al ast sz h ls st ws H locs) (hcells : cells + dz ≤ R.cells) (hslots : slots + du ≤ R.slots)
    (kk : ∀ (ws' : va_W) (H' : Heap) (locs' : List Loc) (ls' : Array Slot) (st' : List Value), zAt D cid ρ b n0 nL s al' ast' (sz + dz) h' ls' st' ws' H' locs' → (∃ xs, ws'.map Prod.fst = ws.map Prod.fst ++ xs) → W p l e R s m args below meth c H' locs' (cells + dz) (slots + du) Q (F0 m pc' ls' st')) : W p l e R s m args below meth c H locs cells slots Q (F0 m pc ls st) := by
  obtain ⟨hx, hb, hml, hown, hts, hKU, hini, hr, hlocks, hn0, hbn⟩ := C
  subst hn
  obtain ⟨a, d, r, rfl, hs1⟩ := z2_inv hs0
  rcases zbr_inv hs1 with ⟨hc, hs2⟩ | ⟨hc, hs2⟩
  · cases hs2
    obtain ⟨h1, h2, hh⟩ := zcmp_ok (ρ := ρ) hc
    obtain ⟨⟨lv, hl, hL⟩, hS0, hP, hD, hSt, hW⟩ := hA
    obtain ⟨v2, w, rfl, g2, hS1⟩ := zS_cons hS0
    obtain ⟨v1, w, rfl, g1, hS2⟩ := zS_cons hS1
    obtain ⟨y, rfl, kk2⟩ := zg_I g2 h2
    obtain ⟨x, rfl, kk1⟩ := zg_I g1 h1
    have hh := hh x y kk1 kk2
    have hp : ¬ _ := hh.mpr rfl
    exact lv_icmp_ne hx hb hd (of_decide_eq_true hch) (fun _ => (kk _ _ _ _ _ ⟨⟨lv, hl, hL⟩, hS2, hP, hD, hSt, hW⟩ zpre)) (fun q => absurd q hp)
  · cases hs2
    obtain ⟨h1, h2, hh⟩ := zcmp_ok (ρ := ρ) hc
    obtain ⟨⟨lv, hl, hL⟩, hS0, hP, hD, hSt, hW⟩ := hA
    obtain ⟨v2, w, rfl, g2, hS1⟩ := zS_cons hS0
    obtain ⟨v1, w, rfl, g1, hS2⟩ := zS_cons hS1
    obtain ⟨y, rfl, kk2⟩ := zg_I g2 h2
    obtain ⟨x, rfl, kk1⟩ := zg_I g1 h1
    have hh := hh x y kk1 kk2
    have hp : ¬ ¬ _ := fun q => Bool.noConfusion (hh.mp q)
    exact lv_icmp_ne hx hb hd (of_decide_eq_true hch) (fun q => absurd q hp) (fun _ => (kk _ _ _ _ _ ⟨⟨lv, hl, hL⟩, hS2, hP, hD, hSt, hW⟩ zpre))

set_option maxHeartbeats 2000000 in
theorem zs_if_lt {p : Program} {l : Launch} {e : Env} {R : Room} {s : State} {m : MethodId} {args : Array Value} {below : List Frame} {meth : Method} {c : Code} {H : Heap} {locs : List Loc} {cells slots : Nat} {Q : State → Prop} {n0 : Nat} {D : va_G} {cid : Nat → ClassId} {ρ : Nat → Int32} {b L : Nat} {xs : Nat → Int32} {oc : Nat} {ini : Bool} {cc : ByteArray} {nL : Nat} {rt : Option FieldType} {tb : zTb} {ys : List MethodName} {G : zG} {pc npc a1 a2 : Nat} {al al' : zLs} {ast ast' : List zV} {sz dz du : Nat} {h h' : zH} {ls : Array Slot} {st : List Value} {ws : va_W} {pc' : Nat} {off : Int}
    (C : zCx p s m args meth c n0 D cid b L xs oc ini cc nL rt) (F : zFx tb ys) (hG : zGok G ρ L xs) (hch : zchI tb oc ini nL rt pc (.ifCond .lt off) a1 a2 = true) (hd : decode cc pc = .ok ((.ifCond .lt off), zlen (.ifCond .lt off))) (hn : npc = pc + zlen (.ifCond .lt off))
    (hs0 : zstep G (.ifCond .lt off) npc a1 a2 pc al ast sz h = some (.inl (pc', al', ast', h', dz, du))) (hA : zAt D cid ρ b n0 nL s al ast sz h ls st ws H locs) (hcells : cells + dz ≤ R.cells) (hslots : slots + du ≤ R.slots)
    (kk : ∀ (ws' : va_W) (H' : Heap) (locs' : List Loc) (ls' : Array Slot) (st' : List Value), zAt D cid ρ b n0 nL s al' ast' (sz + dz) h' ls' st' ws' H' locs' → (∃ xs, ws'.map Prod.fst = ws.map Prod.fst ++ xs) → W p l e R s m args below meth c H' locs' (cells + dz) (slots + du) Q (F0 m pc' ls' st')) : W p l e R s m args below meth c H locs cells slots Q (F0 m pc ls st) := by
  obtain ⟨hx, hb, hml, hown, hts, hKU, hini, hr, hlocks, hn0, hbn⟩ := C
  subst hn
  obtain ⟨a, r, rfl, hs1⟩ := z1_inv hs0
  rcases zbr_inv hs1 with ⟨hc, hs2⟩ | ⟨hc, hs2⟩
  · cases hs2
    obtain ⟨h1, h2, hh⟩ := zcmp_ok (ρ := ρ) hc
    obtain ⟨⟨lv, hl, hL⟩, hS0, hP, hD, hSt, hW⟩ := hA
    obtain ⟨v1, w, rfl, g1, hS1⟩ := zS_cons hS0
    obtain ⟨x, rfl, kk1⟩ := zg_I g1 h1
    have hh := hh x 0 kk1 zI_0.symm
    exact lv_if_lt hx hb hd (of_decide_eq_true hch) (fun _ => (kk _ _ _ _ _ ⟨⟨lv, hl, hL⟩, hS1, hP, hD, hSt, hW⟩ zpre)) (fun q => absurd (hh.mpr rfl) q)
  · cases hs2
    obtain ⟨h1, h2, hh⟩ := zcmp_ok (ρ := ρ) hc
    obtain ⟨⟨lv, hl, hL⟩, hS0, hP, hD, hSt, hW⟩ := hA
    obtain ⟨v1, w, rfl, g1, hS1⟩ := zS_cons hS0
    obtain ⟨x, rfl, kk1⟩ := zg_I g1 h1
    have hh := hh x 0 kk1 zI_0.symm
    exact lv_if_lt hx hb hd (of_decide_eq_true hch) (fun q => Bool.noConfusion (hh.mp q)) (fun _ => (kk _ _ _ _ _ ⟨⟨lv, hl, hL⟩, hS1, hP, hD, hSt, hW⟩ zpre))

set_option maxHeartbeats 2000000 in
theorem zs_icmp_lt {p : Program} {l : Launch} {e : Env} {R : Room} {s : State} {m : MethodId} {args : Array Value} {below : List Frame} {meth : Method} {c : Code} {H : Heap} {locs : List Loc} {cells slots : Nat} {Q : State → Prop} {n0 : Nat} {D : va_G} {cid : Nat → ClassId} {ρ : Nat → Int32} {b L : Nat} {xs : Nat → Int32} {oc : Nat} {ini : Bool} {cc : ByteArray} {nL : Nat} {rt : Option FieldType} {tb : zTb} {ys : List MethodName} {G : zG} {pc npc a1 a2 : Nat} {al al' : zLs} {ast ast' : List zV} {sz dz du : Nat} {h h' : zH} {ls : Array Slot} {st : List Value} {ws : va_W} {pc' : Nat} {off : Int}
    (C : zCx p s m args meth c n0 D cid b L xs oc ini cc nL rt) (F : zFx tb ys) (hG : zGok G ρ L xs) (hch : zchI tb oc ini nL rt pc (.if_icmp .lt off) a1 a2 = true) (hd : decode cc pc = .ok ((.if_icmp .lt off), zlen (.if_icmp .lt off))) (hn : npc = pc + zlen (.if_icmp .lt off))
    (hs0 : zstep G (.if_icmp .lt off) npc a1 a2 pc al ast sz h = some (.inl (pc', al', ast', h', dz, du))) (hA : zAt D cid ρ b n0 nL s al ast sz h ls st ws H locs) (hcells : cells + dz ≤ R.cells) (hslots : slots + du ≤ R.slots)
    (kk : ∀ (ws' : va_W) (H' : Heap) (locs' : List Loc) (ls' : Array Slot) (st' : List Value), zAt D cid ρ b n0 nL s al' ast' (sz + dz) h' ls' st' ws' H' locs' → (∃ xs, ws'.map Prod.fst = ws.map Prod.fst ++ xs) → W p l e R s m args below meth c H' locs' (cells + dz) (slots + du) Q (F0 m pc' ls' st')) : W p l e R s m args below meth c H locs cells slots Q (F0 m pc ls st) := by
  obtain ⟨hx, hb, hml, hown, hts, hKU, hini, hr, hlocks, hn0, hbn⟩ := C
  subst hn
  obtain ⟨a, d, r, rfl, hs1⟩ := z2_inv hs0
  rcases zbr_inv hs1 with ⟨hc, hs2⟩ | ⟨hc, hs2⟩
  · cases hs2
    obtain ⟨h1, h2, hh⟩ := zcmp_ok (ρ := ρ) hc
    obtain ⟨⟨lv, hl, hL⟩, hS0, hP, hD, hSt, hW⟩ := hA
    obtain ⟨v2, w, rfl, g2, hS1⟩ := zS_cons hS0
    obtain ⟨v1, w, rfl, g1, hS2⟩ := zS_cons hS1
    obtain ⟨y, rfl, kk2⟩ := zg_I g2 h2
    obtain ⟨x, rfl, kk1⟩ := zg_I g1 h1
    have hh := hh x y kk1 kk2
    exact lv_icmp_lt hx hb hd (of_decide_eq_true hch) (fun _ => (kk _ _ _ _ _ ⟨⟨lv, hl, hL⟩, hS2, hP, hD, hSt, hW⟩ zpre)) (fun q => absurd (hh.mpr rfl) q)
  · cases hs2
    obtain ⟨h1, h2, hh⟩ := zcmp_ok (ρ := ρ) hc
    obtain ⟨⟨lv, hl, hL⟩, hS0, hP, hD, hSt, hW⟩ := hA
    obtain ⟨v2, w, rfl, g2, hS1⟩ := zS_cons hS0
    obtain ⟨v1, w, rfl, g1, hS2⟩ := zS_cons hS1
    obtain ⟨y, rfl, kk2⟩ := zg_I g2 h2
    obtain ⟨x, rfl, kk1⟩ := zg_I g1 h1
    have hh := hh x y kk1 kk2
    exact lv_icmp_lt hx hb hd (of_decide_eq_true hch) (fun q => Bool.noConfusion (hh.mp q)) (fun _ => (kk _ _ _ _ _ ⟨⟨lv, hl, hL⟩, hS2, hP, hD, hSt, hW⟩ zpre))

set_option maxHeartbeats 2000000 in
theorem zs_if_ge {p : Program} {l : Launch} {e : Env} {R : Room} {s : State} {m : MethodId} {args : Array Value} {below : List Frame} {meth : Method} {c : Code} {H : Heap} {locs : List Loc} {cells slots : Nat} {Q : State → Prop} {n0 : Nat} {D : va_G} {cid : Nat → ClassId} {ρ : Nat → Int32} {b L : Nat} {xs : Nat → Int32} {oc : Nat} {ini : Bool} {cc : ByteArray} {nL : Nat} {rt : Option FieldType} {tb : zTb} {ys : List MethodName} {G : zG} {pc npc a1 a2 : Nat} {al al' : zLs} {ast ast' : List zV} {sz dz du : Nat} {h h' : zH} {ls : Array Slot} {st : List Value} {ws : va_W} {pc' : Nat} {off : Int}
    (C : zCx p s m args meth c n0 D cid b L xs oc ini cc nL rt) (F : zFx tb ys) (hG : zGok G ρ L xs) (hch : zchI tb oc ini nL rt pc (.ifCond .ge off) a1 a2 = true) (hd : decode cc pc = .ok ((.ifCond .ge off), zlen (.ifCond .ge off))) (hn : npc = pc + zlen (.ifCond .ge off))
    (hs0 : zstep G (.ifCond .ge off) npc a1 a2 pc al ast sz h = some (.inl (pc', al', ast', h', dz, du))) (hA : zAt D cid ρ b n0 nL s al ast sz h ls st ws H locs) (hcells : cells + dz ≤ R.cells) (hslots : slots + du ≤ R.slots)
    (kk : ∀ (ws' : va_W) (H' : Heap) (locs' : List Loc) (ls' : Array Slot) (st' : List Value), zAt D cid ρ b n0 nL s al' ast' (sz + dz) h' ls' st' ws' H' locs' → (∃ xs, ws'.map Prod.fst = ws.map Prod.fst ++ xs) → W p l e R s m args below meth c H' locs' (cells + dz) (slots + du) Q (F0 m pc' ls' st')) : W p l e R s m args below meth c H locs cells slots Q (F0 m pc ls st) := by
  obtain ⟨hx, hb, hml, hown, hts, hKU, hini, hr, hlocks, hn0, hbn⟩ := C
  subst hn
  obtain ⟨a, r, rfl, hs1⟩ := z1_inv hs0
  rcases zbr_inv hs1 with ⟨hc, hs2⟩ | ⟨hc, hs2⟩
  · cases hs2
    obtain ⟨h1, h2, hh⟩ := zcmp_ok (ρ := ρ) hc
    obtain ⟨⟨lv, hl, hL⟩, hS0, hP, hD, hSt, hW⟩ := hA
    obtain ⟨v1, w, rfl, g1, hS1⟩ := zS_cons hS0
    obtain ⟨x, rfl, kk1⟩ := zg_I g1 h1
    have hh := hh x 0 kk1 zI_0.symm
    exact lv_if_ge hx hb hd (of_decide_eq_true hch) (fun _ => (kk _ _ _ _ _ ⟨⟨lv, hl, hL⟩, hS1, hP, hD, hSt, hW⟩ zpre)) (fun q => absurd (hh.mpr rfl) q)
  · cases hs2
    obtain ⟨h1, h2, hh⟩ := zcmp_ok (ρ := ρ) hc
    obtain ⟨⟨lv, hl, hL⟩, hS0, hP, hD, hSt, hW⟩ := hA
    obtain ⟨v1, w, rfl, g1, hS1⟩ := zS_cons hS0
    obtain ⟨x, rfl, kk1⟩ := zg_I g1 h1
    have hh := hh x 0 kk1 zI_0.symm
    exact lv_if_ge hx hb hd (of_decide_eq_true hch) (fun q => Bool.noConfusion (hh.mp q)) (fun _ => (kk _ _ _ _ _ ⟨⟨lv, hl, hL⟩, hS1, hP, hD, hSt, hW⟩ zpre))

set_option maxHeartbeats 2000000 in
theorem zs_icmp_ge {p : Program} {l : Launch} {e : Env} {R : Room} {s : State} {m : MethodId} {args : Array Value} {below : List Frame} {meth : Method} {c : Code} {H : Heap} {locs : List Loc} {cells slots : Nat} {Q : State → Prop} {n0 : Nat} {D : va_G} {cid : Nat → ClassId} {ρ : Nat → Int32} {b L : Nat} {xs : Nat → Int32} {oc : Nat} {ini : Bool} {cc : ByteArray} {nL : Nat} {rt : Option FieldType} {tb : zTb} {ys : List MethodName} {G : zG} {pc npc a1 a2 : Nat} {al al' : zLs} {ast ast' : List zV} {sz dz du : Nat} {h h' : zH} {ls : Array Slot} {st : List Value} {ws : va_W} {pc' : Nat} {off : Int}
    (C : zCx p s m args meth c n0 D cid b L xs oc ini cc nL rt) (F : zFx tb ys) (hG : zGok G ρ L xs) (hch : zchI tb oc ini nL rt pc (.if_icmp .ge off) a1 a2 = true) (hd : decode cc pc = .ok ((.if_icmp .ge off), zlen (.if_icmp .ge off))) (hn : npc = pc + zlen (.if_icmp .ge off))
    (hs0 : zstep G (.if_icmp .ge off) npc a1 a2 pc al ast sz h = some (.inl (pc', al', ast', h', dz, du))) (hA : zAt D cid ρ b n0 nL s al ast sz h ls st ws H locs) (hcells : cells + dz ≤ R.cells) (hslots : slots + du ≤ R.slots)
    (kk : ∀ (ws' : va_W) (H' : Heap) (locs' : List Loc) (ls' : Array Slot) (st' : List Value), zAt D cid ρ b n0 nL s al' ast' (sz + dz) h' ls' st' ws' H' locs' → (∃ xs, ws'.map Prod.fst = ws.map Prod.fst ++ xs) → W p l e R s m args below meth c H' locs' (cells + dz) (slots + du) Q (F0 m pc' ls' st')) : W p l e R s m args below meth c H locs cells slots Q (F0 m pc ls st) := by
  obtain ⟨hx, hb, hml, hown, hts, hKU, hini, hr, hlocks, hn0, hbn⟩ := C
  subst hn
  obtain ⟨a, d, r, rfl, hs1⟩ := z2_inv hs0
  rcases zbr_inv hs1 with ⟨hc, hs2⟩ | ⟨hc, hs2⟩
  · cases hs2
    obtain ⟨h1, h2, hh⟩ := zcmp_ok (ρ := ρ) hc
    obtain ⟨⟨lv, hl, hL⟩, hS0, hP, hD, hSt, hW⟩ := hA
    obtain ⟨v2, w, rfl, g2, hS1⟩ := zS_cons hS0
    obtain ⟨v1, w, rfl, g1, hS2⟩ := zS_cons hS1
    obtain ⟨y, rfl, kk2⟩ := zg_I g2 h2
    obtain ⟨x, rfl, kk1⟩ := zg_I g1 h1
    have hh := hh x y kk1 kk2
    exact lv_icmp_ge hx hb hd (of_decide_eq_true hch) (fun _ => (kk _ _ _ _ _ ⟨⟨lv, hl, hL⟩, hS2, hP, hD, hSt, hW⟩ zpre)) (fun q => absurd (hh.mpr rfl) q)
  · cases hs2
    obtain ⟨h1, h2, hh⟩ := zcmp_ok (ρ := ρ) hc
    obtain ⟨⟨lv, hl, hL⟩, hS0, hP, hD, hSt, hW⟩ := hA
    obtain ⟨v2, w, rfl, g2, hS1⟩ := zS_cons hS0
    obtain ⟨v1, w, rfl, g1, hS2⟩ := zS_cons hS1
    obtain ⟨y, rfl, kk2⟩ := zg_I g2 h2
    obtain ⟨x, rfl, kk1⟩ := zg_I g1 h1
    have hh := hh x y kk1 kk2
    exact lv_icmp_ge hx hb hd (of_decide_eq_true hch) (fun q => Bool.noConfusion (hh.mp q)) (fun _ => (kk _ _ _ _ _ ⟨⟨lv, hl, hL⟩, hS2, hP, hD, hSt, hW⟩ zpre))

set_option maxHeartbeats 2000000 in
theorem zs_if_gt {p : Program} {l : Launch} {e : Env} {R : Room} {s : State} {m : MethodId} {args : Array Value} {below : List Frame} {meth : Method} {c : Code} {H : Heap} {locs : List Loc} {cells slots : Nat} {Q : State → Prop} {n0 : Nat} {D : va_G} {cid : Nat → ClassId} {ρ : Nat → Int32} {b L : Nat} {xs : Nat → Int32} {oc : Nat} {ini : Bool} {cc : ByteArray} {nL : Nat} {rt : Option FieldType} {tb : zTb} {ys : List MethodName} {G : zG} {pc npc a1 a2 : Nat} {al al' : zLs} {ast ast' : List zV} {sz dz du : Nat} {h h' : zH} {ls : Array Slot} {st : List Value} {ws : va_W} {pc' : Nat} {off : Int}
    (C : zCx p s m args meth c n0 D cid b L xs oc ini cc nL rt) (F : zFx tb ys) (hG : zGok G ρ L xs) (hch : zchI tb oc ini nL rt pc (.ifCond .gt off) a1 a2 = true) (hd : decode cc pc = .ok ((.ifCond .gt off), zlen (.ifCond .gt off))) (hn : npc = pc + zlen (.ifCond .gt off))
    (hs0 : zstep G (.ifCond .gt off) npc a1 a2 pc al ast sz h = some (.inl (pc', al', ast', h', dz, du))) (hA : zAt D cid ρ b n0 nL s al ast sz h ls st ws H locs) (hcells : cells + dz ≤ R.cells) (hslots : slots + du ≤ R.slots)
    (kk : ∀ (ws' : va_W) (H' : Heap) (locs' : List Loc) (ls' : Array Slot) (st' : List Value), zAt D cid ρ b n0 nL s al' ast' (sz + dz) h' ls' st' ws' H' locs' → (∃ xs, ws'.map Prod.fst = ws.map Prod.fst ++ xs) → W p l e R s m args below meth c H' locs' (cells + dz) (slots + du) Q (F0 m pc' ls' st')) : W p l e R s m args below meth c H locs cells slots Q (F0 m pc ls st) := by
  obtain ⟨hx, hb, hml, hown, hts, hKU, hini, hr, hlocks, hn0, hbn⟩ := C
  subst hn
  obtain ⟨a, r, rfl, hs1⟩ := z1_inv hs0
  rcases zbr_inv hs1 with ⟨hc, hs2⟩ | ⟨hc, hs2⟩
  · cases hs2
    obtain ⟨h1, h2, hh⟩ := zcmp_ok (ρ := ρ) hc
    obtain ⟨⟨lv, hl, hL⟩, hS0, hP, hD, hSt, hW⟩ := hA
    obtain ⟨v1, w, rfl, g1, hS1⟩ := zS_cons hS0
    obtain ⟨x, rfl, kk1⟩ := zg_I g1 h1
    have hh := hh x 0 kk1 zI_0.symm
    exact lv_if_gt hx hb hd (of_decide_eq_true hch) (fun _ => (kk _ _ _ _ _ ⟨⟨lv, hl, hL⟩, hS1, hP, hD, hSt, hW⟩ zpre)) (fun q => absurd (hh.mpr rfl) q)
  · cases hs2
    obtain ⟨h1, h2, hh⟩ := zcmp_ok (ρ := ρ) hc
    obtain ⟨⟨lv, hl, hL⟩, hS0, hP, hD, hSt, hW⟩ := hA
    obtain ⟨v1, w, rfl, g1, hS1⟩ := zS_cons hS0
    obtain ⟨x, rfl, kk1⟩ := zg_I g1 h1
    have hh := hh x 0 kk1 zI_0.symm
    exact lv_if_gt hx hb hd (of_decide_eq_true hch) (fun q => Bool.noConfusion (hh.mp q)) (fun _ => (kk _ _ _ _ _ ⟨⟨lv, hl, hL⟩, hS1, hP, hD, hSt, hW⟩ zpre))

set_option maxHeartbeats 2000000 in
theorem zs_icmp_gt {p : Program} {l : Launch} {e : Env} {R : Room} {s : State} {m : MethodId} {args : Array Value} {below : List Frame} {meth : Method} {c : Code} {H : Heap} {locs : List Loc} {cells slots : Nat} {Q : State → Prop} {n0 : Nat} {D : va_G} {cid : Nat → ClassId} {ρ : Nat → Int32} {b L : Nat} {xs : Nat → Int32} {oc : Nat} {ini : Bool} {cc : ByteArray} {nL : Nat} {rt : Option FieldType} {tb : zTb} {ys : List MethodName} {G : zG} {pc npc a1 a2 : Nat} {al al' : zLs} {ast ast' : List zV} {sz dz du : Nat} {h h' : zH} {ls : Array Slot} {st : List Value} {ws : va_W} {pc' : Nat} {off : Int}
    (C : zCx p s m args meth c n0 D cid b L xs oc ini cc nL rt) (F : zFx tb ys) (hG : zGok G ρ L xs) (hch : zchI tb oc ini nL rt pc (.if_icmp .gt off) a1 a2 = true) (hd : decode cc pc = .ok ((.if_icmp .gt off), zlen (.if_icmp .gt off))) (hn : npc = pc + zlen (.if_icmp .gt off))
    (hs0 : zstep G (.if_icmp .gt off) npc a1 a2 pc al ast sz h = some (.inl (pc', al', ast', h', dz, du))) (hA : zAt D cid ρ b n0 nL s al ast sz h ls st ws H locs) (hcells : cells + dz ≤ R.cells) (hslots : slots + du ≤ R.slots)
    (kk : ∀ (ws' : va_W) (H' : Heap) (locs' : List Loc) (ls' : Array Slot) (st' : List Value), zAt D cid ρ b n0 nL s al' ast' (sz + dz) h' ls' st' ws' H' locs' → (∃ xs, ws'.map Prod.fst = ws.map Prod.fst ++ xs) → W p l e R s m args below meth c H' locs' (cells + dz) (slots + du) Q (F0 m pc' ls' st')) : W p l e R s m args below meth c H locs cells slots Q (F0 m pc ls st) := by
  obtain ⟨hx, hb, hml, hown, hts, hKU, hini, hr, hlocks, hn0, hbn⟩ := C
  subst hn
  obtain ⟨a, d, r, rfl, hs1⟩ := z2_inv hs0
  rcases zbr_inv hs1 with ⟨hc, hs2⟩ | ⟨hc, hs2⟩
  · cases hs2
    obtain ⟨h1, h2, hh⟩ := zcmp_ok (ρ := ρ) hc
    obtain ⟨⟨lv, hl, hL⟩, hS0, hP, hD, hSt, hW⟩ := hA
    obtain ⟨v2, w, rfl, g2, hS1⟩ := zS_cons hS0
    obtain ⟨v1, w, rfl, g1, hS2⟩ := zS_cons hS1
    obtain ⟨y, rfl, kk2⟩ := zg_I g2 h2
    obtain ⟨x, rfl, kk1⟩ := zg_I g1 h1
    have hh := hh x y kk1 kk2
    exact lv_icmp_gt hx hb hd (of_decide_eq_true hch) (fun _ => (kk _ _ _ _ _ ⟨⟨lv, hl, hL⟩, hS2, hP, hD, hSt, hW⟩ zpre)) (fun q => absurd (hh.mpr rfl) q)
  · cases hs2
    obtain ⟨h1, h2, hh⟩ := zcmp_ok (ρ := ρ) hc
    obtain ⟨⟨lv, hl, hL⟩, hS0, hP, hD, hSt, hW⟩ := hA
    obtain ⟨v2, w, rfl, g2, hS1⟩ := zS_cons hS0
    obtain ⟨v1, w, rfl, g1, hS2⟩ := zS_cons hS1
    obtain ⟨y, rfl, kk2⟩ := zg_I g2 h2
    obtain ⟨x, rfl, kk1⟩ := zg_I g1 h1
    have hh := hh x y kk1 kk2
    exact lv_icmp_gt hx hb hd (of_decide_eq_true hch) (fun q => Bool.noConfusion (hh.mp q)) (fun _ => (kk _ _ _ _ _ ⟨⟨lv, hl, hL⟩, hS2, hP, hD, hSt, hW⟩ zpre))

set_option maxHeartbeats 2000000 in
theorem zs_if_le {p : Program} {l : Launch} {e : Env} {R : Room} {s : State} {m : MethodId} {args : Array Value} {below : List Frame} {meth : Method} {c : Code} {H : Heap} {locs : List Loc} {cells slots : Nat} {Q : State → Prop} {n0 : Nat} {D : va_G} {cid : Nat → ClassId} {ρ : Nat → Int32} {b L : Nat} {xs : Nat → Int32} {oc : Nat} {ini : Bool} {cc : ByteArray} {nL : Nat} {rt : Option FieldType} {tb : zTb} {ys : List MethodName} {G : zG} {pc npc a1 a2 : Nat} {al al' : zLs} {ast ast' : List zV} {sz dz du : Nat} {h h' : zH} {ls : Array Slot} {st : List Value} {ws : va_W} {pc' : Nat} {off : Int}
    (C : zCx p s m args meth c n0 D cid b L xs oc ini cc nL rt) (F : zFx tb ys) (hG : zGok G ρ L xs) (hch : zchI tb oc ini nL rt pc (.ifCond .le off) a1 a2 = true) (hd : decode cc pc = .ok ((.ifCond .le off), zlen (.ifCond .le off))) (hn : npc = pc + zlen (.ifCond .le off))
    (hs0 : zstep G (.ifCond .le off) npc a1 a2 pc al ast sz h = some (.inl (pc', al', ast', h', dz, du))) (hA : zAt D cid ρ b n0 nL s al ast sz h ls st ws H locs) (hcells : cells + dz ≤ R.cells) (hslots : slots + du ≤ R.slots)
    (kk : ∀ (ws' : va_W) (H' : Heap) (locs' : List Loc) (ls' : Array Slot) (st' : List Value), zAt D cid ρ b n0 nL s al' ast' (sz + dz) h' ls' st' ws' H' locs' → (∃ xs, ws'.map Prod.fst = ws.map Prod.fst ++ xs) → W p l e R s m args below meth c H' locs' (cells + dz) (slots + du) Q (F0 m pc' ls' st')) : W p l e R s m args below meth c H locs cells slots Q (F0 m pc ls st) := by
  obtain ⟨hx, hb, hml, hown, hts, hKU, hini, hr, hlocks, hn0, hbn⟩ := C
  subst hn
  obtain ⟨a, r, rfl, hs1⟩ := z1_inv hs0
  rcases zbr_inv hs1 with ⟨hc, hs2⟩ | ⟨hc, hs2⟩
  · cases hs2
    obtain ⟨h1, h2, hh⟩ := zcmp_ok (ρ := ρ) hc
    obtain ⟨⟨lv, hl, hL⟩, hS0, hP, hD, hSt, hW⟩ := hA
    obtain ⟨v1, w, rfl, g1, hS1⟩ := zS_cons hS0
    obtain ⟨x, rfl, kk1⟩ := zg_I g1 h1
    have hh := hh x 0 kk1 zI_0.symm
    exact lv_if_le hx hb hd (of_decide_eq_true hch) (fun _ => (kk _ _ _ _ _ ⟨⟨lv, hl, hL⟩, hS1, hP, hD, hSt, hW⟩ zpre)) (fun q => absurd (hh.mpr rfl) q)
  · cases hs2
    obtain ⟨h1, h2, hh⟩ := zcmp_ok (ρ := ρ) hc
    obtain ⟨⟨lv, hl, hL⟩, hS0, hP, hD, hSt, hW⟩ := hA
    obtain ⟨v1, w, rfl, g1, hS1⟩ := zS_cons hS0
    obtain ⟨x, rfl, kk1⟩ := zg_I g1 h1
    have hh := hh x 0 kk1 zI_0.symm
    exact lv_if_le hx hb hd (of_decide_eq_true hch) (fun q => Bool.noConfusion (hh.mp q)) (fun _ => (kk _ _ _ _ _ ⟨⟨lv, hl, hL⟩, hS1, hP, hD, hSt, hW⟩ zpre))

set_option maxHeartbeats 2000000 in
theorem zs_icmp_le {p : Program} {l : Launch} {e : Env} {R : Room} {s : State} {m : MethodId} {args : Array Value} {below : List Frame} {meth : Method} {c : Code} {H : Heap} {locs : List Loc} {cells slots : Nat} {Q : State → Prop} {n0 : Nat} {D : va_G} {cid : Nat → ClassId} {ρ : Nat → Int32} {b L : Nat} {xs : Nat → Int32} {oc : Nat} {ini : Bool} {cc : ByteArray} {nL : Nat} {rt : Option FieldType} {tb : zTb} {ys : List MethodName} {G : zG} {pc npc a1 a2 : Nat} {al al' : zLs} {ast ast' : List zV} {sz dz du : Nat} {h h' : zH} {ls : Array Slot} {st : List Value} {ws : va_W} {pc' : Nat} {off : Int}
    (C : zCx p s m args meth c n0 D cid b L xs oc ini cc nL rt) (F : zFx tb ys) (hG : zGok G ρ L xs) (hch : zchI tb oc ini nL rt pc (.if_icmp .le off) a1 a2 = true) (hd : decode cc pc = .ok ((.if_icmp .le off), zlen (.if_icmp .le off))) (hn : npc = pc + zlen (.if_icmp .le off))
    (hs0 : zstep G (.if_icmp .le off) npc a1 a2 pc al ast sz h = some (.inl (pc', al', ast', h', dz, du))) (hA : zAt D cid ρ b n0 nL s al ast sz h ls st ws H locs) (hcells : cells + dz ≤ R.cells) (hslots : slots + du ≤ R.slots)
    (kk : ∀ (ws' : va_W) (H' : Heap) (locs' : List Loc) (ls' : Array Slot) (st' : List Value), zAt D cid ρ b n0 nL s al' ast' (sz + dz) h' ls' st' ws' H' locs' → (∃ xs, ws'.map Prod.fst = ws.map Prod.fst ++ xs) → W p l e R s m args below meth c H' locs' (cells + dz) (slots + du) Q (F0 m pc' ls' st')) : W p l e R s m args below meth c H locs cells slots Q (F0 m pc ls st) := by
  obtain ⟨hx, hb, hml, hown, hts, hKU, hini, hr, hlocks, hn0, hbn⟩ := C
  subst hn
  obtain ⟨a, d, r, rfl, hs1⟩ := z2_inv hs0
  rcases zbr_inv hs1 with ⟨hc, hs2⟩ | ⟨hc, hs2⟩
  · cases hs2
    obtain ⟨h1, h2, hh⟩ := zcmp_ok (ρ := ρ) hc
    obtain ⟨⟨lv, hl, hL⟩, hS0, hP, hD, hSt, hW⟩ := hA
    obtain ⟨v2, w, rfl, g2, hS1⟩ := zS_cons hS0
    obtain ⟨v1, w, rfl, g1, hS2⟩ := zS_cons hS1
    obtain ⟨y, rfl, kk2⟩ := zg_I g2 h2
    obtain ⟨x, rfl, kk1⟩ := zg_I g1 h1
    have hh := hh x y kk1 kk2
    exact lv_icmp_le hx hb hd (of_decide_eq_true hch) (fun _ => (kk _ _ _ _ _ ⟨⟨lv, hl, hL⟩, hS2, hP, hD, hSt, hW⟩ zpre)) (fun q => absurd (hh.mpr rfl) q)
  · cases hs2
    obtain ⟨h1, h2, hh⟩ := zcmp_ok (ρ := ρ) hc
    obtain ⟨⟨lv, hl, hL⟩, hS0, hP, hD, hSt, hW⟩ := hA
    obtain ⟨v2, w, rfl, g2, hS1⟩ := zS_cons hS0
    obtain ⟨v1, w, rfl, g1, hS2⟩ := zS_cons hS1
    obtain ⟨y, rfl, kk2⟩ := zg_I g2 h2
    obtain ⟨x, rfl, kk1⟩ := zg_I g1 h1
    have hh := hh x y kk1 kk2
    exact lv_icmp_le hx hb hd (of_decide_eq_true hch) (fun q => Bool.noConfusion (hh.mp q)) (fun _ => (kk _ _ _ _ _ ⟨⟨lv, hl, hL⟩, hS2, hP, hD, hSt, hW⟩ zpre))

set_option maxHeartbeats 2000000 in
theorem zs_tableswitch {p : Program} {l : Launch} {e : Env} {R : Room} {s : State} {m : MethodId} {args : Array Value} {below : List Frame} {meth : Method} {c : Code} {H : Heap} {locs : List Loc} {cells slots : Nat} {Q : State → Prop} {n0 : Nat} {D : va_G} {cid : Nat → ClassId} {ρ : Nat → Int32} {b L : Nat} {xs : Nat → Int32} {oc : Nat} {ini : Bool} {cc : ByteArray} {nL : Nat} {rt : Option FieldType} {tb : zTb} {ys : List MethodName} {G : zG} {pc npc a1 a2 : Nat} {al al' : zLs} {ast ast' : List zV} {sz dz du : Nat} {h h' : zH} {ls : Array Slot} {st : List Value} {ws : va_W} {pc' : Nat} {d lo hi : Int} {offs : Array Int}
    (C : zCx p s m args meth c n0 D cid b L xs oc ini cc nL rt) (F : zFx tb ys) (hG : zGok G ρ L xs) (hch : zchI tb oc ini nL rt pc (.tableswitch d lo hi offs) a1 a2 = true) (hd : decode cc pc = .ok ((.tableswitch d lo hi offs), npc - pc)) 
    (hs0 : zstep G (.tableswitch d lo hi offs) npc a1 a2 pc al ast sz h = some (.inl (pc', al', ast', h', dz, du))) (hA : zAt D cid ρ b n0 nL s al ast sz h ls st ws H locs) (hcells : cells + dz ≤ R.cells) (hslots : slots + du ≤ R.slots)
    (kk : ∀ (ws' : va_W) (H' : Heap) (locs' : List Loc) (ls' : Array Slot) (st' : List Value), zAt D cid ρ b n0 nL s al' ast' (sz + dz) h' ls' st' ws' H' locs' → (∃ xs, ws'.map Prod.fst = ws.map Prod.fst ++ xs) → W p l e R s m args below meth c H' locs' (cells + dz) (slots + du) Q (F0 m pc' ls' st')) : W p l e R s m args below meth c H locs cells slots Q (F0 m pc ls st) := by
  obtain ⟨hx, hb, hml, hown, hts, hKU, hini, hr, hlocks, hn0, hbn⟩ := C
  obtain ⟨a, r, rfl, hs1⟩ := z1_inv hs0
  unfold zsw at hs1
  split at hs1
  · rename_i l0 u0 hbd
    split at hs1
    · rename_i ho
      obtain ⟨t, ht, hs2⟩ := ztgt_inv hs1
      cases hs2
      obtain ⟨⟨lv, hl, hL⟩, hS0, hP, hD, hSt, hW⟩ := hA
      obtain ⟨v1, w, rfl, g1, hS1⟩ := zS_cons hS0
      obtain ⟨x, rfl, kk1⟩ := zg_I g1 (zbd_is hbd)
      have hxb := zbd_ok hbd kk1
      exact lv_tableOut hx hb hd (by omega) ht (kk _ _ _ _ _ ⟨⟨lv, hl, hL⟩, hS1, hP, hD, hSt, hW⟩ zpre)
    · split at hs1
      · rename_i ho
        split at hs1
        · rename_i off hoff
          obtain ⟨t, ht, hs2⟩ := ztgt_inv hs1
          cases hs2
          obtain ⟨⟨lv, hl, hL⟩, hS0, hP, hD, hSt, hW⟩ := hA
          obtain ⟨v1, w, rfl, g1, hS1⟩ := zS_cons hS0
          obtain ⟨x, rfl, kk1⟩ := zg_I g1 (zbd_is hbd)
          have hxb := zbd_ok hbd kk1
          have hxe : x.toInt = l0 := by omega
          exact lv_tableIn hx hb hd (by omega) (by omega) (by rw [hxe]; exact hoff) ht (kk _ _ _ _ _ ⟨⟨lv, hl, hL⟩, hS1, hP, hD, hSt, hW⟩ zpre)
        · cases hs1
      · cases hs1
  · cases hs1

set_option maxHeartbeats 2000000 in
theorem zs_lookupswitch {p : Program} {l : Launch} {e : Env} {R : Room} {s : State} {m : MethodId} {args : Array Value} {below : List Frame} {meth : Method} {c : Code} {H : Heap} {locs : List Loc} {cells slots : Nat} {Q : State → Prop} {n0 : Nat} {D : va_G} {cid : Nat → ClassId} {ρ : Nat → Int32} {b L : Nat} {xs : Nat → Int32} {oc : Nat} {ini : Bool} {cc : ByteArray} {nL : Nat} {rt : Option FieldType} {tb : zTb} {ys : List MethodName} {G : zG} {pc npc a1 a2 : Nat} {al al' : zLs} {ast ast' : List zV} {sz dz du : Nat} {h h' : zH} {ls : Array Slot} {st : List Value} {ws : va_W} {pc' : Nat} {d : Int} {ps : Array (Int × Int)}
    (C : zCx p s m args meth c n0 D cid b L xs oc ini cc nL rt) (F : zFx tb ys) (hG : zGok G ρ L xs) (hch : zchI tb oc ini nL rt pc (.lookupswitch d ps) a1 a2 = true) (hd : decode cc pc = .ok ((.lookupswitch d ps), npc - pc)) 
    (hs0 : zstep G (.lookupswitch d ps) npc a1 a2 pc al ast sz h = some (.inl (pc', al', ast', h', dz, du))) (hA : zAt D cid ρ b n0 nL s al ast sz h ls st ws H locs) (hcells : cells + dz ≤ R.cells) (hslots : slots + du ≤ R.slots)
    (kk : ∀ (ws' : va_W) (H' : Heap) (locs' : List Loc) (ls' : Array Slot) (st' : List Value), zAt D cid ρ b n0 nL s al' ast' (sz + dz) h' ls' st' ws' H' locs' → (∃ xs, ws'.map Prod.fst = ws.map Prod.fst ++ xs) → W p l e R s m args below meth c H' locs' (cells + dz) (slots + du) Q (F0 m pc' ls' st')) : W p l e R s m args below meth c H locs cells slots Q (F0 m pc ls st) := by
  obtain ⟨hx, hb, hml, hown, hts, hKU, hini, hr, hlocks, hn0, hbn⟩ := C
  obtain ⟨a, r, rfl, hs1⟩ := z1_inv hs0
  unfold zlk at hs1
  split at hs1
  · obtain ⟨t, ht, hs2⟩ := ztgt_inv hs1
    cases hs2
    obtain ⟨⟨lv, hl, hL⟩, hS0, hP, hD, hSt, hW⟩ := hA
    obtain ⟨v1, w, rfl, g1, hS1⟩ := zS_cons hS0
    cases g1
    exact lv_lookup hx hb hd hch rfl ht (kk _ _ _ _ _ ⟨⟨lv, hl, hL⟩, hS1, hP, hD, hSt, hW⟩ zpre)
  · cases hs1

