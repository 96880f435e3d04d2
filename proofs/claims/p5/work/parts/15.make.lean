/-! ===== what makes cells ===== -/
theorem zI_pos {u : Nat} (h : u < 100000) : ¬ zI u < 0 ∧ (zI u).toNatClampNeg = u := by
  obtain ⟨h1, h2⟩ := zI_in (u := u) (n := u + 1) (by omega) (by omega)
  exact ⟨fun q => h1 (Or.inl q), h2⟩
theorem znew_inv {npc : Nat} {ls : zLs} {r : List zV} {sz : Nat} {h : zH} {c : zC} {o} (hh : znew npc ls r sz h c = some o) : sz < 1024 ∧ o = .inl (npc, ls, zr (sz + 2) :: r, zput h c sz, 1, c.2.1) := by
  obtain ⟨h1, h2⟩ := zwhen_inv hh
  rw [zset_eq, fN_eq] at h2
  exact ⟨zblt h1, (Option.some.inj h2).symm⟩
theorem zdf_ok {ρ : Nat → Int32} {b : Nat} {as : List Nat} {ty : FieldType} (h : zfo ty ≤ 3) : zg ρ b as (zdf (zfo ty)) (defaultValue ty) := by
  cases ty with
  | int => exact congrArg _ zI_0.symm
  | long => exact congrArg _ (show (0 : Int64) = zI6 0 by decide)
  | boolean => exact congrArg _ zI_0.symm
  | object C => rfl
  | array t => rfl
  | _ => exact absurd h (by decide)
theorem zpush_at {ws : va_W} {sz q : Nat} {e : va_E} (h : ws.length = sz) : ((ws ++ [(q, e)]).map Prod.fst)[sz]? = some q := by
  rw [List.getElem?_map, List.getElem?_append_right (by omega), show sz - ws.length = 0 by omega]
  rfl
theorem zpush_map {ws : va_W} {q : Nat} {e : va_E} : (ws ++ [(q, e)]).map Prod.fst = ws.map Prod.fst ++ [q] := by simp

set_option maxHeartbeats 2000000 in
theorem zs_new {p : Program} {l : Launch} {e : Env} {R : Room} {s : State} {m : MethodId} {args : Array Value} {below : List Frame} {meth : Method} {c : Code} {H : Heap} {locs : List Loc} {cells slots : Nat} {Q : State → Prop} {n0 : Nat} {D : va_G} {cid : Nat → ClassId} {ρ : Nat → Int32} {b L : Nat} {xs : Nat → Int32} {oc : Nat} {ini : Bool} {cc : ByteArray} {nL : Nat} {rt : Option FieldType} {tb : zTb} {ys : List MethodName} {G : zG} {pc npc a1 a2 : Nat} {al al' : zLs} {ast ast' : List zV} {sz dz du : Nat} {h h' : zH} {ls : Array Slot} {st : List Value} {ws : va_W} {pc' : Nat} {i : Nat}
    (C : zCx p s m args meth c n0 D cid b L xs oc ini cc nL rt) (F : zFx tb ys) (hG : zGok G ρ L xs) (hch : zchI tb oc ini nL rt pc (.new i) a1 a2 = true) (hd : decode cc pc = .ok ((.new i), zlen (.new i))) (hn : npc = pc + zlen (.new i))
    (hs0 : zstep G (.new i) npc a1 a2 pc al ast sz h = some (.inl (pc', al', ast', h', dz, du))) (hA : zAt D cid ρ b n0 nL s al ast sz h ls st ws H locs) (hcells : cells + dz ≤ R.cells) (hslots : slots + du ≤ R.slots)
    (kk : ∀ (ws' : va_W) (H' : Heap) (locs' : List Loc) (ls' : Array Slot) (st' : List Value), zAt D cid ρ b n0 nL s al' ast' (sz + dz) h' ls' st' ws' H' locs' → (∃ xs, ws'.map Prod.fst = ws.map Prod.fst ++ xs) → W p l e R s m args below meth c H' locs' (cells + dz) (slots + du) Q (F0 m pc' ls' st')) : W p l e R s m args below meth c H locs cells slots Q (F0 m pc ls st) := by
  obtain ⟨hx, hb, hml, hown, hts, hKU, hini, hr, hlocks, hn0, hbn⟩ := C
  subst hn
  obtain ⟨hsz, ho⟩ := znew_inv hs0
  cases ho
  obtain ⟨⟨lv, hl, hL⟩, hS0, hP, hD, hSt, hW⟩ := hA
  obtain ⟨⟨i2, c2⟩, hm, hc⟩ := List.any_eq_true.mp hch
  simp only [Bool.and_eq_true, beq_iff_eq] at hc
  obtain ⟨rfl, rfl⟩ := hc
  obtain ⟨C2, T, N, hcl, hlink⟩ := F.2.2.1 oc _ _ hm
  obtain ⟨hCn, hTd, hin, ⟨ty, hty, htd⟩, hnm, hinst, hinit, z1, z2, z3, d, z4, z5⟩ := F.2.1 _ _ _ _ hcl
  have hlen : ((List.range N).map (fun k => defaultValue (ty k))).length = N := by simp
  have hslots : slots + N ≤ R.slots := by
    have := hslots
    rw [z2] at this
    exact this
  refine va_new hx hb hts hin ty hty hown (hts _ hlink) (hts _ hinst) (hts _ hinit) hKU.1 hP hD hSt (fun q hq => Nat.le_trans hn0 hq) hcl (fs := (List.range N).map (fun k => defaultValue (ty k))) (fun j hj => by simp [vp_V, hj]) hcells hslots hd (fun q H1 hP1 hD1 hSn => ?_)
  have hXn : zX cid ρ b (ws.map Prod.fst ++ [q]) (zini c2) (.inr (c2, (List.range N).map (fun k => defaultValue (ty k)))) := by
    refine ⟨by rw [z2]; omega, Or.inl ⟨_, _, by rw [z1]; exact hcl, z2.symm, by rw [z1], by rw [hlen, z2], ⟨d, z4, by rw [z2]; exact z5⟩, fun j v hj => ?_⟩⟩
    have hjN : j < N := by
      have := (List.getElem?_eq_some_iff.mp hj).1
      rwa [hlen] at this
    rw [List.getElem?_map, List.getElem?_range hjN] at hj
    cases hj
    rw [(htd j hjN).2]
    exact zdf_ok (htd j hjN).1
  have hm2 : (ws ++ [((q, .inr (c2, (List.range N).map (fun k => defaultValue (ty k)))) : Nat × va_E)]).map Prod.fst = ws.map Prod.fst ++ [q] := zpush_map
  have kk2 := kk (ws ++ [((q, .inr (c2, (List.range N).map (fun k => defaultValue (ty k)))) : Nat × va_E)]) H1 locs ls (.ref q :: st) ⟨⟨lv, hl, by rw [hm2]; exact zLr_mono _ hL⟩, ⟨⟨q, zpush_at hW.1, rfl⟩, by rw [hm2]; exact zS_mono _ hS0⟩, hP1, hD1, hSn, zWd_push hW hsz hXn⟩ ⟨[q], hm2⟩
  rw [z2] at kk2
  exact kk2

theorem zRA_eq {s : State} {c1 c2 : ClassId} {ty : FieldType} (h1 : va_RA s c1 ty) (h2 : va_RA s c2 ty) : c1 = c2 := by
  cases ty with
  | object C =>
    obtain ⟨_, _, _, _, _, h1⟩ := h1
    obtain ⟨_, _, _, _, _, h2⟩ := h2
    exact Option.some.inj (h1.symm.trans h2)
  | _ => exact Option.some.inj ((show s.vm.findClass _ = some c1 from h1).symm.trans h2)
theorem zK_last {D : va_G} {cl : List vw_C} {tys : List (ClassId × FieldType)} {c : ClassId} {ty : FieldType} {s : State} (h : va_K D cl (tys ++ [(c, ty)]) s) : va_RA s c ty := (h.2 tys.length (c, ty) (by simp)).2
set_option maxHeartbeats 2000000 in
theorem zs_newarray_int {p : Program} {l : Launch} {e : Env} {R : Room} {s : State} {m : MethodId} {args : Array Value} {below : List Frame} {meth : Method} {c : Code} {H : Heap} {locs : List Loc} {cells slots : Nat} {Q : State → Prop} {n0 : Nat} {D : va_G} {cid : Nat → ClassId} {ρ : Nat → Int32} {b L : Nat} {xs : Nat → Int32} {oc : Nat} {ini : Bool} {cc : ByteArray} {nL : Nat} {rt : Option FieldType} {tb : zTb} {ys : List MethodName} {G : zG} {pc npc a1 a2 : Nat} {al al' : zLs} {ast ast' : List zV} {sz dz du : Nat} {h h' : zH} {ls : Array Slot} {st : List Value} {ws : va_W} {pc' : Nat} 
    (C : zCx p s m args meth c n0 D cid b L xs oc ini cc nL rt) (F : zFx tb ys) (hG : zGok G ρ L xs) (hch : zchI tb oc ini nL rt pc (.newarray .int) a1 a2 = true) (hd : decode cc pc = .ok ((.newarray .int), zlen (.newarray .int))) (hn : npc = pc + zlen (.newarray .int))
    (hs0 : zstep G (.newarray .int) npc a1 a2 pc al ast sz h = some (.inl (pc', al', ast', h', dz, du))) (hA : zAt D cid ρ b n0 nL s al ast sz h ls st ws H locs) (hcells : cells + dz ≤ R.cells) (hslots : slots + du ≤ R.slots)
    (kk : ∀ (ws' : va_W) (H' : Heap) (locs' : List Loc) (ls' : Array Slot) (st' : List Value), zAt D cid ρ b n0 nL s al' ast' (sz + dz) h' ls' st' ws' H' locs' → (∃ xs, ws'.map Prod.fst = ws.map Prod.fst ++ xs) → W p l e R s m args below meth c H' locs' (cells + dz) (slots + du) Q (F0 m pc' ls' st')) : W p l e R s m args below meth c H locs cells slots Q (F0 m pc ls st) := by
  obtain ⟨hx, hb, hml, hown, hts, hKU, hini, hr, hlocks, hn0, hbn⟩ := C
  subst hn
  obtain ⟨a, r, rfl, hs1⟩ := z1_inv hs0
  obtain ⟨u, rfl, hs2⟩ := zint1_inv hs1
  obtain ⟨hu, hs3⟩ := zwhen_inv hs2
  obtain ⟨hsz, ho⟩ := znew_inv hs3
  cases ho
  have hu : u < 100000 := zblt hu
  obtain ⟨⟨lv, hl, hL⟩, hS0, hP, hD, hSt, hW⟩ := hA
  obtain ⟨v, w, rfl, hv, hS1⟩ := zS_cons hS0
  cases hv
  obtain ⟨hp0, hp1⟩ := zI_pos hu
  have hcb : u * componentBytes .int ≤ 536870912 := by
    have h4 : componentBytes .int ≤ 4 := by decide
    have := Nat.mul_le_mul_left u h4
    omega
  refine va_newa (atype := .int) hx hb (hts _ F.2.2.2.2.2.2.2.1.1) (ty := .int) rfl hKU.1 hP hD hSt (fun q hq => Nat.le_trans hn0 hq) (a0 := (u, .inl (fun _ => 0))) (fun _ => rfl) hp0 hp1 hcb hcells hslots hd (fun q cA H1 hK1 hP1 hD1 hSn => ?_)
  cases zRA_eq (zK_last hK1) ((hKU.1.2 0 _ rfl).2 : va_RA s (cid 16) .int)
  have hm2 : (ws ++ [((q, .inl (cid 16, u, .inl (fun _ => 0))) : Nat × va_E)]).map Prod.fst = ws.map Prod.fst ++ [q] := zpush_map
  exact kk _ _ _ _ _ ⟨⟨lv, hl, by rw [hm2]; exact zLr_mono _ hL⟩, ⟨⟨q, zpush_at hW.1, rfl⟩, by rw [hm2]; exact zS_mono _ hS1⟩, hP1, hD1, hSn, zWd_push hW hsz (zX_newI (show 16 ≤ 16 ∧ 16 ≤ 18 from ⟨by decide, by decide⟩) (by omega))⟩ ⟨[q], hm2⟩

set_option maxHeartbeats 2000000 in
theorem zs_newarray_byte {p : Program} {l : Launch} {e : Env} {R : Room} {s : State} {m : MethodId} {args : Array Value} {below : List Frame} {meth : Method} {c : Code} {H : Heap} {locs : List Loc} {cells slots : Nat} {Q : State → Prop} {n0 : Nat} {D : va_G} {cid : Nat → ClassId} {ρ : Nat → Int32} {b L : Nat} {xs : Nat → Int32} {oc : Nat} {ini : Bool} {cc : ByteArray} {nL : Nat} {rt : Option FieldType} {tb : zTb} {ys : List MethodName} {G : zG} {pc npc a1 a2 : Nat} {al al' : zLs} {ast ast' : List zV} {sz dz du : Nat} {h h' : zH} {ls : Array Slot} {st : List Value} {ws : va_W} {pc' : Nat} 
    (C : zCx p s m args meth c n0 D cid b L xs oc ini cc nL rt) (F : zFx tb ys) (hG : zGok G ρ L xs) (hch : zchI tb oc ini nL rt pc (.newarray .byte) a1 a2 = true) (hd : decode cc pc = .ok ((.newarray .byte), zlen (.newarray .byte))) (hn : npc = pc + zlen (.newarray .byte))
    (hs0 : zstep G (.newarray .byte) npc a1 a2 pc al ast sz h = some (.inl (pc', al', ast', h', dz, du))) (hA : zAt D cid ρ b n0 nL s al ast sz h ls st ws H locs) (hcells : cells + dz ≤ R.cells) (hslots : slots + du ≤ R.slots)
    (kk : ∀ (ws' : va_W) (H' : Heap) (locs' : List Loc) (ls' : Array Slot) (st' : List Value), zAt D cid ρ b n0 nL s al' ast' (sz + dz) h' ls' st' ws' H' locs' → (∃ xs, ws'.map Prod.fst = ws.map Prod.fst ++ xs) → W p l e R s m args below meth c H' locs' (cells + dz) (slots + du) Q (F0 m pc' ls' st')) : W p l e R s m args below meth c H locs cells slots Q (F0 m pc ls st) := by
  obtain ⟨hx, hb, hml, hown, hts, hKU, hini, hr, hlocks, hn0, hbn⟩ := C
  subst hn
  obtain ⟨a, r, rfl, hs1⟩ := z1_inv hs0
  obtain ⟨u, rfl, hs2⟩ := zint1_inv hs1
  obtain ⟨hu, hs3⟩ := zwhen_inv hs2
  obtain ⟨hsz, ho⟩ := znew_inv hs3
  cases ho
  have hu : u < 100000 := zblt hu
  obtain ⟨⟨lv, hl, hL⟩, hS0, hP, hD, hSt, hW⟩ := hA
  obtain ⟨v, w, rfl, hv, hS1⟩ := zS_cons hS0
  cases hv
  obtain ⟨hp0, hp1⟩ := zI_pos hu
  have hcb : u * componentBytes .byte ≤ 536870912 := by
    have h4 : componentBytes .byte ≤ 4 := by decide
    have := Nat.mul_le_mul_left u h4
    omega
  refine va_newa (atype := .byte) hx hb (hts _ F.2.2.2.2.2.2.2.1.2.1) (ty := .byte) rfl hKU.1 hP hD hSt (fun q hq => Nat.le_trans hn0 hq) (a0 := (u, .inl (fun _ => 0))) (fun _ => rfl) hp0 hp1 hcb hcells hslots hd (fun q cA H1 hK1 hP1 hD1 hSn => ?_)
  cases zRA_eq (zK_last hK1) ((hKU.1.2 1 _ rfl).2 : va_RA s (cid 17) .byte)
  have hm2 : (ws ++ [((q, .inl (cid 17, u, .inl (fun _ => 0))) : Nat × va_E)]).map Prod.fst = ws.map Prod.fst ++ [q] := zpush_map
  exact kk _ _ _ _ _ ⟨⟨lv, hl, by rw [hm2]; exact zLr_mono _ hL⟩, ⟨⟨q, zpush_at hW.1, rfl⟩, by rw [hm2]; exact zS_mono _ hS1⟩, hP1, hD1, hSn, zWd_push hW hsz (zX_newI (show 16 ≤ 17 ∧ 17 ≤ 18 from ⟨by decide, by decide⟩) (by omega))⟩ ⟨[q], hm2⟩

set_option maxHeartbeats 2000000 in
theorem zs_newarray_boolean {p : Program} {l : Launch} {e : Env} {R : Room} {s : State} {m : MethodId} {args : Array Value} {below : List Frame} {meth : Method} {c : Code} {H : Heap} {locs : List Loc} {cells slots : Nat} {Q : State → Prop} {n0 : Nat} {D : va_G} {cid : Nat → ClassId} {ρ : Nat → Int32} {b L : Nat} {xs : Nat → Int32} {oc : Nat} {ini : Bool} {cc : ByteArray} {nL : Nat} {rt : Option FieldType} {tb : zTb} {ys : List MethodName} {G : zG} {pc npc a1 a2 : Nat} {al al' : zLs} {ast ast' : List zV} {sz dz du : Nat} {h h' : zH} {ls : Array Slot} {st : List Value} {ws : va_W} {pc' : Nat} 
    (C : zCx p s m args meth c n0 D cid b L xs oc ini cc nL rt) (F : zFx tb ys) (hG : zGok G ρ L xs) (hch : zchI tb oc ini nL rt pc (.newarray .boolean) a1 a2 = true) (hd : decode cc pc = .ok ((.newarray .boolean), zlen (.newarray .boolean))) (hn : npc = pc + zlen (.newarray .boolean))
    (hs0 : zstep G (.newarray .boolean) npc a1 a2 pc al ast sz h = some (.inl (pc', al', ast', h', dz, du))) (hA : zAt D cid ρ b n0 nL s al ast sz h ls st ws H locs) (hcells : cells + dz ≤ R.cells) (hslots : slots + du ≤ R.slots)
    (kk : ∀ (ws' : va_W) (H' : Heap) (locs' : List Loc) (ls' : Array Slot) (st' : List Value), zAt D cid ρ b n0 nL s al' ast' (sz + dz) h' ls' st' ws' H' locs' → (∃ xs, ws'.map Prod.fst = ws.map Prod.fst ++ xs) → W p l e R s m args below meth c H' locs' (cells + dz) (slots + du) Q (F0 m pc' ls' st')) : W p l e R s m args below meth c H locs cells slots Q (F0 m pc ls st) := by
  obtain ⟨hx, hb, hml, hown, hts, hKU, hini, hr, hlocks, hn0, hbn⟩ := C
  subst hn
  obtain ⟨a, r, rfl, hs1⟩ := z1_inv hs0
  obtain ⟨u, rfl, hs2⟩ := zint1_inv hs1
  obtain ⟨hu, hs3⟩ := zwhen_inv hs2
  obtain ⟨hsz, ho⟩ := znew_inv hs3
  cases ho
  have hu : u < 100000 := zblt hu
  obtain ⟨⟨lv, hl, hL⟩, hS0, hP, hD, hSt, hW⟩ := hA
  obtain ⟨v, w, rfl, hv, hS1⟩ := zS_cons hS0
  cases hv
  obtain ⟨hp0, hp1⟩ := zI_pos hu
  have hcb : u * componentBytes .boolean ≤ 536870912 := by
    have h4 : componentBytes .boolean ≤ 4 := by decide
    have := Nat.mul_le_mul_left u h4
    omega
  refine va_newa (atype := .boolean) hx hb (hts _ F.2.2.2.2.2.2.2.1.2.2.1) (ty := .boolean) rfl hKU.1 hP hD hSt (fun q hq => Nat.le_trans hn0 hq) (a0 := (u, .inl (fun _ => 0))) (fun _ => rfl) hp0 hp1 hcb hcells hslots hd (fun q cA H1 hK1 hP1 hD1 hSn => ?_)
  cases zRA_eq (zK_last hK1) ((hKU.1.2 2 _ rfl).2 : va_RA s (cid 18) .boolean)
  have hm2 : (ws ++ [((q, .inl (cid 18, u, .inl (fun _ => 0))) : Nat × va_E)]).map Prod.fst = ws.map Prod.fst ++ [q] := zpush_map
  exact kk _ _ _ _ _ ⟨⟨lv, hl, by rw [hm2]; exact zLr_mono _ hL⟩, ⟨⟨q, zpush_at hW.1, rfl⟩, by rw [hm2]; exact zS_mono _ hS1⟩, hP1, hD1, hSn, zWd_push hW hsz (zX_newI (show 16 ≤ 18 ∧ 18 ≤ 18 from ⟨by decide, by decide⟩) (by omega))⟩ ⟨[q], hm2⟩

set_option maxHeartbeats 2000000 in
theorem zs_anewarray {p : Program} {l : Launch} {e : Env} {R : Room} {s : State} {m : MethodId} {args : Array Value} {below : List Frame} {meth : Method} {c : Code} {H : Heap} {locs : List Loc} {cells slots : Nat} {Q : State → Prop} {n0 : Nat} {D : va_G} {cid : Nat → ClassId} {ρ : Nat → Int32} {b L : Nat} {xs : Nat → Int32} {oc : Nat} {ini : Bool} {cc : ByteArray} {nL : Nat} {rt : Option FieldType} {tb : zTb} {ys : List MethodName} {G : zG} {pc npc a1 a2 : Nat} {al al' : zLs} {ast ast' : List zV} {sz dz du : Nat} {h h' : zH} {ls : Array Slot} {st : List Value} {ws : va_W} {pc' : Nat} {i : Nat}
    (C : zCx p s m args meth c n0 D cid b L xs oc ini cc nL rt) (F : zFx tb ys) (hG : zGok G ρ L xs) (hch : zchI tb oc ini nL rt pc (.anewarray i) a1 a2 = true) (hd : decode cc pc = .ok ((.anewarray i), zlen (.anewarray i))) (hn : npc = pc + zlen (.anewarray i))
    (hs0 : zstep G (.anewarray i) npc a1 a2 pc al ast sz h = some (.inl (pc', al', ast', h', dz, du))) (hA : zAt D cid ρ b n0 nL s al ast sz h ls st ws H locs) (hcells : cells + dz ≤ R.cells) (hslots : slots + du ≤ R.slots)
    (kk : ∀ (ws' : va_W) (H' : Heap) (locs' : List Loc) (ls' : Array Slot) (st' : List Value), zAt D cid ρ b n0 nL s al' ast' (sz + dz) h' ls' st' ws' H' locs' → (∃ xs, ws'.map Prod.fst = ws.map Prod.fst ++ xs) → W p l e R s m args below meth c H' locs' (cells + dz) (slots + du) Q (F0 m pc' ls' st')) : W p l e R s m args below meth c H locs cells slots Q (F0 m pc ls st) := by
  obtain ⟨hx, hb, hml, hown, hts, hKU, hini, hr, hlocks, hn0, hbn⟩ := C
  subst hn
  obtain ⟨a, r, rfl, hs1⟩ := z1_inv hs0
  obtain ⟨u, rfl, hs2⟩ := zint1_inv hs1
  obtain ⟨hu, hs3⟩ := zwhen_inv hs2
  obtain ⟨hsz, ho⟩ := znew_inv hs3
  cases ho
  have hu : u < 100000 := zblt hu
  obtain ⟨⟨lv, hl, hL⟩, hS0, hP, hD, hSt, hW⟩ := hA
  obtain ⟨v, w, rfl, hv, hS1⟩ := zS_cons hS0
  cases hv
  obtain ⟨⟨i2, c2⟩, hm, hc⟩ := List.any_eq_true.mp hch
  simp only [Bool.and_eq_true, beq_iff_eq] at hc
  obtain ⟨rfl, rfl⟩ := hc
  obtain ⟨hk, hlink, hao⟩ := F.2.2.2.1 oc _ _ hm
  obtain ⟨hp0, hp1⟩ := zI_pos hu
  refine va_newq hx hb hown (hts _ hlink) (hKU.2.2.1 _ hao) hKU.1 hP hD hSt (fun q hq => Nat.le_trans hn0 hq) hp0 hp1 (by omega) hcells hslots hd (fun q cA H1 hK1 hP1 hD1 hSn => ?_)
  cases zRA_eq (zK_last hK1) (hKU.1.2 _ _ (ztys_obj (cid := cid) hk)).2
  have hm2 : (ws ++ [((q, .inl (cid c2, u, .inr (.inr (.inr (.inr (fun _ => none)))))) : Nat × va_E)]).map Prod.fst = ws.map Prod.fst ++ [q] := zpush_map
  exact kk _ _ _ _ _ ⟨⟨lv, hl, by rw [hm2]; exact zLr_mono _ hL⟩, ⟨⟨q, zpush_at hW.1, rfl⟩, by rw [hm2]; exact zS_mono _ hS1⟩, hP1, hD1, hSn, zWd_push hW hsz (zX_newR (by omega) (by omega))⟩ ⟨[q], hm2⟩

theorem zfillH_eq {β : Type} (c : zC) : ∀ (n i : Nat) (h : zH) (k : zH → β), ∃ h', zfillH c n i h k = k h' ∧ ∀ d, zfull d 0 h → i + n ≤ 2 ^ d → zfull d 0 h' ∧ ∀ j, j < 2 ^ d → zget h' j = if i ≤ j ∧ j < i + n then c else zget h j
  | 0, i, h, k => ⟨h, rfl, fun d hf _ => ⟨hf, fun j _ => by rw [if_neg (by omega)]⟩⟩
  | n + 1, i, h, k => by
    obtain ⟨h', e, hp⟩ := zfillH_eq c n (i + 1) (zput h c i) k
    refine ⟨h', ?_, fun d hf hd => ?_⟩
    · show zset h c i (fun h' => fN (Nat.succ i) (fun i' => zfillH c n i' h' k)) = _
      rw [zset_eq, fN_eq]
      exact e
    · obtain ⟨q1, q2⟩ := hp d (zput_full _ _ _ _ _ hf) (by omega)
      refine ⟨q1, fun j hj => ?_⟩
      rw [q2 j hj, zget_zput c i j d 0 h hf (Nat.zero_le _) (by omega) (Nat.zero_le _) (by omega)]
      by_cases e1 : j = i
      · rw [if_neg (by omega), if_pos e1, if_pos (by omega)]
      · rw [if_neg e1]
        by_cases e2 : i + 1 ≤ j ∧ j < i + 1 + n
        · rw [if_pos e2, if_pos (by omega)]
        · rw [if_neg e2, if_neg (by omega)]
theorem zfillR_eq {β : Type} : ∀ (n i r : Nat) (t : zT zV) (k : zT zV → β), ∃ t', zfillR n i r t k = k t' ∧ ∀ d, zfull d 0 t → i + n ≤ 2 ^ d → zfull d 0 t' ∧ ∀ j, j < 2 ^ d → zget t' j = if i ≤ j ∧ j < i + n then zr (r + (j - i)) else zget t j
  | 0, i, r, t, k => ⟨t, rfl, fun d hf _ => ⟨hf, fun j _ => by rw [if_neg (by omega)]⟩⟩
  | n + 1, i, r, t, k => by
    obtain ⟨t', e, hp⟩ := zfillR_eq n (i + 1) (r + 1) (zput t (zr r) i) k
    refine ⟨t', ?_, fun d hf hd => ?_⟩
    · show zset t (zr r) i (fun t' => fN (Nat.succ i) (fun i' => fN (Nat.succ r) (fun r' => zfillR n i' r' t' k))) = _
      rw [zset_eq, fN_eq, fN_eq]
      exact e
    · obtain ⟨q1, q2⟩ := hp d (zput_full _ _ _ _ _ hf) (by omega)
      refine ⟨q1, fun j hj => ?_⟩
      rw [q2 j hj, zget_zput (zr r) i j d 0 t hf (Nat.zero_le _) (by omega) (Nat.zero_le _) (by omega)]
      by_cases e1 : j = i
      · rw [if_neg (by omega), if_pos e1, if_pos (by omega), e1, Nat.sub_self, Nat.add_zero]
      · rw [if_neg e1]
        by_cases e2 : i + 1 ≤ j ∧ j < i + 1 + n
        · rw [if_pos e2, if_pos (by omega)]
          rw [show r + 1 + (j - (i + 1)) = r + (j - i) by omega]
        · rw [if_neg e2, if_neg (by omega)]
theorem zouter (c : ClassId) (N h0 : Nat) : ∀ i : Nat, Jvm.Free.Multi.outerC c N h0 i = arrV c N (fun j => va_rf (if j < i then some (h0 + 1 + j) else none))
  | 0 => by
    show ({ cls := c, slots := Array.replicate N .null, vm := .none } : Cell) = _
    rw [arrV_new]
    refine congrArg (arrV c N) (funext fun j => ?_)
    simp [va_rf]
  | i + 1 => by
    show (Jvm.Free.Multi.outerC c N h0 i).setSlot i (.ref (h0 + 1 + i)) = _
    rw [zouter c N h0 i, arrV_store]
    refine congrArg (arrV c N) (funext fun j => ?_)
    by_cases e : j = i
    · subst e
      simp [updV, va_rf]
    · by_cases h : j < i
      · simp [updV, e, h, Nat.lt_succ_of_lt h]
      · simp [updV, e, h, show ¬ j < i + 1 by omega]
/-- the cells of new int[N][K], from the address a on -/
def zrows (a : Nat) (cA comp : ClassId) (N K : Nat) : va_W := (a, .inl (cA, N, .inr (.inr (.inr (.inr (fun i => if i < N then some (a + 1 + i) else none)))))) :: (List.range N).map (fun i => (a + 1 + i, .inl (comp, K, .inl (fun _ => 0))))
theorem zrows_len (a : Nat) (cA comp : ClassId) (N K : Nat) : (zrows a cA comp N K).length = N + 1 := by simp [zrows]
theorem zrows_at {a : Nat} {cA comp : ClassId} {N K k : Nat} {q : Nat × va_E} (h : (zrows a cA comp N K)[k]? = some q) : k ≤ N ∧ q.1 = a + k ∧ ((k = 0 ∧ q.2 = .inl (cA, N, .inr (.inr (.inr (.inr (fun i => if i < N then some (a + 1 + i) else none)))))) ∨ (0 < k ∧ q.2 = .inl (comp, K, .inl (fun _ => 0)))) := by
  match k, h with
  | 0, h =>
    cases h
    exact ⟨Nat.zero_le _, rfl, Or.inl ⟨rfl, rfl⟩⟩
  | k + 1, h =>
    have h' : ((List.range N).map (fun i => (a + 1 + i, (.inl (comp, K, .inl (fun _ => 0)) : va_E))))[k]? = some q := h
    rw [List.getElem?_map] at h'
    have hk : k < N := by
      by_cases hk : k < N
      · exact hk
      · rw [List.getElem?_eq_none (by simp; omega)] at h'
        cases h'
    rw [List.getElem?_range hk] at h'
    cases h'
    exact ⟨hk, by show a + 1 + k = _; omega, Or.inr ⟨Nat.succ_pos _, rfl⟩⟩
set_option maxHeartbeats 2000000 in
theorem zmnaW {p : Program} {l : Launch} {e : Env} {R : Room} {s : State} {m : MethodId} {args : Array Value} {below : List Frame} {meth : Method} {c : Code} {H : Heap} {locs : List Loc} {cells slots : Nat} {Q : State → Prop} {cc : ByteArray} {pc : Nat} {ls : Array Slot} {rest : List Value} {D : va_G} {cl : List vw_C} {A : Nat → Prop} {ws : va_W} {H0 : Heap} (hexec : p.tables.exec = Jvm.exec) (hb : c.code = cc) {own : String} {index : Nat} (hown : s.vm.findClass own = some m.cls) (hclink : (Cond.classLink own index ("[" ++ (FieldType.array .int).toString)).before args s = true) (hover : (Cond.arrayOver (.array .int)).before args s = true) (harr : (Cond.arrayClass .int).before args s = true)
    (hP : va_P D cl ws H) (hD : va_D A ws) (hS : va_S A H0 H locs) (hA : ∀ q, H0.size ≤ q → A q) {n k : Int32} {N K : Nat} (hn : ¬ n < 0) (hk : ¬ k < 0) (hN : n.toNatClampNeg = N) (hM : k.toNatClampNeg = K) (hb1 : N ≤ 100000) (hb2 : K ≤ 100000) (hcells : cells + (1 + N) ≤ R.cells) (hslots : slots + (N + N * K) ≤ R.slots) (hdg : decode cc pc = .ok (.multianewarray index 2, 4))
    (kk : ∀ (cA comp : ClassId) (H1 : Heap), s.vm.findClass ("[" ++ (FieldType.array .int).toString) = some cA → s.vm.findClass (FieldType.array .int).toString = some comp → va_P D cl (ws ++ zrows H.size cA comp N K) H1 → va_D A (ws ++ zrows H.size cA comp N K) → va_S A H0 H1 locs →
      W p l e R s m args below meth c H1 locs (cells + 1 + N) (slots + N + N * K) Q (F0 m (pc + 4) ls (.ref H.size :: rest))) : W p l e R s m args below meth c H locs cells slots Q (F0 m pc ls (.int k :: .int n :: rest)) := by
  subst hN
  subst hM
  intro T hT Xs
  obtain ⟨vm₁, cA, comp, -, fA, fC, hO, -, X', step⟩ := Xs.multianewarray2F hexec hown hclink hover harr (g := F0 m pc ls (.int k :: .int n :: rest)) rfl (by rw [hb]; exact hdg) rfl hn hk (by omega) (by show k.toNatClampNeg * 4 ≤ 536870912; omega) (by omega) rfl rfl hcells hslots
  generalize hF : Jvm.Free.Multi.fill (T.setVm vm₁) cA comp n.toNatClampNeg k.toNatClampNeg (defaultValue .int) n.toNatClampNeg = F at X' step
  have hTh : (T.setVm vm₁).heap = H := hT
  obtain ⟨f1, f2, -, -⟩ := Jvm.Free.Multi.fill_facts (T.setVm vm₁) cA comp n.toNatClampNeg k.toNatClampNeg (defaultValue .int) n.toNatClampNeg
  rw [hF, hTh] at f1 f2
  have hold : ∀ x : Nat, x < H.size → F.heap[x]? = H[x]? := fun x hx => by
    have := Jvm.Free.Multi.fill_old (T.setVm vm₁) cA comp n.toNatClampNeg k.toNatClampNeg (defaultValue .int) (a := x) (by rw [hTh]; exact hx) n.toNatClampNeg
    rw [hF, hTh] at this
    exact this
  have hz : Jvm.Free.Multi.innerC comp k.toNatClampNeg (defaultValue .int) = vp_cell comp (k.toNatClampNeg, .inl (fun _ => 0)) := by
    rw [vp_cell_i]
    show ({ cls := comp, slots := Array.replicate k.toNatClampNeg (.int 0), vm := .none } : Cell) = _
    rw [arrV_new]
  have hrow : ∀ j : Nat, j < n.toNatClampNeg → F.heap[H.size + 1 + j]? = some (vp_cell comp (k.toNatClampNeg, .inl (fun _ => 0))) := fun j hj => by
    have := Jvm.Free.Multi.fill_inner (T.setVm vm₁) cA comp n.toNatClampNeg k.toNatClampNeg (defaultValue .int) n.toNatClampNeg j hj
    rw [hF, hTh, hz] at this
    exact this
  have hout : Jvm.Free.Multi.outerC cA n.toNatClampNeg H.size n.toNatClampNeg = vp_cell cA (n.toNatClampNeg, .inr (.inr (.inr (.inr (fun i => if i < n.toNatClampNeg then some (H.size + 1 + i) else none))))) := by
    rw [vp_cell_q]
    exact zouter cA n.toNatClampNeg H.size n.toNatClampNeg
  rw [hout] at f2
  have hP0 : va_P D cl ws F.heap := hP.kept (fun k9 x hx => hold x.1 ((hP k9 x hx).lt))
  have hP2 : va_P D cl (ws ++ zrows H.size cA comp n.toNatClampNeg k.toNatClampNeg) F.heap := hP0.app (fun k9 x hx => by
    obtain ⟨h1, h2, h3⟩ := zrows_at hx
    obtain ⟨x1, x2⟩ := x
    have h2 : x1 = H.size + k9 := h2
    rcases h3 with ⟨h3, h4⟩ | ⟨h3, h4⟩
    · have h4 : x2 = _ := h4
      subst h4
      subst h2
      subst h3
      exact f2
    · have h4 : x2 = _ := h4
      subst h4
      subst h2
      have := hrow (k9 - 1) (by omega)
      rw [show H.size + 1 + (k9 - 1) = H.size + k9 by omega] at this
      exact this)
  have hD2 : va_D A (ws ++ zrows H.size cA comp n.toNatClampNeg k.toNatClampNeg) := va_D.app hD ⟨fun i j x y hi hj hxy => by
    have h1 := (zrows_at hi).2.1
    have h2 := (zrows_at hj).2.1
    omega, fun k9 x hx => by
    rw [(zrows_at hx).2.1]
    exact hA _ (by have := hS.1; omega)⟩ (fun i j x y hi hj hxy => by
    have h1 := (hP i x hi).lt
    have h2 := (zrows_at hj).2.1
    omega)
  obtain ⟨t, a1, b1⟩ := kk cA comp F.heap fA fC hP2 hD2 ⟨by rw [f1]; have := hS.1; omega, fun x h1 h2 => (hold x (Nat.lt_of_lt_of_le h1 hS.1)).trans (hS.2.1 x h1 h2), hS.2.2⟩ F rfl X'
  refine ⟨t, step t ?_, b1⟩
  have e : T.heap.size = H.size := by rw [hT]
  rw [e]
  exact a1
theorem zWd_app {cid : Nat → ClassId} {ρ : Nat → Int32} {b sz : Nat} {h h2 : zH} {ws xs : va_W} (hw : zWd cid ρ b sz h ws) (hs : sz + xs.length ≤ 1024) (hf : zfull zdep 0 h2) (h1 : ∀ i, i < sz → zget h2 i = zget h i) (hx : ∀ (i q : Nat) (e : va_E), xs[i]? = some (q, e) → zX cid ρ b (ws.map Prod.fst ++ xs.map Prod.fst) (zget h2 (sz + i)) e) : zWd cid ρ b (sz + xs.length) h2 (ws ++ xs) := by
  obtain ⟨g1, g2, g3, g4⟩ := hw
  refine ⟨by simp [g1], hf, hs, fun i q e hi => ?_⟩
  rw [List.map_append]
  by_cases hl : i < sz
  · rw [List.getElem?_append_left (by omega)] at hi
    rw [h1 i hl]
    exact zX_mono _ (g4 i q e hi)
  · rw [List.getElem?_append_right (by omega), g1] at hi
    have := hx (i - sz) q e hi
    rw [show sz + (i - sz) = i by omega] at this
    exact this
set_option maxHeartbeats 2000000 in
theorem zs_multianewarray {p : Program} {l : Launch} {e : Env} {R : Room} {s : State} {m : MethodId} {args : Array Value} {below : List Frame} {meth : Method} {c : Code} {H : Heap} {locs : List Loc} {cells slots : Nat} {Q : State → Prop} {n0 : Nat} {D : va_G} {cid : Nat → ClassId} {ρ : Nat → Int32} {b L : Nat} {xs : Nat → Int32} {oc : Nat} {ini : Bool} {cc : ByteArray} {nL : Nat} {rt : Option FieldType} {tb : zTb} {ys : List MethodName} {G : zG} {pc npc a1 a2 : Nat} {al al' : zLs} {ast ast' : List zV} {sz dz du : Nat} {h h' : zH} {ls : Array Slot} {st : List Value} {ws : va_W} {pc' : Nat} {i : Nat}
    (C : zCx p s m args meth c n0 D cid b L xs oc ini cc nL rt) (F : zFx tb ys) (hG : zGok G ρ L xs) (hch : zchI tb oc ini nL rt pc (.multianewarray i 2) a1 a2 = true) (hd : decode cc pc = .ok ((.multianewarray i 2), zlen (.multianewarray i 2))) (hn : npc = pc + zlen (.multianewarray i 2))
    (hs0 : zstep G (.multianewarray i 2) npc a1 a2 pc al ast sz h = some (.inl (pc', al', ast', h', dz, du))) (hA : zAt D cid ρ b n0 nL s al ast sz h ls st ws H locs) (hcells : cells + dz ≤ R.cells) (hslots : slots + du ≤ R.slots)
    (kk : ∀ (ws' : va_W) (H' : Heap) (locs' : List Loc) (ls' : Array Slot) (st' : List Value), zAt D cid ρ b n0 nL s al' ast' (sz + dz) h' ls' st' ws' H' locs' → (∃ xs, ws'.map Prod.fst = ws.map Prod.fst ++ xs) → W p l e R s m args below meth c H' locs' (cells + dz) (slots + du) Q (F0 m pc' ls' st')) : W p l e R s m args below meth c H locs cells slots Q (F0 m pc ls st) := by
  obtain ⟨hx, hb, hml, hown, hts, hKU, hini, hr, hlocks, hn0, hbn⟩ := C
  subst hn
  obtain ⟨a, d, r, rfl, hs1⟩ := z2_inv hs0
  obtain ⟨u, rfl, hs2⟩ := zint1_inv hs1
  obtain ⟨w0, rfl, hs3⟩ := zint1_inv hs2
  obtain ⟨hu, hs4⟩ := zwhen_inv hs3
  rw [Bool.and_eq_true, Bool.and_eq_true] at hu
  obtain ⟨⟨hu1, hu2⟩, hu3⟩ := hu
  have hu1 : u < 1000 := zblt hu1
  have hu2 : w0 < 1000 := zblt hu2
  have hu3 : sz + u < 1024 := zblt hu3
  obtain ⟨t2, ht2, hp2⟩ := zfillR_eq (β := zO) u 0 (sz + 3) (zrep (zr 0) (Nat.succ (Nat.log2 u)) 0) (fun t => zset h (nat_lit 19, u, nat_lit 0, t) sz (fun h1 => zfillH (nat_lit 16, w0, nat_lit 0, .leaf (zr 0)) u (Nat.succ sz) h1 (fun h2 => fN (Nat.succ (Nat.succ sz)) (fun q => some (.inl (pc + zlen (.multianewarray i 2), al, zr q :: r, h2, Nat.succ u, Nat.add u (Nat.mul u w0)))))))
  have hs9 := ht2.symm.trans hs4
  rw [zset_eq] at hs9
  obtain ⟨h3, hh3, hp3⟩ := zfillH_eq (β := zO) (16, w0, 0, .leaf (zr 0)) u (Nat.succ sz) (zput h (19, u, 0, t2) sz) (fun h2 => fN (Nat.succ (Nat.succ sz)) (fun q => some (.inl (pc + zlen (.multianewarray i 2), al, zr q :: r, h2, Nat.succ u, Nat.add u (Nat.mul u w0)))))
  have hs8 := hh3.symm.trans hs9
  rw [fN_eq] at hs8
  cases hs8
  obtain ⟨⟨lv, hl, hL⟩, hS0, hP, hD, hSt, hW⟩ := hA
  obtain ⟨v2, w, rfl, g2, hS1⟩ := zS_cons hS0
  obtain ⟨v1, w, rfl, g1, hS2⟩ := zS_cons hS1
  cases g2
  cases g1
  have hm : i ∈ tb.mm oc := by
    obtain ⟨q, h1, h2⟩ := List.any_eq_true.mp hch
    rw [beq_iff_eq] at h2
    exact h2 ▸ h1
  obtain ⟨hp0, hp1⟩ := zI_pos (u := u) (by omega)
  obtain ⟨hq0, hq1⟩ := zI_pos (u := w0) (by omega)
  have hmul : Nat.add u (Nat.mul u w0) = u + u * w0 := rfl
  refine zmnaW hx hb hown (hts _ (F.2.2.2.2.1 oc _ hm)) (hKU.2.2.2.1 _ F.2.2.2.2.2.2.2.1.2.2.2) (hts _ F.2.2.2.2.2.2.2.1.1) hP hD hSt (fun q hq => Nat.le_trans hn0 hq) hp0 hq0 hp1 hq1 (by omega) (by omega) (by have : cells + (u + 1) ≤ R.cells := hcells; omega) hslots hd (fun cA comp H1 fA fC hP1 hD1 hSn => ?_)
  cases zRA_eq (show va_RA s comp .int from fC) ((hKU.1.2 0 _ rfl).2 : va_RA s (cid 16) .int)
  cases zRA_eq (show va_RA s cA (.array .int) from fA) ((hKU.1.2 3 _ rfl).2 : va_RA s (cid 19) (.array .int))
  have hlen := zrows_len H.size (cid 19) (cid 16) u w0
  have hfh : zfull zdep 0 h := hW.2.1
  obtain ⟨q1, q2⟩ := hp3 zdep (zput_full _ _ _ _ _ hfh) (show Nat.succ sz + u ≤ 1024 by omega)
  have hgt : ∀ j, j < 1024 → zget h' j = if Nat.succ sz ≤ j ∧ j < Nat.succ sz + u then (16, w0, 0, .leaf (zr 0)) else if j = sz then (19, u, 0, t2) else zget h j := fun j hj => by
    rw [q2 j hj, zget_zput (19, u, 0, t2) sz j zdep 0 h hfh (Nat.zero_le _) (show sz < 0 + 1024 by omega) (Nat.zero_le _) (show j < 0 + 1024 by omega)]
  have hlog : u ≤ 2 ^ Nat.succ (Nat.log2 u) := Nat.le_of_lt Nat.lt_log2_self
  obtain ⟨q3, q4⟩ := hp2 _ (zrep_full _ _ _) (by omega)
  have has : ∀ j, j ≤ u → (ws.map Prod.fst ++ (zrows H.size (cid 19) (cid 16) u w0).map Prod.fst)[sz + j]? = some (H.size + j) := fun j hj => by
    rw [List.getElem?_append_right (by simp [hW.1]), List.length_map, hW.1, show sz + j - sz = j by omega, List.getElem?_map]
    have hjl : j < (zrows H.size (cid 19) (cid 16) u w0).length := by omega
    have e0 : (zrows H.size (cid 19) (cid 16) u w0)[j]? = some _ := List.getElem?_eq_getElem hjl
    rw [e0]
    exact congrArg some (zrows_at e0).2.1
  have hWn := zWd_app (xs := zrows H.size (cid 19) (cid 16) u w0) hW (by omega) q1 (fun j hj => by rw [hgt j (by omega), if_neg (by omega), if_neg (by omega)]) (fun j q e0 hj => by
    obtain ⟨z1, z2, z3⟩ := zrows_at hj
    rw [hgt (sz + j) (by omega)]
    rcases z3 with ⟨z3, z4⟩ | ⟨z3, z4⟩
    · have z4 : e0 = _ := z4
      subst z4
      subst z3
      rw [if_neg (by omega), if_pos (by omega)]
      refine ⟨by show u < 2 ^ 31; omega, Or.inr (Or.inr ⟨⟨Nat.le_refl _, show 19 ≤ 22 by decide⟩, _, rfl, ⟨_, q3, hlog⟩, fun j2 hj2 => ?_⟩)⟩
      have hj2 : j2 < u := hj2
      show zg ρ b _ (zget t2 j2) (va_rf (if j2 < u then some (H.size + 1 + j2) else none))
      rw [if_pos hj2, q4 j2 (by omega), if_pos (by omega)]
      have e9 : sz + 3 + (j2 - 0) = (sz + (1 + j2)) + 2 := by omega
      rw [e9]
      exact ⟨H.size + 1 + j2, by rw [has (1 + j2) (by omega)]; congr 1; omega, rfl⟩
    · have z4 : e0 = _ := z4
      subst z4
      rw [if_pos (by omega)]
      exact zX_newI (by decide) (by omega))
  rw [hlen] at hWn
  have hm2 : (ws ++ zrows H.size (cid 19) (cid 16) u w0).map Prod.fst = ws.map Prod.fst ++ (zrows H.size (cid 19) (cid 16) u w0).map Prod.fst := List.map_append
  have kk2 := kk (ws ++ zrows H.size (cid 19) (cid 16) u w0) H1 locs ls (.ref H.size :: w) ⟨⟨lv, hl, by rw [hm2]; exact zLr_mono _ hL⟩, ⟨⟨H.size, by rw [hm2]; exact has 0 (Nat.zero_le _), rfl⟩, by rw [hm2]; exact zS_mono _ hS2⟩, hP1, hD1, hSn, hWn⟩ ⟨_, hm2⟩
  rw [show cells + 1 + u = cells + Nat.succ u by omega, show slots + u + u * w0 = slots + Nat.add u (Nat.mul u w0) by rw [hmul]; omega]
  exact kk2

