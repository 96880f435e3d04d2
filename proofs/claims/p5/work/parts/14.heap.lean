/-! ===== the heap ===== -/
theorem zany5 {l : List (Nat × Nat × Nat × Bool × Nat)} {f : Nat × Nat × Nat × Bool × Nat → Bool} (h : l.any f = true) : ∃ i ci k fin ft, (i, ci, k, fin, ft) ∈ l ∧ f (i, ci, k, fin, ft) = true := by
  obtain ⟨⟨i, ci, k, fin, ft⟩, h1, h2⟩ := List.any_eq_true.mp h
  exact ⟨i, ci, k, fin, ft, h1, h2⟩
theorem zfs_at {fs : List Value} {k n : Nat} (h : fs.length = n) (hk : k < n) : ∃ v, fs[k]? = some v := ⟨_, List.getElem?_eq_getElem (by omega)⟩
set_option maxHeartbeats 2000000 in
theorem zs_getfield {p : Program} {l : Launch} {e : Env} {R : Room} {s : State} {m : MethodId} {args : Array Value} {below : List Frame} {meth : Method} {c : Code} {H : Heap} {locs : List Loc} {cells slots : Nat} {Q : State → Prop} {n0 : Nat} {D : va_G} {cid : Nat → ClassId} {ρ : Nat → Int32} {b L : Nat} {xs : Nat → Int32} {oc : Nat} {ini : Bool} {cc : ByteArray} {nL : Nat} {rt : Option FieldType} {tb : zTb} {ys : List MethodName} {G : zG} {pc npc a1 a2 : Nat} {al al' : zLs} {ast ast' : List zV} {sz dz du : Nat} {h h' : zH} {ls : Array Slot} {st : List Value} {ws : va_W} {pc' : Nat} {i : Nat}
    (C : zCx p s m args meth c n0 D cid b L xs oc ini cc nL rt) (F : zFx tb ys) (hG : zGok G ρ L xs) (hch : zchI tb oc ini nL rt pc (.getfield i) a1 a2 = true) (hd : decode cc pc = .ok ((.getfield i), zlen (.getfield i))) (hn : npc = pc + zlen (.getfield i))
    (hs0 : zstep G (.getfield i) npc a1 a2 pc al ast sz h = some (.inl (pc', al', ast', h', dz, du))) (hA : zAt D cid ρ b n0 nL s al ast sz h ls st ws H locs) (hcells : cells + dz ≤ R.cells) (hslots : slots + du ≤ R.slots)
    (kk : ∀ (ws' : va_W) (H' : Heap) (locs' : List Loc) (ls' : Array Slot) (st' : List Value), zAt D cid ρ b n0 nL s al' ast' (sz + dz) h' ls' st' ws' H' locs' → (∃ xs, ws'.map Prod.fst = ws.map Prod.fst ++ xs) → W p l e R s m args below meth c H' locs' (cells + dz) (slots + du) Q (F0 m pc' ls' st')) : W p l e R s m args below meth c H locs cells slots Q (F0 m pc ls st) := by
  obtain ⟨hx, hb, hml, hown, hts, hKU, hini, hr, hlocks, hn0, hbn⟩ := C
  subst hn
  obtain ⟨a, r, rfl, hs1⟩ := z1_inv hs0
  obtain ⟨j, rfl, hj, hs2⟩ := zcell_inv hs1
  obtain ⟨hk1, hs3⟩ := zwhen_inv hs2
  cases hs3
  obtain ⟨⟨lv, hl, hL⟩, hS0, hP, hD, hSt, hW⟩ := hA
  obtain ⟨v, w, rfl, hv, hS1⟩ := zS_cons hS0
  obtain ⟨q, hq, rfl⟩ := hv
  obtain ⟨q2, e2, he, hq2, hX⟩ := zWd_at hW hj
  cases hq.symm.trans hq2
  have hk1 : (zget h j).1 = a1 := Nat.eq_of_beq_eq_true hk1
  obtain ⟨i2, ci2, k2, fin, ft, hm, hc⟩ := zany5 hch
  simp only [Bool.and_eq_true, beq_iff_eq] at hc
  obtain ⟨⟨rfl, rfl⟩, rfl⟩ := hc
  obtain ⟨C2, T, N, hcl, hkN, hlink, -⟩ := F.1 oc _ _ _ _ _ hm
  obtain ⟨r2, fs, e1, e2, rfl, e4, -, e5⟩ := zX_obj hX (by rw [hk1]; exact vwCl_lt hcl)
  rw [hk1] at e1 he
  cases e1.symm.trans hcl
  obtain ⟨v, hv⟩ := zfs_at (k := k2) (e4.trans e2.symm) hkN
  exact va_get hx hb hts (F.2.1 _ _ _ _ hcl).2.2.1 hown hKU.1 hP j he hcl k2 hkN (hts _ hlink) (fun _ hq => hq) hv hd (kk _ _ _ _ _ ⟨⟨lv, hl, hL⟩, ⟨e5 _ _ hv, hS1⟩, hP, hD, hSt, hW⟩ zpre)

set_option maxHeartbeats 2000000 in
theorem zs_putfield {p : Program} {l : Launch} {e : Env} {R : Room} {s : State} {m : MethodId} {args : Array Value} {below : List Frame} {meth : Method} {c : Code} {H : Heap} {locs : List Loc} {cells slots : Nat} {Q : State → Prop} {n0 : Nat} {D : va_G} {cid : Nat → ClassId} {ρ : Nat → Int32} {b L : Nat} {xs : Nat → Int32} {oc : Nat} {ini : Bool} {cc : ByteArray} {nL : Nat} {rt : Option FieldType} {tb : zTb} {ys : List MethodName} {G : zG} {pc npc a1 a2 : Nat} {al al' : zLs} {ast ast' : List zV} {sz dz du : Nat} {h h' : zH} {ls : Array Slot} {st : List Value} {ws : va_W} {pc' : Nat} {i : Nat}
    (C : zCx p s m args meth c n0 D cid b L xs oc ini cc nL rt) (F : zFx tb ys) (hG : zGok G ρ L xs) (hch : zchI tb oc ini nL rt pc (.putfield i) a1 a2 = true) (hd : decode cc pc = .ok ((.putfield i), zlen (.putfield i))) (hn : npc = pc + zlen (.putfield i))
    (hs0 : zstep G (.putfield i) npc a1 a2 pc al ast sz h = some (.inl (pc', al', ast', h', dz, du))) (hA : zAt D cid ρ b n0 nL s al ast sz h ls st ws H locs) (hcells : cells + dz ≤ R.cells) (hslots : slots + du ≤ R.slots)
    (kk : ∀ (ws' : va_W) (H' : Heap) (locs' : List Loc) (ls' : Array Slot) (st' : List Value), zAt D cid ρ b n0 nL s al' ast' (sz + dz) h' ls' st' ws' H' locs' → (∃ xs, ws'.map Prod.fst = ws.map Prod.fst ++ xs) → W p l e R s m args below meth c H' locs' (cells + dz) (slots + du) Q (F0 m pc' ls' st')) : W p l e R s m args below meth c H locs cells slots Q (F0 m pc ls st) := by
  obtain ⟨hx, hb, hml, hown, hts, hKU, hini, hr, hlocks, hn0, hbn⟩ := C
  subst hn
  obtain ⟨a, d, r, rfl, hs1⟩ := z2_inv hs0
  obtain ⟨j, rfl, hj, hs2⟩ := zcell_inv hs1
  obtain ⟨hk1, hs3⟩ := zwhen_inv hs2
  rw [zset_eq, zset_eq] at hs3
  cases hs3
  rw [Bool.and_eq_true] at hk1
  obtain ⟨hk1, hft⟩ := hk1
  obtain ⟨⟨lv, hl, hL⟩, hS0, hP, hD, hSt, hW⟩ := hA
  obtain ⟨x, w, rfl, hgx, hS1⟩ := zS_cons hS0
  obtain ⟨v, w, rfl, hv, hS2⟩ := zS_cons hS1
  obtain ⟨q, hq, rfl⟩ := hv
  obtain ⟨q2, e2, he, hq2, hX⟩ := zWd_at hW hj
  cases hq.symm.trans hq2
  have hk1 : (zget h j).1 = a1 := Nat.eq_of_beq_eq_true hk1
  obtain ⟨i2, ci2, k2, fin, ft, hm, hc⟩ := zany5 hch
  simp only [Bool.and_eq_true, beq_iff_eq] at hc
  obtain ⟨⟨⟨⟨rfl, rfl⟩, hk2⟩, hf2⟩, hfin⟩ := hc
  have hk2 : k2 = Nat.mod a2 64 := hk2
  have hf2 : ft = Nat.div a2 64 := hf2
  obtain ⟨C2, T, N, hcl, hkN, hlink, hfi, hpd, hf3, -⟩ := F.1 oc _ _ _ _ _ hm
  obtain ⟨hCn, hTd, hin, ⟨ty, hty, -⟩, hnm, -⟩ := F.2.1 _ _ _ _ hcl
  have hpt : parseFieldDescriptor (T k2).2.2.1 = some (ty k2) := hty k2 hkN
  have hzf : zfo (ty k2) = ft := by
    rw [hpt] at hpd
    exact Option.some.inj hpd
  obtain ⟨hnar, hfits⟩ := zfit_ok hzf hf3 (by rw [hf2]; exact hft) hgx
  obtain ⟨r2, fs, e1, e2, rfl, e4, -, e5⟩ := zX_obj hX (by rw [hk1]; exact vwCl_lt hcl)
  rw [hk1] at e1 he
  cases e1.symm.trans hcl
  have e2 : N = (zget h j).2.1 := e2
  have hX2 : zX cid ρ b (ws.map Prod.fst) (ci2, (zget h j).2.1, (zget h j).2.2.1, (zget h j).2.2.2) (.inr (ci2, fs)) := by
    rw [← hk1]
    exact hX
  have hX3 := zX_fld (u := k2) hX2 (vwCl_lt hcl) (by omega) hgx
  have hX3 : zX cid ρ b (ws.map Prod.fst) ((zget h j).1, (zget h j).2.1, (zget h j).2.2.1, zput (zget h j).2.2.2 d (Nat.mod a2 64)) (.inr (ci2, fs.set k2 x)) := by
    rw [hk1, ← hk2]
    exact hX3
  have hmap := zWd_map (e' := .inr (ci2, fs.set k2 x)) he
  cases fin with
  | false =>
    exact va_put hx hb hts hin ty hty hnm hown hKU.1 hP hD hSt j he hcl k2 hkN (hts _ hlink) (fun _ hq => hq) hfi hpt hnar hfits (by omega) hd (fun H1 locs1 hP1 hD1 hS1 => kk _ _ _ _ _ ⟨⟨lv, hl, by rw [hmap]; exact hL⟩, by rw [hmap]; exact hS2, hP1, hD1, hS1, zWd_set hW he hX3⟩ ⟨[], by rw [hmap, List.append_nil]⟩)
  | true =>
    simp only [Bool.not_true, Bool.false_or, Bool.and_eq_true, beq_iff_eq] at hfin
    exact va_putF hx hb hts hin ty hty hnm hown hKU.1 hP hD hSt j he hcl k2 hkN (hts _ hlink) (fun _ hq => hq) hfi (hini hfin.1) (by rw [hTd k2 hkN, hCn, hfin.2]) hpt hnar hfits (by omega) hd (fun H1 locs1 hP1 hD1 hS1 => kk _ _ _ _ _ ⟨⟨lv, hl, by rw [hmap]; exact hL⟩, by rw [hmap]; exact hS2, hP1, hD1, hS1, zWd_set hW he hX3⟩ ⟨[], by rw [hmap, List.append_nil]⟩)

set_option maxHeartbeats 2000000 in
theorem zs_iaload {p : Program} {l : Launch} {e : Env} {R : Room} {s : State} {m : MethodId} {args : Array Value} {below : List Frame} {meth : Method} {c : Code} {H : Heap} {locs : List Loc} {cells slots : Nat} {Q : State → Prop} {n0 : Nat} {D : va_G} {cid : Nat → ClassId} {ρ : Nat → Int32} {b L : Nat} {xs : Nat → Int32} {oc : Nat} {ini : Bool} {cc : ByteArray} {nL : Nat} {rt : Option FieldType} {tb : zTb} {ys : List MethodName} {G : zG} {pc npc a1 a2 : Nat} {al al' : zLs} {ast ast' : List zV} {sz dz du : Nat} {h h' : zH} {ls : Array Slot} {st : List Value} {ws : va_W} {pc' : Nat} 
    (C : zCx p s m args meth c n0 D cid b L xs oc ini cc nL rt) (F : zFx tb ys) (hG : zGok G ρ L xs) (hch : zchI tb oc ini nL rt pc .iaload a1 a2 = true) (hd : decode cc pc = .ok (.iaload, zlen .iaload)) (hn : npc = pc + zlen .iaload)
    (hs0 : zstep G .iaload npc a1 a2 pc al ast sz h = some (.inl (pc', al', ast', h', dz, du))) (hA : zAt D cid ρ b n0 nL s al ast sz h ls st ws H locs) (hcells : cells + dz ≤ R.cells) (hslots : slots + du ≤ R.slots)
    (kk : ∀ (ws' : va_W) (H' : Heap) (locs' : List Loc) (ls' : Array Slot) (st' : List Value), zAt D cid ρ b n0 nL s al' ast' (sz + dz) h' ls' st' ws' H' locs' → (∃ xs, ws'.map Prod.fst = ws.map Prod.fst ++ xs) → W p l e R s m args below meth c H' locs' (cells + dz) (slots + du) Q (F0 m pc' ls' st')) : W p l e R s m args below meth c H locs cells slots Q (F0 m pc ls st) := by
  obtain ⟨hx, hb, hml, hown, hts, hKU, hini, hr, hlocks, hn0, hbn⟩ := C
  subst hn
  obtain ⟨a, d, r, rfl, hs1⟩ := z2_inv hs0
  unfold zali at hs1
  split at hs1
  · split at hs1
    · rename_i n hGn
      obtain ⟨u, rfl, hu, hs2⟩ := zidx_inv hs1
      split at hs2
      · rename_i a0 ha0
        obtain ⟨hi0, hs3⟩ := zwhen_inv hs2
        cases hs3
        obtain ⟨⟨lv, hl, hL⟩, hS0, hP, hD, hSt, hW⟩ := hA
        obtain ⟨v2, w, rfl, g2, hS1⟩ := zS_cons hS0
        obtain ⟨v1, w, rfl, g1, hS2⟩ := zS_cons hS1
        cases g2
        cases g1
        obtain ⟨rfl, hn⟩ := hG.2.1 _ hGn
        obtain ⟨hin, hin2⟩ := zI_in hu hn
        refine va_sld hx hb hKU.2.2.2.2 (Nat.lt_of_lt_of_le hbn hn0) (fun q => absurd hbn (Nat.not_lt.mpr q)) hSt hin hd (kk _ _ _ _ _ ⟨⟨lv, hl, hL⟩, ⟨?_, hS2⟩, hP, hD, hSt, hW⟩ zpre)
        rw [hin2]
        exact zg_ofI (hG.2.2 _ _ ha0 hi0)
      · cases hs2
    · cases hs1
  · obtain ⟨j, rfl, hj, hs2⟩ := zcell_inv hs1
    obtain ⟨hk1, hs3⟩ := zwhen_inv hs2
    obtain ⟨u, rfl, hu, hs4⟩ := zidx_inv hs3
    rw [zkde_eq] at hs4
    cases hs4
    obtain ⟨⟨lv, hl, hL⟩, hS0, hP, hD, hSt, hW⟩ := hA
    obtain ⟨v2, w, rfl, g2, hS1⟩ := zS_cons hS0
    obtain ⟨v, w, rfl, hv, hS2⟩ := zS_cons hS1
    cases g2
    obtain ⟨q, hq, rfl⟩ := hv
    obtain ⟨q2, e2, he, hq2, hX⟩ := zWd_at hW hj
    cases hq.symm.trans hq2
    have hk1 : (zget h j).1 = 16 := Nat.eq_of_beq_eq_true hk1
    obtain ⟨f, rfl, hf⟩ := zX_int hX (by omega)
    obtain ⟨hin, hin2⟩ := zI_in hu hX.1
    refine va_iald hx hb hKU.1 hP j 0 he (by rw [hk1]; rfl) hin hd (kk _ _ _ _ _ ⟨⟨lv, hl, hL⟩, ⟨?_, hS2⟩, hP, hD, hSt, hW⟩ zpre)
    rw [hin2]
    exact zg_ofI (hf u hu)

set_option maxHeartbeats 2000000 in
theorem zs_baload {p : Program} {l : Launch} {e : Env} {R : Room} {s : State} {m : MethodId} {args : Array Value} {below : List Frame} {meth : Method} {c : Code} {H : Heap} {locs : List Loc} {cells slots : Nat} {Q : State → Prop} {n0 : Nat} {D : va_G} {cid : Nat → ClassId} {ρ : Nat → Int32} {b L : Nat} {xs : Nat → Int32} {oc : Nat} {ini : Bool} {cc : ByteArray} {nL : Nat} {rt : Option FieldType} {tb : zTb} {ys : List MethodName} {G : zG} {pc npc a1 a2 : Nat} {al al' : zLs} {ast ast' : List zV} {sz dz du : Nat} {h h' : zH} {ls : Array Slot} {st : List Value} {ws : va_W} {pc' : Nat} 
    (C : zCx p s m args meth c n0 D cid b L xs oc ini cc nL rt) (F : zFx tb ys) (hG : zGok G ρ L xs) (hch : zchI tb oc ini nL rt pc .baload a1 a2 = true) (hd : decode cc pc = .ok (.baload, zlen .baload)) (hn : npc = pc + zlen .baload)
    (hs0 : zstep G .baload npc a1 a2 pc al ast sz h = some (.inl (pc', al', ast', h', dz, du))) (hA : zAt D cid ρ b n0 nL s al ast sz h ls st ws H locs) (hcells : cells + dz ≤ R.cells) (hslots : slots + du ≤ R.slots)
    (kk : ∀ (ws' : va_W) (H' : Heap) (locs' : List Loc) (ls' : Array Slot) (st' : List Value), zAt D cid ρ b n0 nL s al' ast' (sz + dz) h' ls' st' ws' H' locs' → (∃ xs, ws'.map Prod.fst = ws.map Prod.fst ++ xs) → W p l e R s m args below meth c H' locs' (cells + dz) (slots + du) Q (F0 m pc' ls' st')) : W p l e R s m args below meth c H locs cells slots Q (F0 m pc ls st) := by
  obtain ⟨hx, hb, hml, hown, hts, hKU, hini, hr, hlocks, hn0, hbn⟩ := C
  subst hn
  obtain ⟨a, d, r, rfl, hs1⟩ := z2_inv hs0
  obtain ⟨j, rfl, hj, hs2⟩ := zcell_inv hs1
  obtain ⟨hk1, hs3⟩ := zwhen_inv hs2
  obtain ⟨u, rfl, hu, hs4⟩ := zidx_inv hs3
  rw [zkde_eq] at hs4
  cases hs4
  obtain ⟨⟨lv, hl, hL⟩, hS0, hP, hD, hSt, hW⟩ := hA
  obtain ⟨v2, w, rfl, g2, hS1⟩ := zS_cons hS0
  obtain ⟨v, w, rfl, hv, hS2⟩ := zS_cons hS1
  cases g2
  obtain ⟨q, hq, rfl⟩ := hv
  obtain ⟨q2, e2, he, hq2, hX⟩ := zWd_at hW hj
  cases hq.symm.trans hq2
  rw [Bool.or_eq_true] at hk1
  rcases hk1 with hk1 | hk1
  · have hk1 : (zget h j).1 = 17 := Nat.eq_of_beq_eq_true hk1
    obtain ⟨f, rfl, hf⟩ := zX_int hX (by omega)
    obtain ⟨hin, hin2⟩ := zI_in hu hX.1
    refine va_bald hx hb hKU.1 hP j 1 he (by rw [hk1]; rfl) hin hd (kk _ _ _ _ _ ⟨⟨lv, hl, hL⟩, ⟨?_, hS2⟩, hP, hD, hSt, hW⟩ zpre)
    rw [hin2]
    exact zg_ofI (hf u hu)
  · have hk1 : (zget h j).1 = 18 := Nat.eq_of_beq_eq_true hk1
    obtain ⟨f, rfl, hf⟩ := zX_int hX (by omega)
    obtain ⟨hin, hin2⟩ := zI_in hu hX.1
    refine va_zald hx hb hKU.1 hP j 2 he (by rw [hk1]; rfl) hin hd (kk _ _ _ _ _ ⟨⟨lv, hl, hL⟩, ⟨?_, hS2⟩, hP, hD, hSt, hW⟩ zpre)
    rw [hin2]
    exact zg_ofI (hf u hu)

/-- the type of a kind of row -/
theorem ztys_at {cid : Nat → ClassId} {k : Nat} (h : 19 ≤ k ∧ k ≤ 22) : ∃ ty : FieldType, (ztys cid)[k - 16]? = some (cid k, ty) ∧ ty.isReference = true := by
  have : k = 19 ∨ k = 20 ∨ k = 21 ∨ k = 22 := by omega
  rcases this with rfl | rfl | rfl | rfl
  · exact ⟨_, rfl, rfl⟩
  · exact ⟨_, rfl, rfl⟩
  · exact ⟨_, rfl, rfl⟩
  · exact ⟨_, rfl, rfl⟩
theorem ztys_obj {cid : Nat → ClassId} {k : Nat} (h : 20 ≤ k ∧ k ≤ 22) : (ztys cid)[k - 16]? = some (cid k, .object (zkc k)) := by
  have : k = 20 ∨ k = 21 ∨ k = 22 := by omega
  rcases this with rfl | rfl | rfl <;> rfl
theorem zcls_cn {k : Nat} (h : 20 ≤ k ∧ k ≤ 22) : zcn (zcls k) = zkc k := by
  have : k = 20 ∨ k = 21 ∨ k = 22 := by omega
  rcases this with rfl | rfl | rfl <;> rfl
theorem zcls_ge {k : Nat} (h : zcls k < 13) : 20 ≤ k ∧ k ≤ 22 := by
  unfold zcls at h
  split at h <;> omega
theorem zaldr {p : Program} {l : Launch} {e : Env} {R : Room} {s : State} {m : MethodId} {args : Array Value} {below : List Frame} {meth : Method} {c : Code} {H : Heap} {locs : List Loc} {cells slots : Nat} {Q : State → Prop} {cc : ByteArray} {pc : Nat} {ls : Array Slot} {rest : List Value} {D : va_G} {cl : List vw_C} {a : Nat} {tys : List (ClassId × FieldType)} {ws : va_W} (hexec : p.tables.exec = Jvm.exec) (hb : c.code = cc) (hK : va_K D cl tys s) (hP : va_P D cl ws H) (q0 t0 : Nat) {cA : ClassId} {ty : FieldType} {n : Nat} {f : Nat → Option Nat} (ha : ws[q0]? = some (a, .inl (cA, n, .inr (.inr (.inr (.inr f)))))) (ht : tys[t0]? = some (cA, ty)) (hty : ty.isReference = true) {i : Int32} (hin : vp_in i n) (hdg : decode cc pc = .ok (.aaload, 1))
    (kk : W p l e R s m args below meth c H locs cells slots Q (F0 m (pc + 1) ls (va_rf (f i.toNatClampNeg) :: rest))) : W p l e R s m args below meth c H locs cells slots Q (F0 m pc ls (.int i :: .ref a :: rest)) := by
  have hlt : i.toNatClampNeg < n := Nat.not_le.mp fun q => hin (Or.inr q)
  exact W.aald (v := va_rf (f i.toNatClampNeg)) (ty := ty) hexec hb (hP q0 _ ha) ((hK.2 t0 _ ht).1 n (fun j => va_rf (f j))) hty (fun q => by cases q) (by show ¬ (i < 0 ∨ (arrV _ _ _).slots.size ≤ _); rw [arrV_size]; exact hin) (by show (arrV _ _ _).slots[_]? = _; rw [arrV_read _ _ hlt]) rfl rfl hdg kk
set_option maxHeartbeats 2000000 in
theorem zs_aaload {p : Program} {l : Launch} {e : Env} {R : Room} {s : State} {m : MethodId} {args : Array Value} {below : List Frame} {meth : Method} {c : Code} {H : Heap} {locs : List Loc} {cells slots : Nat} {Q : State → Prop} {n0 : Nat} {D : va_G} {cid : Nat → ClassId} {ρ : Nat → Int32} {b L : Nat} {xs : Nat → Int32} {oc : Nat} {ini : Bool} {cc : ByteArray} {nL : Nat} {rt : Option FieldType} {tb : zTb} {ys : List MethodName} {G : zG} {pc npc a1 a2 : Nat} {al al' : zLs} {ast ast' : List zV} {sz dz du : Nat} {h h' : zH} {ls : Array Slot} {st : List Value} {ws : va_W} {pc' : Nat} 
    (C : zCx p s m args meth c n0 D cid b L xs oc ini cc nL rt) (F : zFx tb ys) (hG : zGok G ρ L xs) (hch : zchI tb oc ini nL rt pc .aaload a1 a2 = true) (hd : decode cc pc = .ok (.aaload, zlen .aaload)) (hn : npc = pc + zlen .aaload)
    (hs0 : zstep G .aaload npc a1 a2 pc al ast sz h = some (.inl (pc', al', ast', h', dz, du))) (hA : zAt D cid ρ b n0 nL s al ast sz h ls st ws H locs) (hcells : cells + dz ≤ R.cells) (hslots : slots + du ≤ R.slots)
    (kk : ∀ (ws' : va_W) (H' : Heap) (locs' : List Loc) (ls' : Array Slot) (st' : List Value), zAt D cid ρ b n0 nL s al' ast' (sz + dz) h' ls' st' ws' H' locs' → (∃ xs, ws'.map Prod.fst = ws.map Prod.fst ++ xs) → W p l e R s m args below meth c H' locs' (cells + dz) (slots + du) Q (F0 m pc' ls' st')) : W p l e R s m args below meth c H locs cells slots Q (F0 m pc ls st) := by
  obtain ⟨hx, hb, hml, hown, hts, hKU, hini, hr, hlocks, hn0, hbn⟩ := C
  subst hn
  obtain ⟨a, d, r, rfl, hs1⟩ := z2_inv hs0
  obtain ⟨j, rfl, hj, hs2⟩ := zcell_inv hs1
  obtain ⟨hk1, hs3⟩ := zwhen_inv hs2
  obtain ⟨u, rfl, hu, hs4⟩ := zidx_inv hs3
  obtain ⟨hR, hs5⟩ := zwhen_inv hs4
  cases hs5
  obtain ⟨⟨lv, hl, hL⟩, hS0, hP, hD, hSt, hW⟩ := hA
  obtain ⟨v2, w, rfl, g2, hS1⟩ := zS_cons hS0
  obtain ⟨v, w, rfl, hv, hS2⟩ := zS_cons hS1
  cases g2
  obtain ⟨q, hq, rfl⟩ := hv
  obtain ⟨q2, e2, he, hq2, hX⟩ := zWd_at hW hj
  cases hq.symm.trans hq2
  have hk1 : 19 ≤ (zget h j).1 := Nat.le_of_ble_eq_true hk1
  obtain ⟨hk2, f, rfl, -, hf⟩ := zX_ref hX hk1
  obtain ⟨hin, hin2⟩ := zI_in hu hX.1
  obtain ⟨ty, ht, hty⟩ := ztys_at (cid := cid) ⟨hk1, hk2⟩
  refine zaldr hx hb hKU.1 hP j _ he ht hty hin hd (kk _ _ _ _ _ ⟨⟨lv, hl, hL⟩, ⟨?_, hS2⟩, hP, hD, hSt, hW⟩ zpre)
  rw [hin2]
  exact hf u hu

set_option maxHeartbeats 2000000 in
theorem zs_iastore {p : Program} {l : Launch} {e : Env} {R : Room} {s : State} {m : MethodId} {args : Array Value} {below : List Frame} {meth : Method} {c : Code} {H : Heap} {locs : List Loc} {cells slots : Nat} {Q : State → Prop} {n0 : Nat} {D : va_G} {cid : Nat → ClassId} {ρ : Nat → Int32} {b L : Nat} {xs : Nat → Int32} {oc : Nat} {ini : Bool} {cc : ByteArray} {nL : Nat} {rt : Option FieldType} {tb : zTb} {ys : List MethodName} {G : zG} {pc npc a1 a2 : Nat} {al al' : zLs} {ast ast' : List zV} {sz dz du : Nat} {h h' : zH} {ls : Array Slot} {st : List Value} {ws : va_W} {pc' : Nat} 
    (C : zCx p s m args meth c n0 D cid b L xs oc ini cc nL rt) (F : zFx tb ys) (hG : zGok G ρ L xs) (hch : zchI tb oc ini nL rt pc .iastore a1 a2 = true) (hd : decode cc pc = .ok (.iastore, zlen .iastore)) (hn : npc = pc + zlen .iastore)
    (hs0 : zstep G .iastore npc a1 a2 pc al ast sz h = some (.inl (pc', al', ast', h', dz, du))) (hA : zAt D cid ρ b n0 nL s al ast sz h ls st ws H locs) (hcells : cells + dz ≤ R.cells) (hslots : slots + du ≤ R.slots)
    (kk : ∀ (ws' : va_W) (H' : Heap) (locs' : List Loc) (ls' : Array Slot) (st' : List Value), zAt D cid ρ b n0 nL s al' ast' (sz + dz) h' ls' st' ws' H' locs' → (∃ xs, ws'.map Prod.fst = ws.map Prod.fst ++ xs) → W p l e R s m args below meth c H' locs' (cells + dz) (slots + du) Q (F0 m pc' ls' st')) : W p l e R s m args below meth c H locs cells slots Q (F0 m pc ls st) := by
  obtain ⟨hx, hb, hml, hown, hts, hKU, hini, hr, hlocks, hn0, hbn⟩ := C
  subst hn
  obtain ⟨a, d, x, r, rfl, hs1⟩ := z3_inv hs0
  obtain ⟨j, rfl, hj, hs2⟩ := zcell_inv hs1
  obtain ⟨hk1, hs3⟩ := zwhen_inv hs2
  obtain ⟨u, rfl, hu, hs4⟩ := zidx_inv hs3
  obtain ⟨n, hs4, hn48, hn⟩ := zen_ok (ρ := ρ) hs4
  rw [fN_eq, zset_eq] at hs4
  cases hs4
  rw [Bool.and_eq_true] at hk1
  obtain ⟨hk1, hxI⟩ := hk1
  obtain ⟨⟨lv, hl, hL⟩, hS0, hP, hD, hSt, hW⟩ := hA
  obtain ⟨v3, w, rfl, g3, hS1⟩ := zS_cons hS0
  obtain ⟨v2, w, rfl, g2, hS2⟩ := zS_cons hS1
  obtain ⟨v, w, rfl, hv, hS3⟩ := zS_cons hS2
  cases g2
  obtain ⟨y, rfl, kk3⟩ := zg_I g3 hxI
  obtain ⟨q, hq, rfl⟩ := hv
  obtain ⟨q2, e2, he, hq2, hX⟩ := zWd_at hW hj
  cases hq.symm.trans hq2
  have hk1 : (zget h j).1 = 16 := Nat.eq_of_beq_eq_true hk1
  obtain ⟨f, rfl, hf⟩ := zX_int hX (by omega)
  obtain ⟨hin, hin2⟩ := zI_in hu hX.1
  have hX2 := zX_row (k := (zget h j).1) (n := (zget h j).2.1) (N := (zget h j).2.2.1) (t := (zget h j).2.2.2) (u := u) hX (by omega) hn48 (hn y kk3)
  refine va_iast hx hb hKU.1 hP hD hSt j 0 he (by rw [hk1]; rfl) hin hd (fun H1 locs1 hP1 hD1 hS1 => ?_)
  rw [hin2] at hP1 hD1
  have hmap := zWd_map (e' := .inl (cid (zget h j).1, (zget h j).2.1, .inl (upd f u y))) he
  exact kk _ _ _ _ _ ⟨⟨lv, hl, by rw [hmap]; exact hL⟩, by rw [hmap]; exact hS3, hP1, hD1, hS1, zWd_set hW he hX2⟩ ⟨[], by rw [hmap, List.append_nil]⟩

set_option maxHeartbeats 2000000 in
theorem zs_bastore {p : Program} {l : Launch} {e : Env} {R : Room} {s : State} {m : MethodId} {args : Array Value} {below : List Frame} {meth : Method} {c : Code} {H : Heap} {locs : List Loc} {cells slots : Nat} {Q : State → Prop} {n0 : Nat} {D : va_G} {cid : Nat → ClassId} {ρ : Nat → Int32} {b L : Nat} {xs : Nat → Int32} {oc : Nat} {ini : Bool} {cc : ByteArray} {nL : Nat} {rt : Option FieldType} {tb : zTb} {ys : List MethodName} {G : zG} {pc npc a1 a2 : Nat} {al al' : zLs} {ast ast' : List zV} {sz dz du : Nat} {h h' : zH} {ls : Array Slot} {st : List Value} {ws : va_W} {pc' : Nat} 
    (C : zCx p s m args meth c n0 D cid b L xs oc ini cc nL rt) (F : zFx tb ys) (hG : zGok G ρ L xs) (hch : zchI tb oc ini nL rt pc .bastore a1 a2 = true) (hd : decode cc pc = .ok (.bastore, zlen .bastore)) (hn : npc = pc + zlen .bastore)
    (hs0 : zstep G .bastore npc a1 a2 pc al ast sz h = some (.inl (pc', al', ast', h', dz, du))) (hA : zAt D cid ρ b n0 nL s al ast sz h ls st ws H locs) (hcells : cells + dz ≤ R.cells) (hslots : slots + du ≤ R.slots)
    (kk : ∀ (ws' : va_W) (H' : Heap) (locs' : List Loc) (ls' : Array Slot) (st' : List Value), zAt D cid ρ b n0 nL s al' ast' (sz + dz) h' ls' st' ws' H' locs' → (∃ xs, ws'.map Prod.fst = ws.map Prod.fst ++ xs) → W p l e R s m args below meth c H' locs' (cells + dz) (slots + du) Q (F0 m pc' ls' st')) : W p l e R s m args below meth c H locs cells slots Q (F0 m pc ls st) := by
  obtain ⟨hx, hb, hml, hown, hts, hKU, hini, hr, hlocks, hn0, hbn⟩ := C
  subst hn
  obtain ⟨a, d, x, r, rfl, hs1⟩ := z3_inv hs0
  obtain ⟨j, rfl, hj, hs2⟩ := zcell_inv hs1
  cases hk0 : Nat.beq (zget h j).1 17
  · rw [hk0] at hs2
    obtain ⟨hk1, hs3⟩ := zwhen_inv hs2
    have hk1 : (zget h j).1 = 18 := Nat.eq_of_beq_eq_true hk1
    obtain ⟨hxI, z, hs3, hz⟩ := zu1_ok (ρ := ρ) hs3
    obtain ⟨u, rfl, hu, hs4⟩ := zidx_inv hs3
    obtain ⟨n, hs4, hn48, hn⟩ := zen_ok (ρ := ρ) hs4
    rw [fN_eq, zset_eq] at hs4
    cases hs4
    obtain ⟨⟨lv, hl, hL⟩, hS0, hP, hD, hSt, hW⟩ := hA
    obtain ⟨v3, w, rfl, g3, hS1⟩ := zS_cons hS0
    obtain ⟨v2, w, rfl, g2, hS2⟩ := zS_cons hS1
    obtain ⟨v, w, rfl, hv, hS3⟩ := zS_cons hS2
    cases g2
    obtain ⟨y, rfl, kk3⟩ := zg_I g3 hxI
    obtain ⟨q, hq, rfl⟩ := hv
    obtain ⟨q2, e2, he, hq2, hX⟩ := zWd_at hW hj
    cases hq.symm.trans hq2
    obtain ⟨f, rfl, hf⟩ := zX_int hX (by omega)
    obtain ⟨hin, hin2⟩ := zI_in hu hX.1
    have hX2 := zX_row (k := (zget h j).1) (n := (zget h j).2.1) (N := (zget h j).2.2.1) (t := (zget h j).2.2.2) (u := u) hX (by omega) hn48 (hn _ (hz y kk3))
    refine va_zast hx hb hKU.1 hP hD hSt j 2 he (by rw [hk1]; rfl) hin hd (fun H1 locs1 hP1 hD1 hS1 => ?_)
    rw [hin2] at hP1 hD1
    have hmap := zWd_map (e' := .inl (cid (zget h j).1, (zget h j).2.1, .inl (upd f u (vp_nar .boolean y)))) he
    exact kk _ _ _ _ _ ⟨⟨lv, hl, by rw [hmap]; exact hL⟩, by rw [hmap]; exact hS3, hP1, hD1, hS1, zWd_set hW he hX2⟩ ⟨[], by rw [hmap, List.append_nil]⟩
  · rw [hk0] at hs2
    have hk1 : (zget h j).1 = 17 := Nat.eq_of_beq_eq_true hk0
    obtain ⟨hxI, z, hs2, hz⟩ := zu1_ok (ρ := ρ) hs2
    obtain ⟨u, rfl, hu, hs3⟩ := zidx_inv hs2
    obtain ⟨n, hs3, hn48, hn⟩ := zen_ok (ρ := ρ) hs3
    rw [fN_eq, zset_eq] at hs3
    cases hs3
    obtain ⟨⟨lv, hl, hL⟩, hS0, hP, hD, hSt, hW⟩ := hA
    obtain ⟨v3, w, rfl, g3, hS1⟩ := zS_cons hS0
    obtain ⟨v2, w, rfl, g2, hS2⟩ := zS_cons hS1
    obtain ⟨v, w, rfl, hv, hS3⟩ := zS_cons hS2
    cases g2
    obtain ⟨y, rfl, kk3⟩ := zg_I g3 hxI
    obtain ⟨q, hq, rfl⟩ := hv
    obtain ⟨q2, e2, he, hq2, hX⟩ := zWd_at hW hj
    cases hq.symm.trans hq2
    obtain ⟨f, rfl, hf⟩ := zX_int hX (by omega)
    obtain ⟨hin, hin2⟩ := zI_in hu hX.1
    have hX2 := zX_row (k := (zget h j).1) (n := (zget h j).2.1) (N := (zget h j).2.2.1) (t := (zget h j).2.2.2) (u := u) hX (by omega) hn48 (hn _ (hz y kk3))
    refine va_bast hx hb hKU.1 hP hD hSt j 1 he (by rw [hk1]; rfl) hin hd (fun H1 locs1 hP1 hD1 hS1 => ?_)
    rw [hin2] at hP1 hD1
    have hmap := zWd_map (e' := .inl (cid (zget h j).1, (zget h j).2.1, .inl (upd f u (vp_nar .byte y)))) he
    exact kk _ _ _ _ _ ⟨⟨lv, hl, by rw [hmap]; exact hL⟩, by rw [hmap]; exact hS3, hP1, hD1, hS1, zWd_set hW he hX2⟩ ⟨[], by rw [hmap, List.append_nil]⟩

set_option maxHeartbeats 2000000 in
theorem zs_aastore {p : Program} {l : Launch} {e : Env} {R : Room} {s : State} {m : MethodId} {args : Array Value} {below : List Frame} {meth : Method} {c : Code} {H : Heap} {locs : List Loc} {cells slots : Nat} {Q : State → Prop} {n0 : Nat} {D : va_G} {cid : Nat → ClassId} {ρ : Nat → Int32} {b L : Nat} {xs : Nat → Int32} {oc : Nat} {ini : Bool} {cc : ByteArray} {nL : Nat} {rt : Option FieldType} {tb : zTb} {ys : List MethodName} {G : zG} {pc npc a1 a2 : Nat} {al al' : zLs} {ast ast' : List zV} {sz dz du : Nat} {h h' : zH} {ls : Array Slot} {st : List Value} {ws : va_W} {pc' : Nat} 
    (C : zCx p s m args meth c n0 D cid b L xs oc ini cc nL rt) (F : zFx tb ys) (hG : zGok G ρ L xs) (hch : zchI tb oc ini nL rt pc .aastore a1 a2 = true) (hd : decode cc pc = .ok (.aastore, zlen .aastore)) (hn : npc = pc + zlen .aastore)
    (hs0 : zstep G .aastore npc a1 a2 pc al ast sz h = some (.inl (pc', al', ast', h', dz, du))) (hA : zAt D cid ρ b n0 nL s al ast sz h ls st ws H locs) (hcells : cells + dz ≤ R.cells) (hslots : slots + du ≤ R.slots)
    (kk : ∀ (ws' : va_W) (H' : Heap) (locs' : List Loc) (ls' : Array Slot) (st' : List Value), zAt D cid ρ b n0 nL s al' ast' (sz + dz) h' ls' st' ws' H' locs' → (∃ xs, ws'.map Prod.fst = ws.map Prod.fst ++ xs) → W p l e R s m args below meth c H' locs' (cells + dz) (slots + du) Q (F0 m pc' ls' st')) : W p l e R s m args below meth c H locs cells slots Q (F0 m pc ls st) := by
  obtain ⟨hx, hb, hml, hown, hts, hKU, hini, hr, hlocks, hn0, hbn⟩ := C
  subst hn
  obtain ⟨a, d, x, r, rfl, hs1⟩ := z3_inv hs0
  obtain ⟨j, rfl, hj, hs2⟩ := zcell_inv hs1
  obtain ⟨j2, rfl, hj2, hs3⟩ := zcell_inv hs2
  obtain ⟨hk1, hs4⟩ := zwhen_inv hs3
  obtain ⟨u, rfl, hu, hs5⟩ := zidx_inv hs4
  rw [zset_eq, zset_eq] at hs5
  cases hs5
  obtain ⟨⟨lv, hl, hL⟩, hS0, hP, hD, hSt, hW⟩ := hA
  obtain ⟨v3, w, rfl, g3, hS1⟩ := zS_cons hS0
  obtain ⟨v2, w, rfl, g2, hS2⟩ := zS_cons hS1
  obtain ⟨v, w, rfl, hv, hS3⟩ := zS_cons hS2
  cases g2
  obtain ⟨q, hq, rfl⟩ := hv
  obtain ⟨q2, e2, he, hq2, hX⟩ := zWd_at hW hj
  cases hq.symm.trans hq2
  obtain ⟨q3, hq3, rfl⟩ := g3
  obtain ⟨q4, e4, he4, hq4, hX4⟩ := zWd_at hW hj2
  cases hq3.symm.trans hq4
  have hk1 : (zget h j2).1 = zcls (zget h j).1 := Nat.eq_of_beq_eq_true hk1
  rcases hX4.2 with ⟨r4, fs, c1, c2, rfl, c4, c5⟩ | ⟨c1, -⟩ | ⟨c1, -⟩
  · have hk3 := zcls_ge (hk1 ▸ vwCl_lt c1)
    obtain ⟨-, f, rfl, -, hf⟩ := zX_ref hX (by omega)
    obtain ⟨hin, hin2⟩ := zI_in hu hX.1
    have hg3 : zg ρ b (ws.map Prod.fst) (zr (j2 + 2)) (.ref q3) := ⟨q3, hq3, rfl⟩
    have hX2 := zX_refs (k := (zget h j).1) (n := (zget h j).2.1) (N := (zget h j).2.2.1) (t := (zget h j).2.2.2) hX (by omega) hu hg3
    obtain ⟨C4, T4, N4⟩ := r4
    have hCn : C4 = zkc (zget h j).1 := by
      rw [(F.2.1 _ _ _ _ c1).1, hk1, zcls_cn hk3]
    refine va_astq hx hb hKU.1 hP hD hSt j ((zget h j).1 - 16) j2 (zget h j2).1 he (r := (C4, T4, N4)) (by rw [ztys_obj hk3, hCn]) he4 c1 hin hd (fun H1 locs1 hP1 hD1 hS1 => ?_)
    rw [hin2] at hP1 hD1
    have hmap := zWd_map (e' := .inl (cid (zget h j).1, (zget h j).2.1, .inr (.inr (.inr (.inr (va_up f u (some q3))))))) he
    exact kk _ _ _ _ _ ⟨⟨lv, hl, by rw [hmap]; exact hL⟩, by rw [hmap]; exact hS3, hP1, hD1, hS1, zWd_set hW he hX2⟩ ⟨[], by rw [hmap, List.append_nil]⟩
  · have : 20 ≤ (zget h j).1 ∨ zcls (zget h j).1 = 99 := by
      unfold zcls
      split <;> omega
    rcases this with hh | hh
    · have : zcls (zget h j).1 = 0 ∨ zcls (zget h j).1 = 5 ∨ zcls (zget h j).1 = 2 ∨ zcls (zget h j).1 = 99 := by
        unfold zcls
        split <;> omega
      omega
    · omega
  · have : zcls (zget h j).1 = 0 ∨ zcls (zget h j).1 = 5 ∨ zcls (zget h j).1 = 2 ∨ zcls (zget h j).1 = 99 := by
      unfold zcls
      split <;> omega
    omega

theorem ztys_any {cid : Nat → ClassId} {k : Nat} (h : 16 ≤ k ∧ k ≤ 22) : ∃ ty : FieldType, (ztys cid)[k - 16]? = some (cid k, ty) := by
  have : k = 16 ∨ k = 17 ∨ k = 18 ∨ k = 19 ∨ k = 20 ∨ k = 21 ∨ k = 22 := by omega
  rcases this with rfl | rfl | rfl | rfl | rfl | rfl | rfl <;> exact ⟨_, rfl⟩
set_option maxHeartbeats 2000000 in
theorem zs_arraylength {p : Program} {l : Launch} {e : Env} {R : Room} {s : State} {m : MethodId} {args : Array Value} {below : List Frame} {meth : Method} {c : Code} {H : Heap} {locs : List Loc} {cells slots : Nat} {Q : State → Prop} {n0 : Nat} {D : va_G} {cid : Nat → ClassId} {ρ : Nat → Int32} {b L : Nat} {xs : Nat → Int32} {oc : Nat} {ini : Bool} {cc : ByteArray} {nL : Nat} {rt : Option FieldType} {tb : zTb} {ys : List MethodName} {G : zG} {pc npc a1 a2 : Nat} {al al' : zLs} {ast ast' : List zV} {sz dz du : Nat} {h h' : zH} {ls : Array Slot} {st : List Value} {ws : va_W} {pc' : Nat} 
    (C : zCx p s m args meth c n0 D cid b L xs oc ini cc nL rt) (F : zFx tb ys) (hG : zGok G ρ L xs) (hch : zchI tb oc ini nL rt pc .arraylength a1 a2 = true) (hd : decode cc pc = .ok (.arraylength, zlen .arraylength)) (hn : npc = pc + zlen .arraylength)
    (hs0 : zstep G .arraylength npc a1 a2 pc al ast sz h = some (.inl (pc', al', ast', h', dz, du))) (hA : zAt D cid ρ b n0 nL s al ast sz h ls st ws H locs) (hcells : cells + dz ≤ R.cells) (hslots : slots + du ≤ R.slots)
    (kk : ∀ (ws' : va_W) (H' : Heap) (locs' : List Loc) (ls' : Array Slot) (st' : List Value), zAt D cid ρ b n0 nL s al' ast' (sz + dz) h' ls' st' ws' H' locs' → (∃ xs, ws'.map Prod.fst = ws.map Prod.fst ++ xs) → W p l e R s m args below meth c H' locs' (cells + dz) (slots + du) Q (F0 m pc' ls' st')) : W p l e R s m args below meth c H locs cells slots Q (F0 m pc ls st) := by
  obtain ⟨hx, hb, hml, hown, hts, hKU, hini, hr, hlocks, hn0, hbn⟩ := C
  subst hn
  obtain ⟨a, r, rfl, hs1⟩ := z1_inv hs0
  unfold zalen at hs1
  split at hs1
  · split at hs1
    · rename_i n hGn
      cases hs1
      obtain ⟨⟨lv, hl, hL⟩, hS0, hP, hD, hSt, hW⟩ := hA
      obtain ⟨v1, w, rfl, g1, hS1⟩ := zS_cons hS0
      cases g1
      obtain ⟨rfl, hn⟩ := hG.2.1 _ hGn
      exact va_slen hx hb hKU.2.2.2.2 (Nat.lt_of_lt_of_le hbn hn0) (fun q => absurd hbn (Nat.not_lt.mpr q)) hSt hd (kk _ _ _ _ _ ⟨⟨lv, hl, hL⟩, ⟨rfl, hS1⟩, hP, hD, hSt, hW⟩ zpre)
    · cases hs1
  · obtain ⟨j, rfl, hj, hs2⟩ := zcell_inv hs1
    obtain ⟨hk1, hs3⟩ := zwhen_inv hs2
    cases hs3
    obtain ⟨⟨lv, hl, hL⟩, hS0, hP, hD, hSt, hW⟩ := hA
    obtain ⟨v, w, rfl, hv, hS1⟩ := zS_cons hS0
    obtain ⟨q, hq, rfl⟩ := hv
    obtain ⟨q2, e2, he, hq2, hX⟩ := zWd_at hW hj
    cases hq.symm.trans hq2
    have hk1 : 16 ≤ (zget h j).1 := Nat.le_of_ble_eq_true hk1
    rcases hX.2 with ⟨r4, fs, c1, -⟩ | ⟨c1, f, rfl, -⟩ | ⟨c1, f, rfl, -⟩
    · have := vwCl_lt c1
      omega
    · obtain ⟨ty, ht⟩ := ztys_any (cid := cid) (k := (zget h j).1) (by omega)
      exact va_alen hx hb hKU.1 hP j _ he ht rfl hd (kk _ _ _ _ _ ⟨⟨lv, hl, hL⟩, ⟨rfl, hS1⟩, hP, hD, hSt, hW⟩ zpre)
    · obtain ⟨ty, ht⟩ := ztys_any (cid := cid) (k := (zget h j).1) (by omega)
      exact va_alen hx hb hKU.1 hP j _ he ht rfl hd (kk _ _ _ _ _ ⟨⟨lv, hl, hL⟩, ⟨rfl, hS1⟩, hP, hD, hSt, hW⟩ zpre)

