/-! ===== what is known of no script holds for every script ===== -/
theorem zand_mono {G : zG} {a c : zV} {k : zV → zO} {o} (h : zand (none, none, []) a c k = some o) : zand G a c k = some o := by
  unfold zand at h ⊢
  split at h
  · cases h
  · exact h
theorem zali_mono {G : zG} {npc : Nat} {ls : zLs} {r : List zV} {sz : Nat} {h : zH} {a i : zV} {o} (hh : zali (none, none, []) npc ls r sz h a i = some o) : zali G npc ls r sz h a i = some o := by
  unfold zali at hh ⊢
  split at hh
  · cases hh
  · exact hh
theorem zalen_mono {G : zG} {npc : Nat} {ls : zLs} {r : List zV} {sz : Nat} {h : zH} {a : zV} {o} (hh : zalen (none, none, []) npc ls r sz h a = some o) : zalen G npc ls r sz h a = some o := by
  unfold zalen at hh ⊢
  split at hh
  · cases hh
  · exact hh
theorem zstep_mono {G : zG} {ins : Instr} {npc a1 a2 pc : Nat} {al : zLs} {ast : List zV} {sz : Nat} {h : zH} {o} (hs : zstep (none, none, []) ins npc a1 a2 pc al ast sz h = some o) : zstep G ins npc a1 a2 pc al ast sz h = some o := by
  cases ins with
  | iand =>
    obtain ⟨a, d, r, rfl, hs1⟩ := z2_inv hs
    exact zand_mono hs1
  | iaload =>
    obtain ⟨a, d, r, rfl, hs1⟩ := z2_inv hs
    exact zali_mono hs1
  | arraylength =>
    obtain ⟨a, r, rfl, hs1⟩ := z1_inv hs
    exact zalen_mono hs1
  | newarray t => cases t <;> exact hs
  | multianewarray i k =>
    match k, hs with
    | 0, hs => exact hs
    | 1, hs => exact hs
    | 2, hs => exact hs
    | k + 3, hs => exact hs
  | _ => exact hs
theorem zinv_call {M : zT (Option zMR)} {ih : zIH} {d : Nat} {cd : zK} {cur : List zQ} {ls : zLs} {sz us : Nat} {h : zH} {mj : Nat} {as rest : List zV} {npc : Nat} {oc : Nat} {ini : Bool} {cc : ByteArray} {maxL : Nat} {rt : Option FieldType} {cdj : zK} {v1 : Option zV} {sz1 us1 : Nat} {h1 : zH} (hne : mj ≠ 511) (hrec : zget M mj = some ((mj, oc, ini, cc, maxL, rt), cdj)) (hb2 : zcat as ≤ maxL) (hb3 : zcat rest ≤ 8) (hr1 : ih d cdj (zget cdj 0) 0 (zarg 0 as) [] sz us h = some (v1, sz1, us1, h1)) : zinv M ih (d + 1) cd cur ls sz us h mj as rest npc = ih (d + 1) cd cur npc ls (v1.toList ++ rest) sz1 us1 h1 := by
  have hb : Nat.beq mj (nat_lit 511) = false := by
    rw [← Bool.not_eq_true, Nat.beq_eq]
    exact hne
  unfold zinv
  try dsimp only
  rw [hb]
  try dsimp only
  rw [hrec]
  try dsimp only
  rw [show Nat.beq mj mj = true from Nat.beq_refl mj, Nat.ble_eq_true_of_le hb2, Nat.ble_eq_true_of_le hb3]
  try dsimp only [Bool.and_self]
  rw [show ih d cdj (zget cdj (nat_lit 0)) (nat_lit 0) (zarg (nat_lit 0) as) [] sz us h = some (v1, sz1, us1, h1) from hr1]
  cases v1 with
  | none => rfl
  | some a => rfl
theorem zinv_obj {M : zT (Option zMR)} {ih : zIH} {d : Nat} {cd : zK} {cur : List zQ} {ls : zLs} {sz us : Nat} {h : zH} {a : zV} {rest : List zV} {npc : Nat} (h1 : zisR a = true) (hb3 : zcat rest ≤ 8) : zinv M ih (d + 1) cd cur ls sz us h 511 [a] rest npc = ih (d + 1) cd cur npc ls rest sz us h := by
  unfold zinv
  try dsimp only
  rw [show Nat.beq 511 (nat_lit 511) = true from rfl]
  try dsimp only
  rw [h1, Nat.ble_eq_true_of_le hb3]
  rfl
theorem zmono {M : zT (Option zMR)} {G : zG} {tb : zTb} {ys : List MethodName} (hM : zAll (fun o => ∀ r, o = some r → zMrOK tb ys r) M) : ∀ (n : Nat) {d : Nat} {cd : zK} {cur : List zQ} {pc : Nat} {al : zLs} {ast : List zV} {sz us : Nat} {h : zH} {res}, zrun M (none, none, []) n d cd cur pc al ast sz us h = some res → ∀ (oc : Nat) (ini : Bool) (cc : ByteArray) (nL : Nat) (rt : Option FieldType), zAll (zEok tb oc ini cc nL rt) cd → zEok tb oc ini cc nL rt cur → zrun M G n d cd cur pc al ast sz us h = some res := by
  intro n
  induction n with
  | zero =>
    intro d cd cur pc al ast sz us h res hrun0
    cases hrun0
  | succ n ih =>
    intro d cd cur pc al ast sz us h res hrun0 oc ini cc nL rt hcd hcur
    match cur, hrun0, hcur with
    | [], hrun0, _ => cases hrun0
    | q :: rest, hrun0, hcur =>
    have hrest : zEok tb oc ini cc nL rt rest := fun q hq => hcur q (List.mem_cons_of_mem _ hq)
    rcases hcur q List.mem_cons_self with ⟨⟨pc0, ins, npc, a1, a2⟩, rfl, hchk⟩ | ⟨pc0, i, k0, rfl, hchM⟩
    case inr =>
      have hrun1 : Bool.rec (motive := fun _ => zR) none (zout M (zrun M (none, none, []) n) d cd rest (pc0 + 3) al sz us h (zmf k0 (none, none, []) pc (pc0 + 3) 0 0 al ast sz h)) (Nat.beq pc0 pc) = some res := zrun_encM.symm.trans hrun0
      clear hrun0
      rw [zrun_encM]
      show Bool.rec (motive := fun _ => zR) none (zout M (zrun M G n) d cd rest (pc0 + 3) al sz us h (zmf k0 G pc (pc0 + 3) 0 0 al ast sz h)) (Nat.beq pc0 pc) = some res
      cases hb : Nat.beq pc0 pc
      · rw [hb] at hrun1
        cases hrun1
      rw [hb] at hrun1
      have hrun2 : zout M (zrun M (none, none, []) n) d cd rest (pc0 + 3) al sz us h (zmf k0 (none, none, []) pc (pc0 + 3) 0 0 al ast sz h) = some res := hrun1
      clear hrun1
      show zout M (zrun M G n) d cd rest (pc0 + 3) al sz us h (zmf k0 G pc (pc0 + 3) 0 0 al ast sz h) = some res
      have hk : zmf k0 G pc (pc0 + 3) 0 0 al ast sz h = zmf k0 (none, none, []) pc (pc0 + 3) 0 0 al ast sz h := by
        match k0 with
        | 0 => rfl
        | 1 => rfl
        | _ + 2 => rfl
      rw [hk]
      match ho : zmf k0 (none, none, []) pc (pc0 + 3) 0 0 al ast sz h, hrun2 with
      | none, hrun2 => cases hrun2
      | some o, hrun2 =>
        obtain ⟨ast2, rfl⟩ := zmath_inv ho
        have hrun : fN (sz + 0) (fun sz2 => fN (us + 0) (fun us2 => zrun M (none, none, []) n d cd (Bool.rec (motive := fun _ => List zQ) (zget cd (pc0 + 3)) rest (Nat.beq (pc0 + 3) (pc0 + 3))) (pc0 + 3) al ast2 sz2 us2 h)) = some res := hrun2
        show fN (sz + 0) (fun sz2 => fN (us + 0) (fun us2 => zrun M G n d cd (Bool.rec (motive := fun _ => List zQ) (zget cd (pc0 + 3)) rest (Nat.beq (pc0 + 3) (pc0 + 3))) (pc0 + 3) al ast2 sz2 us2 h)) = some res
        rw [fN_eq, fN_eq, Nat.beq_refl] at hrun ⊢
        exact ih hrun oc ini cc nL rt hcd hrest
    have hrun1 : Bool.rec (motive := fun _ => zR) none (zout M (zrun M (none, none, []) n) d cd rest npc al sz us h (zdisp ins (none, none, []) pc npc a1 a2 al ast sz h)) (Nat.beq pc0 pc) = some res := zrun_enc.symm.trans hrun0
    clear hrun0
    rw [zrun_enc]
    show Bool.rec (motive := fun _ => zR) none (zout M (zrun M G n) d cd rest npc al sz us h (zdisp ins G pc npc a1 a2 al ast sz h)) (Nat.beq pc0 pc) = some res
    cases hb : Nat.beq pc0 pc
    · rw [hb] at hrun1
      cases hrun1
    rw [hb] at hrun1
    have hpc : pc0 = pc := Nat.eq_of_beq_eq_true hb
    subst hpc
    obtain ⟨-, -, hch⟩ := zchk_inv hchk
    have hrun2 : zout M (zrun M (none, none, []) n) d cd rest npc al sz us h (zdisp ins (none, none, []) pc0 npc a1 a2 al ast sz h) = some res := hrun1
    clear hrun1
    show zout M (zrun M G n) d cd rest npc al sz us h (zdisp ins G pc0 npc a1 a2 al ast sz h) = some res
    rw [zdisp_eq hch] at hrun2 ⊢
    match ho : zstep (none, none, []) ins npc a1 a2 pc0 al ast sz h, hrun2 with
    | none, hrun2 => cases hrun2
    | some (.inl (pc', ls', st', h1, dz, du)), hrun2 =>
      rw [zstep_mono ho]
      have hrun : fN (sz + dz) (fun sz2 => fN (us + du) (fun us2 => zrun M (none, none, []) n d cd (Bool.rec (motive := fun _ => List zQ) (zget cd pc') rest (Nat.beq pc' npc)) pc' ls' st' sz2 us2 h1)) = some res := hrun2
      show fN (sz + dz) (fun sz2 => fN (us + du) (fun us2 => zrun M G n d cd (Bool.rec (motive := fun _ => List zQ) (zget cd pc') rest (Nat.beq pc' npc)) pc' ls' st' sz2 us2 h1)) = some res
      rw [fN_eq, fN_eq] at hrun ⊢
      refine ih hrun oc ini cc nL rt hcd ?_
      cases Nat.beq pc' npc
      · exact zAll_get hcd pc'
      · exact hrest
    | some (.inr (.inr v1)), hrun2 =>
      rw [zstep_mono ho]
      exact hrun2
    | some (.inr (.inl (mj, as, rest2, npc2))), hrun2 =>
      rw [zstep_mono ho]
      have hrun : zinv M (zrun M (none, none, []) n) d cd rest al sz us h mj as rest2 npc2 = some res := hrun2
      clear hrun2
      show zinv M (zrun M G n) d cd rest al sz us h mj as rest2 npc2 = some res
      obtain ⟨d', rfl, hi⟩ := zinv_inv hrun
      rcases hi with ⟨rfl, a, rfl, haR, hb3, hr2⟩ | ⟨hne, ocj, inj, ccj, maxL, rtj, cdj, v1, sz1, us1, h1, hrec, hb2, hb3, hr1, hr2⟩
      · rw [zinv_obj haR hb3]
        exact ih hr2 oc ini cc nL rt hcd hrest
      · obtain ⟨y2, -, -, -, -, -, -, -, hcdj, -⟩ := zAll_get hM mj _ hrec
        rw [zinv_call hne hrec hb2 hb3 (ih hr1 ocj inj ccj maxL rtj hcdj (zAll_get hcdj 0))]
        exact ih hr2 oc ini cc nL rt hcd hrest
theorem zrun_lin {M : zT (Option zMR)} {G : zG} {n d : Nat} {cd : zK} {rest : List zQ} {p npc a1 a2 : Nat} {fn : zCn} {f : zFn} (hq : zQk fn f) {al al' : zLs} {ast ast' : List zV} {sz us dz du : Nat} {h h' : zH} (hfn : f G p npc a1 a2 al ast sz h = some (.inl (npc, al', ast', h', dz, du))) : zrun M G (n + 1) d cd ((fun k => k p fn npc a1 a2) :: rest) p al ast sz us h = zrun M G n d cd rest npc al' ast' (sz + dz) (us + du) h' := by
  rw [zrun_qk hq, Nat.beq_refl]
  show zout M (zrun M G n) d cd rest npc al sz us h (f G p npc a1 a2 al ast sz h) = _
  rw [hfn]
  show fN (sz + dz) (fun sz2 => fN (us + du) (fun us2 => zrun M G n d cd (Bool.rec (motive := fun _ => List zQ) (zget cd npc) rest (Nat.beq npc npc)) npc al' ast' sz2 us2 h')) = _
  rw [fN_eq, fN_eq, Nat.beq_refl]
theorem zrun_call {M : zT (Option zMR)} {G : zG} {n d : Nat} {cd : zK} {rest : List zQ} {p npc a1 a2 : Nat} {fn : zCn} {f : zFn} (hq : zQk fn f) {al : zLs} {ast : List zV} {sz us : Nat} {h : zH} {as rst : List zV} {oc : Nat} {ini : Bool} {cc : ByteArray} {maxL : Nat} {rt : Option FieldType} {cdj : zK} {v1 : Option zV} {sz1 us1 : Nat} {h1 : zH} (hfn : f G p npc a1 a2 al ast sz h = some (.inr (.inl (a1, as, rst, npc)))) (hne : a1 ≠ 511) (hrec : zget M a1 = some ((a1, oc, ini, cc, maxL, rt), cdj)) (hb2 : zcat as ≤ maxL) (hb3 : zcat rst ≤ 8) (hr1 : zrun M G n d cdj (zget cdj 0) 0 (zarg 0 as) [] sz us h = some (v1, sz1, us1, h1)) : zrun M G (n + 1) (d + 1) cd ((fun k => k p fn npc a1 a2) :: rest) p al ast sz us h = zrun M G n (d + 1) cd rest npc al (v1.toList ++ rst) sz1 us1 h1 := by
  rw [zrun_qk hq, Nat.beq_refl]
  show zout M (zrun M G n) (d + 1) cd rest npc al sz us h (f G p npc a1 a2 al ast sz h) = _
  rw [hfn]
  exact zinv_call hne hrec hb2 hb3 hr1
