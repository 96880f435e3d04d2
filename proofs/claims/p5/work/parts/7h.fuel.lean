/-! ===== more fuel, and the runs of both constructors ===== -/
theorem zmonoF {M : zT (Option zMR)} {G : zG} {tb : zTb} {ys : List MethodName} (hM : zAll (fun o => ∀ r, o = some r → zMrOK tb ys r) M) : ∀ (n : Nat) {d : Nat} {cd : zK} {cur : List zQ} {pc : Nat} {al : zLs} {ast : List zV} {sz us : Nat} {h : zH} {res}, zrun M (none, none, []) n d cd cur pc al ast sz us h = some res → ∀ (oc : Nat) (ini : Bool) (cc : ByteArray) (nL : Nat) (rt : Option FieldType), zAll (zEok tb oc ini cc nL rt) cd → zEok tb oc ini cc nL rt cur → zrun M G (n + 1) d cd cur pc al ast sz us h = some res := by
  intro n
  induction n with
  | zero =>
    intro d cd cur pc al ast sz us h res hrun0
    cases hrun0
  | succ n ih =>
    intro d cd cur pc al ast sz us h res hrun0 oc ini cc nL rt hcd hcur
    match cur, hrun0, hcur with
    | [], hrun0, _ => cases hrun0
    | q :: rest, hrun0, hcur =>
    have hrest : zEok tb oc ini cc nL rt rest := fun q hq => hcur q (List.mem_cons_of_mem _ hq)
    rcases hcur q List.mem_cons_self with ⟨⟨pc0, ins, npc, a1, a2⟩, rfl, hchk⟩ | ⟨pc0, i, k0, rfl, hchM⟩
    case inr =>
      have hrun1 : Bool.rec (motive := fun _ => zR) none (zout M (zrun M (none, none, []) n) d cd rest (pc0 + 3) al sz us h (zmf k0 (none, none, []) pc (pc0 + 3) 0 0 al ast sz h)) (Nat.beq pc0 pc) = some res := zrun_encM.symm.trans hrun0
      clear hrun0
      rw [zrun_encM]
      show Bool.rec (motive := fun _ => zR) none (zout M (zrun M G (n + 1)) d cd rest (pc0 + 3) al sz us h (zmf k0 G pc (pc0 + 3) 0 0 al ast sz h)) (Nat.beq pc0 pc) = some res
      cases hb : Nat.beq pc0 pc
      · rw [hb] at hrun1
        cases hrun1
      rw [hb] at hrun1
      have hrun2 : zout M (zrun M (none, none, []) n) d cd rest (pc0 + 3) al sz us h (zmf k0 (none, none, []) pc (pc0 + 3) 0 0 al ast sz h) = some res := hrun1
      clear hrun1
      show zout M (zrun M G (n + 1)) d cd rest (pc0 + 3) al sz us h (zmf k0 G pc (pc0 + 3) 0 0 al ast sz h) = some res
      have hk : zmf k0 G pc (pc0 + 3) 0 0 al ast sz h = zmf k0 (none, none, []) pc (pc0 + 3) 0 0 al ast sz h := by
        match k0 with
        | 0 => rfl
        | 1 => rfl
        | _ + 2 => rfl
      rw [hk]
      match ho : zmf k0 (none, none, []) pc (pc0 + 3) 0 0 al ast sz h, hrun2 with
      | none, hrun2 => cases hrun2
      | some o, hrun2 =>
        obtain ⟨ast2, rfl⟩ := zmath_inv ho
        have hrun : fN (sz + 0) (fun sz2 => fN (us + 0) (fun us2 => zrun M (none, none, []) n d cd (Bool.rec (motive := fun _ => List zQ) (zget cd (pc0 + 3)) rest (Nat.beq (pc0 + 3) (pc0 + 3))) (pc0 + 3) al ast2 sz2 us2 h)) = some res := hrun2
        show fN (sz + 0) (fun sz2 => fN (us + 0) (fun us2 => zrun M G (n + 1) d cd (Bool.rec (motive := fun _ => List zQ) (zget cd (pc0 + 3)) rest (Nat.beq (pc0 + 3) (pc0 + 3))) (pc0 + 3) al ast2 sz2 us2 h)) = some res
        rw [fN_eq, fN_eq, Nat.beq_refl] at hrun ⊢
        exact ih hrun oc ini cc nL rt hcd hrest
    have hrun1 : Bool.rec (motive := fun _ => zR) none (zout M (zrun M (none, none, []) n) d cd rest npc al sz us h (zdisp ins (none, none, []) pc npc a1 a2 al ast sz h)) (Nat.beq pc0 pc) = some res := zrun_enc.symm.trans hrun0
    clear hrun0
    rw [zrun_enc]
    show Bool.rec (motive := fun _ => zR) none (zout M (zrun M G (n + 1)) d cd rest npc al sz us h (zdisp ins G pc npc a1 a2 al ast sz h)) (Nat.beq pc0 pc) = some res
    cases hb : Nat.beq pc0 pc
    · rw [hb] at hrun1
      cases hrun1
    rw [hb] at hrun1
    have hpc : pc0 = pc := Nat.eq_of_beq_eq_true hb
    subst hpc
    obtain ⟨-, -, hch⟩ := zchk_inv hchk
    have hrun2 : zout M (zrun M (none, none, []) n) d cd rest npc al sz us h (zdisp ins (none, none, []) pc0 npc a1 a2 al ast sz h) = some res := hrun1
    clear hrun1
    show zout M (zrun M G (n + 1)) d cd rest npc al sz us h (zdisp ins G pc0 npc a1 a2 al ast sz h) = some res
    rw [zdisp_eq hch] at hrun2 ⊢
    match ho : zstep (none, none, []) ins npc a1 a2 pc0 al ast sz h, hrun2 with
    | none, hrun2 => cases hrun2
    | some (.inl (pc', ls', st', h1, dz, du)), hrun2 =>
      rw [zstep_mono ho]
      have hrun : fN (sz + dz) (fun sz2 => fN (us + du) (fun us2 => zrun M (none, none, []) n d cd (Bool.rec (motive := fun _ => List zQ) (zget cd pc') rest (Nat.beq pc' npc)) pc' ls' st' sz2 us2 h1)) = some res := hrun2
      show fN (sz + dz) (fun sz2 => fN (us + du) (fun us2 => zrun M G (n + 1) d cd (Bool.rec (motive := fun _ => List zQ) (zget cd pc') rest (Nat.beq pc' npc)) pc' ls' st' sz2 us2 h1)) = some res
      rw [fN_eq, fN_eq] at hrun ⊢
      refine ih hrun oc ini cc nL rt hcd ?_
      cases Nat.beq pc' npc
      · exact zAll_get hcd pc'
      · exact hrest
    | some (.inr (.inr v1)), hrun2 =>
      rw [zstep_mono ho]
      exact hrun2
    | some (.inr (.inl (mj, as, rest2, npc2))), hrun2 =>
      rw [zstep_mono ho]
      have hrun : zinv M (zrun M (none, none, []) n) d cd rest al sz us h mj as rest2 npc2 = some res := hrun2
      clear hrun2
      show zinv M (zrun M G (n + 1)) d cd rest al sz us h mj as rest2 npc2 = some res
      obtain ⟨d', rfl, hi⟩ := zinv_inv hrun
      rcases hi with ⟨rfl, a, rfl, haR, hb3, hr2⟩ | ⟨hne, ocj, inj, ccj, maxL, rtj, cdj, v1, sz1, us1, h1, hrec, hb2, hb3, hr1, hr2⟩
      · rw [zinv_obj haR hb3]
        exact ih hr2 oc ini cc nL rt hcd hrest
      · obtain ⟨y2, -, -, -, -, -, -, -, hcdj, -⟩ := zAll_get hM mj _ hrec
        rw [zinv_call hne hrec hb2 hb3 (ih hr1 ocj inj ccj maxL rtj hcdj (zAll_get hcdj 0))]
        exact ih hr2 oc ini cc nL rt hcd hrest
theorem zfuel {M : zT (Option zMR)} {tb : zTb} {ys : List MethodName} (hM : zAll (fun o => ∀ r, o = some r → zMrOK tb ys r) M) {n : Nat} {d : Nat} {cd : zK} {cur : List zQ} {pc : Nat} {al : zLs} {ast : List zV} {sz us : Nat} {h : zH} {res} (hr : zrun M (none, none, []) n d cd cur pc al ast sz us h = some res) (oc : Nat) (ini : Bool) (cc : ByteArray) (nL : Nat) (rt : Option FieldType) (hcd : zAll (zEok tb oc ini cc nL rt) cd) (hcur : zEok tb oc ini cc nL rt cur) : ∀ k : Nat, zrun M (none, none, []) (n + k) d cd cur pc al ast sz us h = some res
  | 0 => hr
  | k + 1 => zmonoF (G := (none, none, [])) hM (n + k) (zfuel hM hr oc ini cc nL rt hcd hcur k) oc ini cc nL rt hcd hcur
