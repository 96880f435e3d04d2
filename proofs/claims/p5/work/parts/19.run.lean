theorem zinv_inv {M : zT (Option zMR)} {ih : zIH} {d : Nat} {cd : zK} {cur : List zQ} {ls : zLs} {sz us : Nat} {h : zH} {mj : Nat} {as rest : List zV} {npc : Nat} {res} (hh : zinv M ih d cd cur ls sz us h mj as rest npc = some res) : ∃ d', d = d' + 1 ∧
    ((mj = 511 ∧ ∃ a, as = [a] ∧ zisR a = true ∧ zcat rest ≤ 8 ∧ ih (d' + 1) cd cur npc ls rest sz us h = some res) ∨
     (mj ≠ 511 ∧ ∃ (oc : Nat) (ini : Bool) (cc : ByteArray) (maxL : Nat) (rt : Option FieldType) (cdj : zK) (v1 : Option zV) (sz1 us1 : Nat) (h1 : zH), zget M mj = some ((mj, oc, ini, cc, maxL, rt), cdj) ∧ zcat as ≤ maxL ∧ zcat rest ≤ 8 ∧ ih d' cdj (zget cdj 0) 0 (zarg 0 as) [] sz us h = some (v1, sz1, us1, h1) ∧ ih (d' + 1) cd cur npc ls (v1.toList ++ rest) sz1 us1 h1 = some res)) := by
  unfold zinv at hh
  split at hh
  · cases hh
  · rename_i d'
    refine ⟨d', rfl, ?_⟩
    cases hb : Nat.beq mj (nat_lit 511)
    · rw [hb] at hh
      refine Or.inr ⟨(fun q => by rw [q] at hb; cases hb), ?_⟩
      dsimp only at hh
      split at hh
      · cases hh
      · rename_i num oc ini cc maxL rt cdj hrec
        cases hbc : (Nat.beq num mj && Nat.ble (zcat as) maxL && Nat.ble (zcat rest) (nat_lit 8))
        · rw [hbc] at hh
          cases hh
        · rw [hbc] at hh
          dsimp only at hh
          rw [Bool.and_eq_true, Bool.and_eq_true] at hbc
          obtain ⟨⟨hb1, hb2⟩, hb3⟩ := hbc
          have hb1 : num = mj := Nat.eq_of_beq_eq_true hb1
          subst hb1
          split at hh
          · rename_i v1 sz1 us1 h1 hr1
            refine ⟨oc, ini, cc, maxL, rt, cdj, v1, sz1, us1, h1, hrec, Nat.le_of_ble_eq_true hb2, Nat.le_of_ble_eq_true hb3, hr1, ?_⟩
            cases v1 with
            | none => exact hh
            | some a => exact hh
          · cases hh
    · rw [hb] at hh
      refine Or.inl ⟨Nat.eq_of_beq_eq_true hb, ?_⟩
      dsimp only at hh
      split at hh
      · rename_i a
        cases hbc : (zisR a && Nat.ble (zcat rest) (nat_lit 8))
        · rw [hbc] at hh
          cases hh
        · rw [hbc] at hh
          rw [Bool.and_eq_true] at hbc
          exact ⟨a, rfl, hbc.1, Nat.le_of_ble_eq_true hbc.2, hh⟩
      · cases hh
theorem zmath_inv {k : Nat} {G : zG} {pc npc a1 a2 : Nat} {al : zLs} {ast : List zV} {sz : Nat} {h : zH} {o} (hh : zmf k G pc npc a1 a2 al ast sz h = some o) : ∃ ast2, o = .inl (npc, al, ast2, h, 0, 0) := by
  match k, hh with
  | 0, hh =>
    obtain ⟨a, d, r, rfl, hs1⟩ := z2_inv hh
    obtain ⟨-, hs2⟩ := zwhen_inv hs1
    rcases zbr_inv hs2 with ⟨-, hs3⟩ | ⟨-, hs3⟩ <;> exact ⟨_, (Option.some.inj hs3).symm⟩
  | 1, hh =>
    obtain ⟨a, d, r, rfl, hs1⟩ := z2_inv hh
    obtain ⟨-, hs2⟩ := zwhen_inv hs1
    rcases zbr_inv hs2 with ⟨-, hs3⟩ | ⟨-, hs3⟩ <;> exact ⟨_, (Option.some.inj hs3).symm⟩
  | k + 2, hh =>
    obtain ⟨a, r, rfl, hs1⟩ := z1_inv hh
    obtain ⟨-, hs2⟩ := zwhen_inv hs1
    rcases zbr_inv hs2 with ⟨-, hs3⟩ | ⟨-, hs3⟩
    · exact ⟨_, (Option.some.inj hs3).symm⟩
    · obtain ⟨-, -, r2, hs4, -⟩ := zsub_ok (ρ := fun _ => 0) hs3
      exact ⟨_, (Option.some.inj hs4).symm⟩
theorem zmath_W {p : Program} {l : Launch} {e : Env} {R : Room} {s : State} {m : MethodId} {args : Array Value} {below : List Frame} {meth : Method} {c : Code} {H : Heap} {locs : List Loc} {cells slots : Nat} {Q : State → Prop} {n0 : Nat} {D : va_G} {cid : Nat → ClassId} {ρ : Nat → Int32} {b L : Nat} {xs : Nat → Int32} {oc : Nat} {ini : Bool} {cc : ByteArray} {nL : Nat} {rt : Option FieldType} {G : zG} {pc i k : Nat} {al : zLs} {ast ast2 : List zV} {sz : Nat} {h : zH} {ls : Array Slot} {st : List Value} {ws : va_W}
    (C : zCx p s m args meth c n0 D cid b L xs oc ini cc nL rt) (F : zMtOK) (hch : zchM oc cc pc i k = true) (hs : zmf k G pc (pc + 3) 0 0 al ast sz h = some (.inl (pc + 3, al, ast2, h, 0, 0))) (hA : zAt D cid ρ b n0 nL s al ast sz h ls st ws H locs) (hfr : 1 ≤ R.frames) (hlo : 64 ≤ R.locals) (hc : cells ≤ R.cells) (hsl : slots ≤ R.slots)
    (kk : ∀ st2 : List Value, zAt D cid ρ b n0 nL s al ast2 sz h ls st2 ws H locs → W p l e R s m args below meth c H locs cells slots Q (F0 m (pc + 3) ls st2)) : W p l e R s m args below meth c H locs cells slots Q (F0 m pc ls st) := by
  obtain ⟨hx, hb, hml, hown, hts, hKU, hini, hr, hlocks, hn0, hbn⟩ := C
  obtain ⟨⟨lv, hl, hL⟩, hS0, hP, hD, hSt, hW⟩ := hA
  unfold zchM at hch
  rw [Bool.and_eq_true] at hch
  have hd := of_decide_eq_true hch.1
  have hm : (i, k) ∈ zmt oc := by
    obtain ⟨⟨i2, k2⟩, h1, h2⟩ := List.any_eq_true.mp hch.2
    simp only [Bool.and_eq_true, beq_iff_eq] at h2
    obtain ⟨rfl, rfl⟩ := h2
    exact h1
  have hmL : c.maxLocals = ls.size := hml.trans hl.1.symm
  have hlink := hts _ (F.1 oc i k hm)
  have hstat := hts _ (F.2.1 k)
  have hinit := hts _ F.2.2.1
  match k, hs, hlink, hstat with
  | 0, hs, hlink, hstat =>
    obtain ⟨a, d, r, rfl, hs1⟩ := z2_inv hs
    obtain ⟨hcr, hs2⟩ := zwhen_inv hs1
    obtain ⟨v2, w, rfl, g2, hS1⟩ := zS_cons hS0
    obtain ⟨v1, w, rfl, g1, hS2⟩ := zS_cons hS1
    have hcat : (w.map fun v => v.category).sum ≤ 8 := by rw [zS_cat hS2]; exact Nat.le_of_ble_eq_true hcr
    rcases zbr_inv hs2 with ⟨hcm, hs3⟩ | ⟨hcm, hs3⟩
    · obtain ⟨h1, h2, hh⟩ := zcmp_ok (ρ := ρ) hcm
      obtain ⟨y, rfl, k2⟩ := zg_I g2 h2
      obtain ⟨x, rfl, k1⟩ := zg_I g1 h1
      have hxy : x < y := (hh x y k1 k2).mpr rfl
      cases hs3
      refine va_mmax hx hb hmL hown hlink hstat hinit (hts _ F.2.2.2.1) hfr (by omega) hc hsl hd ?_
      rw [if_pos hxy]
      exact kk _ ⟨⟨lv, hl, hL⟩, ⟨g2, hS2⟩, hP, hD, hSt, hW⟩
    · obtain ⟨h1, h2, hh⟩ := zcmp_ok (ρ := ρ) hcm
      obtain ⟨y, rfl, k2⟩ := zg_I g2 h2
      obtain ⟨x, rfl, k1⟩ := zg_I g1 h1
      have hxy : ¬ x < y := fun q => Bool.noConfusion ((hh x y k1 k2).mp q)
      cases hs3
      refine va_mmax hx hb hmL hown hlink hstat hinit (hts _ F.2.2.2.1) hfr (by omega) hc hsl hd ?_
      rw [if_neg hxy]
      exact kk _ ⟨⟨lv, hl, hL⟩, ⟨g1, hS2⟩, hP, hD, hSt, hW⟩
  | 1, hs, hlink, hstat =>
    obtain ⟨a, d, r, rfl, hs1⟩ := z2_inv hs
    obtain ⟨hcr, hs2⟩ := zwhen_inv hs1
    obtain ⟨v2, w, rfl, g2, hS1⟩ := zS_cons hS0
    obtain ⟨v1, w, rfl, g1, hS2⟩ := zS_cons hS1
    have hcat : (w.map fun v => v.category).sum ≤ 8 := by rw [zS_cat hS2]; exact Nat.le_of_ble_eq_true hcr
    rcases zbr_inv hs2 with ⟨hcm, hs3⟩ | ⟨hcm, hs3⟩
    · obtain ⟨h2, h1, hh⟩ := zcmp_ok (ρ := ρ) hcm
      obtain ⟨y, rfl, k2⟩ := zg_I g2 h2
      obtain ⟨x, rfl, k1⟩ := zg_I g1 h1
      have hxy : y < x := (hh y x k2 k1).mpr rfl
      cases hs3
      refine va_mmin hx hb hmL hown hlink hstat hinit (hts _ F.2.2.2.2.1) hfr (by omega) hc hsl hd ?_
      rw [if_pos hxy]
      exact kk _ ⟨⟨lv, hl, hL⟩, ⟨g2, hS2⟩, hP, hD, hSt, hW⟩
    · obtain ⟨h2, h1, hh⟩ := zcmp_ok (ρ := ρ) hcm
      obtain ⟨y, rfl, k2⟩ := zg_I g2 h2
      obtain ⟨x, rfl, k1⟩ := zg_I g1 h1
      have hxy : ¬ y < x := fun q => Bool.noConfusion ((hh y x k2 k1).mp q)
      cases hs3
      refine va_mmin hx hb hmL hown hlink hstat hinit (hts _ F.2.2.2.2.1) hfr (by omega) hc hsl hd ?_
      rw [if_neg hxy]
      exact kk _ ⟨⟨lv, hl, hL⟩, ⟨g1, hS2⟩, hP, hD, hSt, hW⟩
  | k + 2, hs, hlink, hstat =>
    obtain ⟨a, r, rfl, hs1⟩ := z1_inv hs
    obtain ⟨hcr, hs2⟩ := zwhen_inv hs1
    obtain ⟨v1, w, rfl, g1, hS2⟩ := zS_cons hS0
    have hcat : (w.map fun v => v.category).sum ≤ 8 := by rw [zS_cat hS2]; exact Nat.le_of_ble_eq_true hcr
    rcases zbr_inv hs2 with ⟨hcm, hs3⟩ | ⟨hcm, hs3⟩
    · obtain ⟨h1, h2, hh⟩ := zcmp_ok (ρ := ρ) hcm
      obtain ⟨x, rfl, k1⟩ := zg_I g1 h1
      have hxy : 0 ≤ x := (hh x 0 k1 zI_0.symm).mpr rfl
      cases hs3
      refine va_mabs hx hb hmL hown hlink hstat hinit (hts _ F.2.2.2.2.2) hfr (by omega) hc hsl hd ?_
      rw [if_pos hxy]
      exact kk _ ⟨⟨lv, hl, hL⟩, ⟨g1, hS2⟩, hP, hD, hSt, hW⟩
    · obtain ⟨h1, h2, hh⟩ := zcmp_ok (ρ := ρ) hcm
      obtain ⟨x, rfl, k1⟩ := zg_I g1 h1
      have hxy : ¬ 0 ≤ x := fun q => Bool.noConfusion ((hh x 0 k1 zI_0.symm).mp q)
      obtain ⟨-, -, z, hs4, hz⟩ := zsub_ok (ρ := ρ) hs3
      cases hs4
      refine va_mabs hx hb hmL hown hlink hstat hinit (hts _ F.2.2.2.2.2) hfr (by omega) hc hsl hd ?_
      rw [if_neg hxy]
      exact kk _ ⟨⟨lv, hl, hL⟩, ⟨zg_ofI (hz 0 x zI_0.symm k1), hS2⟩, hP, hD, hSt, hW⟩
set_option maxHeartbeats 4000000 in
theorem zsound {M : zT (Option zMR)} {G : zG} {l : Launch} {tb : zTb} {ys : List MethodName} (F : zFx tb ys) (hM : zAll (fun o => ∀ r, o = some r → zMrOK tb ys r) M) {n0 : Nat} {D : va_G} {cid : Nat → ClassId} {ρ : Nat → Int32} {b L : Nat} {xs : Nat → Int32} (hG : zGok G ρ L xs) : ∀ (n : Nat) {d : Nat} {cd : zK} {cur : List zQ} {pc : Nat} {al : zLs} {ast : List zV} {sz us : Nat} {h : zH} {v : Option zV} {sz' us' : Nat} {h' : zH}, zrun M G n d cd cur pc al ast sz us h = some (v, sz', us', h') → zConc l tb n0 D cid ρ b L xs d cd cur pc al ast sz us h v sz' us' h' := by
  intro n
  induction n with
  | zero =>
    intro d cd cur pc al ast sz us h v sz' us' h' hrun0
    cases hrun0
  | succ n ih =>
    intro d cd cur pc al ast sz us h v sz' us' h' hrun0 oc ini cc nL rt hcd hcur
    match cur, hrun0, hcur with
    | [], hrun0, _ => cases hrun0
    | q :: rest, hrun0, hcur =>
    have hrest : zEok tb oc ini cc nL rt rest := fun q hq => hcur q (List.mem_cons_of_mem _ hq)
    rcases hcur q List.mem_cons_self with ⟨⟨pc0, ins, npc, a1, a2⟩, rfl, hchk⟩ | ⟨pc0, i, k0, rfl, hchM⟩
    case inr =>
      have hrun1 : Bool.rec (motive := fun _ => zR) none (zout M (zrun M G n) d cd rest (pc0 + 3) al sz us h (zmf k0 G pc (pc0 + 3) 0 0 al ast sz h)) (Nat.beq pc0 pc) = some (v, sz', us', h') := zrun_encM.symm.trans hrun0
      clear hrun0
      cases hb : Nat.beq pc0 pc
      · rw [hb] at hrun1
        cases hrun1
      rw [hb] at hrun1
      have hpc : pc0 = pc := Nat.eq_of_beq_eq_true hb
      subst hpc
      have hrun2 : zout M (zrun M G n) d cd rest (pc0 + 3) al sz us h (zmf k0 G pc0 (pc0 + 3) 0 0 al ast sz h) = some (v, sz', us', h') := hrun1
      clear hrun1
      match ho : zmf k0 G pc0 (pc0 + 3) 0 0 al ast sz h, hrun2 with
      | none, hrun2 => cases hrun2
      | some o, hrun2 =>
        obtain ⟨ast2, rfl⟩ := zmath_inv ho
        have hrun : fN (sz + 0) (fun sz2 => fN (us + 0) (fun us2 => zrun M G n d cd (Bool.rec (motive := fun _ => List zQ) (zget cd (pc0 + 3)) rest (Nat.beq (pc0 + 3) (pc0 + 3))) (pc0 + 3) al ast2 sz2 us2 h)) = some (v, sz', us', h') := hrun2
        rw [fN_eq, fN_eq, Nat.beq_refl] at hrun
        obtain ⟨⟨m1, m2⟩, k⟩ := ih (sz := sz) (us := us) hrun oc ini cc nL rt hcd hrest
        refine ⟨⟨m1, m2⟩, fun p e R s m args below meth c H locs cells slots Q ls st ws C hA hdR hlR hcells hslots hret => ?_⟩
        refine zmath_W C F.2.2.2.2.2.2.2.2.2 hchM ho hA (by omega) (by omega) (by omega) (by omega) (fun st2 hA2 => ?_)
        exact k p e R s m args below meth c H locs cells slots Q ls st2 ws C hA2 hdR hlR hcells hslots hret
    have hrun1 : Bool.rec (motive := fun _ => zR) none (zout M (zrun M G n) d cd rest npc al sz us h (zdisp ins G pc npc a1 a2 al ast sz h)) (Nat.beq pc0 pc) = some (v, sz', us', h') := zrun_enc.symm.trans hrun0
    clear hrun0
    cases hb : Nat.beq pc0 pc
    · rw [hb] at hrun1
      cases hrun1
    rw [hb] at hrun1
    have hpc : pc0 = pc := Nat.eq_of_beq_eq_true hb
    subst hpc
    obtain ⟨hd, hn, hch⟩ := zchk_inv hchk
    have hrun2 : zout M (zrun M G n) d cd rest npc al sz us h (zdisp ins G pc0 npc a1 a2 al ast sz h) = some (v, sz', us', h') := hrun1
    clear hrun1
    rw [zdisp_eq hch] at hrun2
    match ho : zstep G ins npc a1 a2 pc0 al ast sz h, hrun2 with
    | none, hrun2 => cases hrun2
    | some (.inl (pc', ls', st', h1, dz, du)), hrun2 =>
      have hrun : fN (sz + dz) (fun sz2 => fN (us + du) (fun us2 => zrun M G n d cd (Bool.rec (motive := fun _ => List zQ) (zget cd pc') rest (Nat.beq pc' npc)) pc' ls' st' sz2 us2 h1)) = some (v, sz', us', h') := hrun2
      rw [fN_eq, fN_eq] at hrun
      have hcur2 : zEok tb oc ini cc nL rt (Bool.rec (motive := fun _ => List zQ) (zget cd pc') rest (Nat.beq pc' npc)) := by
        cases Nat.beq pc' npc
        · exact zAll_get hcd pc'
        · exact hrest
      obtain ⟨⟨m1, m2⟩, k⟩ := ih hrun oc ini cc nL rt hcd hcur2
      refine ⟨⟨by omega, by omega⟩, fun p e R s m args below meth c H locs cells slots Q ls st ws C hA hdR hlR hcells hslots hret => ?_⟩
      refine zgo_ok C F hG hch hd hn ho hA (by omega) (by omega) (fun ws2 H2 locs2 ls2 st2 hA2 hpre2 => ?_)
      refine k p e R s m args below meth c H2 locs2 (cells + dz) (slots + du) Q ls2 st2 ws2 C hA2 hdR hlR (by omega) (by omega) (fun pc3 ls3 ws3 H3 locs3 vs ins3 q1 q2 q3 q4 q5 q6 q7 => ?_)
      have hpre3 : ∃ ys, ws3.map Prod.fst = ws.map Prod.fst ++ ys := by
        obtain ⟨y1, e1⟩ := hpre2
        obtain ⟨y2, e2⟩ := q7
        exact ⟨y1 ++ y2, by rw [e2, e1, List.append_assoc]⟩
      have hw := hret pc3 ls3 ws3 H3 locs3 vs ins3 q1 q2 q3 q4 q5 q6 hpre3
      rw [show cells + (sz' - sz) = cells + dz + (sz' - (sz + dz)) by omega, show slots + (us' - us) = slots + du + (us' - (us + du)) by omega] at hw
      exact hw
    | some (.inr (.inr v1)), hrun2 =>
      have hrun : some (v1, sz, us, h) = some (v, sz', us', h') := hrun2
      clear hrun2
      cases hrun
      refine ⟨⟨Nat.le_refl _, Nat.le_refl _⟩, fun p e R s m args below meth c H locs cells slots Q ls st ws C hA hdR hlR hcells hslots hret => ?_⟩
      obtain ⟨hLl, hS, hP, hD, hSt, hW⟩ := hA
      obtain ⟨g1, g2, g3⟩ := zret_ok hch ho hS hG.1
      rw [g2] at hd
      have hd2 : decode cc pc0 = .ok (ins, zlen ins) := hd
      rw [g1] at hd2
      have hw := hret pc0 ls ws H locs st ins hd2 g3 hP hD hSt hW zpre
      rw [Nat.sub_self, Nat.sub_self] at hw
      exact hw
    | some (.inr (.inl (mj, as, rest2, npc2))), hrun2 =>
      have hrun : zinv M (zrun M G n) d cd rest al sz us h mj as rest2 npc2 = some (v, sz', us', h') := hrun2
      clear hrun2
      obtain ⟨i, kd, hml, hkind, as2, rest3, hoo, hst, hlen, hrecv, hrecI⟩ := zcall_kind hG.1 hch ho
      obtain ⟨rfl, rfl, rfl, rfl⟩ : mj = a1 ∧ as = as2 ∧ rest2 = rest3 ∧ npc2 = npc := by
        cases hoo
        exact ⟨rfl, rfl, rfl, rfl⟩
      have hsw : zisSw ins = false ∧ zlen ins = 3 := by
        rcases hkind with ⟨-, rfl⟩ | ⟨-, rfl⟩ | ⟨-, rfl⟩ <;> exact ⟨rfl, rfl⟩
      have hn2 := hn hsw.1
      rw [hsw.1] at hd
      have hd2 : decode cc pc0 = .ok (ins, zlen ins) := hd
      rw [hsw.2] at hd2 hn2
      obtain ⟨d', rfl, hi⟩ := zinv_inv hrun
      rcases hi with ⟨h511, a, hasa, haR, hb3, hr2⟩ | ⟨hne, ocj, inj, ccj, maxL, rtj, cdj, v1, sz1, us1, h1, hrec, hb2, hb3, hr1, hr2⟩
      · -- Object()
        rcases F.2.2.2.2.2.2.2.2.1 oc i kd mj a2 hml with ⟨-, rfl, ha2, k1, k2, k3⟩ | ⟨q, -⟩
        · rcases hkind with ⟨q, -⟩ | ⟨q, -⟩ | ⟨-, rfl⟩
          · cases q
          · cases q
          obtain ⟨⟨m3, m4⟩, k⟩ := ih hr2 oc ini cc nL rt hcd hrest
          refine ⟨⟨m3, m4⟩, fun p e R s m args below meth c H locs cells slots Q ls st ws C hA hdR hlR hcells hslots hret => ?_⟩
          have C0 := C
          obtain ⟨hx, hbb, hmlc, hown, hts, hKU, hini2, hr, hlocks, hn0, hbn⟩ := C
          obtain ⟨⟨lv, hl, hL⟩, hS, hP, hD, hSt, hW⟩ := hA
          rw [hst, hasa] at hS
          obtain ⟨w, u2, rfl, hg, hS2⟩ := zS_cons (t := rest2) hS
          obtain ⟨q0, rfl⟩ := zg_R hg haR
          have hcat2 : (u2.map fun v => v.category).sum ≤ 8 := by rw [zS_cat hS2]; exact hb3
          have hroom : 2 * (F0 m pc0 ls (.ref q0 :: u2)).monitorRoom + (u2.map fun v => v.category).sum ≤ 8 := lv_room hcat2
          have hw := k p e R s m args below meth c H locs cells slots Q ls u2 ws C0 ⟨⟨lv, hl, hL⟩, hS2, hP, hD, hSt, hW⟩ hdR hlR hcells hslots hret
          rw [hn2] at hw
          have r1 : 1 ≤ R.frames := by omega
          have r2 : 2 * (F0 m pc0 ls (.ref q0 :: u2)).monitorRoom + (u2.map fun v => v.category).sum + 12 ≤ R.locals := by omega
          exact W.objInit hx hbb hown (hts _ k1) (hts _ k2) (hts _ k3) (g := F0 m pc0 ls (.ref q0 :: u2)) rfl (hl.1.trans hmlc.symm) rfl hd2 r1 r2 hw
        · exact absurd h511 q
      · -- a method of ours
        rcases F.2.2.2.2.2.2.2.2.1 oc i kd mj a2 hml with ⟨q, -⟩ | ⟨-, y, hy, hlk, hini, hk⟩
        · exact absurd q hne
        obtain ⟨y2, hy2, hcode, hcls, hplain, hnotH, hin2, hmax, hcdj, hrn⟩ := zAll_get hM mj _ hrec
        have hyy : y = y2 := Option.some.inj (hy.symm.trans hy2)
        subst hyy
        have hC1 := ih hr1
        obtain ⟨⟨m1, m2⟩, -⟩ := hC1 ocj inj ccj maxL rtj hcdj (zAll_get hcdj 0)
        obtain ⟨⟨m3, m4⟩, k⟩ := ih hr2 oc ini cc nL rt hcd hrest
        refine ⟨⟨by omega, by omega⟩, fun p e R s m args below meth c H locs cells slots Q ls st ws C hA hdR hlR hcells hslots hret => ?_⟩
        have C0 := C
        obtain ⟨hx, hbb, hmlc, hown, hts, hKU, hini2, hr, hlocks, hn0, hbn⟩ := C
        obtain ⟨⟨lv, hl, hL⟩, hS, hP, hD, hSt, hW⟩ := hA
        rw [hst] at hS
        obtain ⟨u1, u2, rfl, hS1, hS2⟩ := zS_split hS
        have hSa : zS ρ b (ws.map Prod.fst) as u1.reverse := by
          have := zS_rev hS1
          rwa [List.reverse_reverse] at this
        obtain ⟨Af, hu1⟩ : ∃ Af, u1 = Af.reverse := ⟨u1.reverse, by rw [List.reverse_reverse]⟩
        subst hu1
        rw [List.reverse_reverse] at hSa
        have hHn : n0 ≤ H.size := Nat.le_trans hn0 hSt.1
        have hbH : H[b]? = s.heap[b]? := hSt.2.1 b (Nat.lt_of_lt_of_le hbn hn0) (fun q => absurd hbn (Nat.not_lt.mpr q))
        have hMet := zmet hC1 hcls hplain hin2 hcdj hSa hb2 hP hD hW hHn hbn
        have hPcU : ∀ U : State, U.heap = H → s.WarmedH U.vm → zPc D cid b L xs Af H Af.toArray U := fun U hU hWU => ⟨rfl, hU, zKU_moved hWU (by rw [hU]; exact hbH) hKU⟩
        have hcat2 : (u2.map fun v => v.category).sum ≤ 8 := by rw [zS_cat hS2]; exact hb3
        have S : CallFix p m c cc nL s args zws (zcn oc) := ⟨hx, hbb, hmlc, hown, hts⟩
        have hlenA : Af.length = a2 % 16 := by rw [zS_len hSa]; exact hlen
        have hmax2 : maxL ≤ 40 := hmax
        have hRr : d' + 1 + 1 ≤ R.frames ∧ 8 + (maxL + 11) + 64 * (d' + 1) ≤ R.locals := ⟨hdR, by omega⟩
        have hf : cells + (sz1 - sz) ≤ R.cells ∧ slots + (us1 - us) ≤ R.slots := ⟨by omega, by omega⟩
        have hrun2 : va_Run p l e R s m args below meth c H locs cells slots (sz1 - sz) (us1 - us) (F0 m pc0 ls (Af.reverse ++ u2)) u2 (zBk D cid ρ b n0 ws v1 sz1 h1 Af.toArray) (zA n0) := by
          rcases hk with ⟨rfl, k1, k2, k3, k4, T, N, k5⟩ | ⟨rfl, k1, k3, k4⟩ | ⟨rfl, k0, k1, k3, k4⟩
          · rcases hkind with ⟨-, rfl⟩ | ⟨q, -⟩ | ⟨q, -⟩
            · rcases hrecv rfl with hz | ⟨j, t, hast, hj, hcl⟩
              · exact absurd hz k4
              · rw [hast] at hSa
                obtain ⟨w, As, hAf, hg, hSt2⟩ := zS_cons hSa
                subst hAf
                obtain ⟨q0, hq0, rfl⟩ := hg
                obtain ⟨q2, e2, he, hq2, hX⟩ := zWd_at hW hj
                have hqq : q2 = q0 := Option.some.inj (hq2.symm.trans hq0)
                subst hqq
                have hk5 : vwCl[(zget h j).1]? = some (y.cls, T, N) := by
                  rw [show (zget h j).1 = a2 / 16 - 1 from by rw [← hcl]; rfl]
                  exact k5
                obtain ⟨r2, fs, e1, -, hee, -, -, -⟩ := zX_obj hX (vwCl_lt hk5)
                subst hee
                have hlk2 : a2 % 16 = As.length + 1 := by rw [← hlenA]; rfl
                rw [List.reverse_cons, List.append_assoc]
                exact zrunV S hMet rfl rfl hcode hlk hKU.2.1 hini hnotH (n := As.length) (zpar (o := none) (by rw [← hlk2]; exact k3)) hRr k1 k2 ⟨zPc_blind, va_recv hKU.1 hP hk5 he, fun U hU hWU => hPcU U hU hWU⟩ rfl hl.1 hcat2 hd2 hf
            · cases q
            · cases q
          · rcases hkind with ⟨q, -⟩ | ⟨-, rfl⟩ | ⟨q, -⟩
            · cases q
            · exact zrunS S hMet rfl rfl hcode hlk hKU.2.1 hini hnotH (n := Af.length) (by rw [hlenA]; exact k3) hRr k1 ⟨zPc_blind, fun U hU hWU => hPcU U hU hWU⟩ rfl hl.1 hcat2 hd2 hf
            · cases q
          · rcases hkind with ⟨q, -⟩ | ⟨q, -⟩ | ⟨-, rfl⟩
            · cases q
            · cases q
            · have hrt : rtj = none := hrn k0
              subst hrt
              obtain ⟨o1, t, hast, ho1⟩ := hrecI rfl
              rw [hast] at hSa
              obtain ⟨w, As, hAf, hg, hSt2⟩ := zS_cons hSa
              subst hAf
              have hlk2 : a2 % 16 = As.length + 1 := by rw [← hlenA]; rfl
              obtain ⟨q0, rfl⟩ := zg_R hg ho1
              rw [List.reverse_cons, List.append_assoc]
              exact zrunI S hMet rfl rfl hcode hlk hKU.2.1 hini hnotH (n := As.length) (zpar (o := none) (by rw [← hlk2]; exact k3)) hRr k0 k1 ⟨zPc_blind, fun U hU hWU => hPcU U hU hWU⟩ rfl hl.1 hcat2 hd2 hf
        refine zafter hrun2 hSt (fun ws1 vo H1 locs1 r1 r2 r3 r4 r5 r6 => ?_)
        obtain ⟨y1, e1⟩ := r6
        have hw := k p e R s m args below meth c H1 locs1 (cells + (sz1 - sz)) (slots + (us1 - us)) Q ls (vo.toList ++ u2) ws1 C0 ⟨⟨lv, hl, by rw [e1]; exact zLr_mono _ hL⟩, zS_app r1 (by rw [e1]; exact zS_mono _ hS2), r2, r3, r4, r5⟩ hdR hlR (by omega) (by omega) (fun pc3 ls3 ws3 H3 locs3 vs ins3 q1 q2 q3 q4 q5 q6 q7 => by
          have hpre3 : ∃ ys, ws3.map Prod.fst = ws.map Prod.fst ++ ys := by
            obtain ⟨y2, e2⟩ := q7
            exact ⟨y1 ++ y2, by rw [e2, e1, List.append_assoc]⟩
          have hw := hret pc3 ls3 ws3 H3 locs3 vs ins3 q1 q2 q3 q4 q5 q6 hpre3
          rw [show cells + (sz' - sz) = cells + (sz1 - sz) + (sz' - sz1) by omega, show slots + (us' - us) = slots + (us1 - us) + (us' - us1) by omega] at hw
          exact hw)
        rw [hn2] at hw
        exact hw
