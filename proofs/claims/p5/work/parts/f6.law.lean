/-! THE CLAIM OUT OF ONE WALK OF THE LAW'S BODY. Your part is whole_start (and what it stands on); all else here is the same for every law, but numbers. -/
def R_law : String := "BaleTalliesLaw"
def lw_P (b : Addr) (xs : List Int32) (args : Array Value) (s : State) : Prop := args = #[.ref b] ∧ s.IntsAt b xs ∧ xs.length ≤ 3072 ∧ (Jvm.Cond.and given_1 narrow_1).before args s = true
def lw_Q (_ : Array Value) (s : State) (o : Outcome) (t : State) : Prop := o = .returned (some (.int 1)) ∧ Framed s o t [] 600000 7302250
def lw_Z (below : List Frame) (a : Array Value) (s : State) : State → Prop := fun t => ∃ o, t.status = .running ∧ Ended t below o ∧ lw_Q a s o t
/-- the law's own end, with 1 on the stack, nothing written that was there before, its room as the claim has it -/
theorem lw_ret {p : Program} {l : Launch} {e : Env} {s : State} {m : MethodId} {below : List Frame} {meth : Method} {c : Code} {b : Nat} (hx : p.tables.exec = Jvm.exec) (hb : c.code = code) (hr : meth.sig.returnType = ret) (hlocks : meth.locks = false) {pc : Nat} {H : Heap} {ls : Array Slot} (hdg : decode code pc = .ok (.ireturn, 1)) : W p l e room_1 s m #[Value.ref b] below meth c H [] 600000 7302250 (lw_Z below #[Value.ref b] s) (F0 m pc ls [.int 1]) := by
  intro T hT X
  obtain ⟨fs, hret, hrun, hended, hW, hframe⟩ := X.leave (v := some (.int 1)) (hlocks := hlocks) (fun h => by rw [hr] at h; cases h)
  have hmeth' : T.vm.method? m = some meth := X.method'
  refine ⟨T.setFrames fs, ?_, .returned (some (.int 1)), hrun, hended, rfl, ⟨_, rfl⟩, hW, hframe⟩
  jvm_step X.here [X.here.top, hx, hb, hdg, hmeth', hr, ret, narrow_b1]
  (try refine ⟨rfl, ?_⟩); (try refine ⟨rfl, ?_⟩)
  first | (intro acts; rw [hret _ acts rfl rfl rfl]) | rw [hret _ _ rfl rfl rfl]
  exact Steps.refl _
/-- what holds at the law's entry: the machine, the code, the tables' words (any of lw_tbl by 'hts w (by decide +kernel)'), the script of L ints xs at the cell b, what the Statement gives of the start (any of its parts by flat_of_before) -/
def lw_At (p : Program) (s : State) (m : MethodId) (meth : Method) (c : Code) (b L : Nat) (xs : Nat → Int32) : Prop :=
  p.tables.exec = Jvm.exec ∧ c.code = code ∧ meth.sig.returnType = ret ∧ c.maxLocals = 4 ∧ s.vm.findClass R_law = some m.cls ∧ (∀ w ∈ lw_tbl, w.before #[Value.ref b] s = true) ∧ va_X b L xs s s.heap ∧ b < s.heap.size ∧ meth.locks = false ∧ (Jvm.Cond.and given_1 narrow_1).before #[Value.ref b] s = true
/-! ===== the walk of the law ===== -/
theorem zex_cls {s : State} {args : Array Value} (htz : ∀ w ∈ zws, w.before args s = true) (ci : Nat) : ∃ (cC : ClassId) (iS : Nat → Nat), ∀ q, vwCl[ci]? = some q → u_Kn s q.1 q.2.1 q.2.2 cC iS := by
  cases h : vwCl[ci]? with
  | none => exact ⟨0, fun _ => 0, fun q hq => by cases hq⟩
  | some q =>
    obtain ⟨C, T, N⟩ := q
    obtain ⟨-, -, hin, -, -, hinst, -⟩ := zClOK_all ci C T N h
    obtain ⟨cC, iS, hk⟩ := u_known (C := C) (T := T) (N := N) (n := N) htz hin (htz _ hinst)
    exact ⟨cC, iS, fun q hq => by cases hq; exact hk⟩
theorem zex_prim {s : State} {args : Array Value} {ty : FieldType} (h : (Cond.arrayClass ty).before args s = true) (hty : ∀ C, ty ≠ .object C) : ∃ cA : ClassId, ArrOfT s cA ty ∧ va_RA s cA ty := by
  obtain ⟨c, k, comp, h1, h2, h3⟩ := Cond.arrayClass_spec h
  refine ⟨c, fun n z => ⟨fun q h => (by cases h), k, h2, comp, h3⟩, ?_⟩
  cases ty with
  | object C => exact absurd rfl (hty C)
  | _ => exact h1
theorem zex_arr {s : State} {args : Array Value} {t : FieldType} (h : (Cond.arrayOver (.array t)).before args s = true) : ∃ cA : ClassId, ArrOfT s cA (.array t) ∧ va_RA s cA (.array t) := by
  obtain ⟨comp, c, k, h1, -, h2, h3, h4⟩ := arrayOverA_spec h
  exact ⟨c, fun n z => ⟨fun q h => (by cases h), k, h2, comp, h3⟩, h4⟩
theorem zex_obj {s : State} {args : Array Value} {C : String} (h : (Cond.arrayOver (.object C)).before args s = true) : ∃ cA : ClassId, ArrOfT s cA (.object C) ∧ va_RA s cA (.object C) := by
  obtain ⟨comp, c, k, h1, -, h2, h3, h4⟩ := Cond.arrayOver_spec h
  exact ⟨c, fun n z => ⟨fun q h => (by cases h), k, h2, comp, h3⟩, k, comp, h2, h3, h1, h4⟩
theorem zex_KU {s : State} {b L : Nat} {xs : Nat → Int32} (hts : ∀ w ∈ lw_tbl, w.before #[Value.ref b] s = true) (hX : va_X b L xs s s.heap) : ∃ (D : va_G) (cid : Nat → ClassId), zKU D cid b L xs s := by
  have htz : ∀ w ∈ zws, w.before #[Value.ref b] s = true := fun w hw => hts w (List.mem_filter.mp hw).1
  have hex := zex_cls htz
  obtain ⟨k1, k2, k3, k4⟩ := zAr_all
  obtain ⟨c16, h16⟩ := zex_prim (htz _ k1) (fun C q => by cases q)
  obtain ⟨c17, h17⟩ := zex_prim (htz _ k2) (fun C q => by cases q)
  obtain ⟨c18, h18⟩ := zex_prim (htz _ k3) (fun C q => by cases q)
  obtain ⟨c19, h19⟩ := zex_arr (hts _ k4)
  obtain ⟨c20, h20⟩ := zex_obj (C := RX0) (hts _ (List.mem_of_getElem? (i := 166) (by decide +kernel)))
  obtain ⟨c21, h21⟩ := zex_obj (C := RX5) (hts _ (List.mem_of_getElem? (i := 168) (by decide +kernel)))
  obtain ⟨c22, h22⟩ := zex_obj (C := RX2) (hts _ (List.mem_of_getElem? (i := 561) (by decide +kernel)))
  refine ⟨(fun ci => (hex ci).choose, fun ci => (hex ci).choose_spec.choose), fun k => if k = 16 then c16 else if k = 17 then c17 else if k = 18 then c18 else if k = 19 then c19 else if k = 20 then c20 else if k = 21 then c21 else c22, ⟨fun ci q hq => (hex ci).choose_spec.choose_spec q hq, fun k q hk => ?_⟩, fun own i y host hm => va_Nw.of rfl (hts _ hm), fun C hm => va_AO.of (hts _ hm), fun t hm => hts _ hm, hX⟩
  match k, hk with
  | 0, hk => cases hk; exact h16
  | 1, hk => cases hk; exact h17
  | 2, hk => cases hk; exact h18
  | 3, hk => cases hk; exact h19
  | 4, hk => cases hk; exact h20
  | 5, hk => cases hk; exact h21
  | 6, hk => cases hk; exact h22
  | n + 7, hk => cases hk
/-- the whole script known -/
def zGX (L : Nat) (xs : Nat → Int32) : zG := (none, some L, (List.range L).map (fun u => zi (zU (xs u))))
theorem zGX_at {L : Nat} {xs : Nat → Int32} {u : Nat} (h : u < L) : (zGX L xs).2.2[u]? = some (zi (zU (xs u))) := by
  show ((List.range L).map (fun u => zi (zU (xs u))))[u]? = _
  rw [List.getElem?_map, List.getElem?_range h]
  rfl
theorem zGX_ok {L : Nat} (hL : L ≤ 3072) (xs : Nat → Int32) : zGok (zGX L xs) (fun j => xs (j - 1)) L xs := by
  refine ⟨(fun a ha _ => by cases ha), fun n hn => ?_, fun u a ha _ => ?_⟩
  · cases hn
    exact ⟨rfl, by omega⟩
  · by_cases hu : u < L
    · rw [zGX_at hu] at ha
      cases ha
      show xs u = zI (zU (xs u))
      rw [zI_zU]
    · have : ((List.range L).map (fun u => zi (zU (xs u))))[u]? = none := by
        rw [List.getElem?_eq_none_iff, List.length_map, List.length_range]
        omega
      have ha : ((List.range L).map (fun u => zi (zU (xs u))))[u]? = some a := ha
      rw [this] at ha
      cases ha
theorem zGX_scr {L : Nat} (hL : L ≤ 3072) (xs : Nat → Int32) : SCR (zGX L xs) L (fun j => (xs j.toNat).toInt) := by
  refine ⟨rfl, by omega, fun u hu => ?_⟩
  rw [zGX_at hu]
  show some (zi (zU (xs u))) = some (pe (0, (xs ((u : Int)).toNat).toInt)) ∧ zIn ((xs ((u : Int)).toNat).toInt)
  rw [Int.toNat_natCast]
  refine ⟨?_, ?_⟩
  · show some (zi (zU (xs u))) = some (zi (zu (xs u).toInt))
    rw [zu_toInt]
  · have h1 := Int32.le_toInt (xs u)
    have h2 := Int32.toInt_lt (xs u)
    exact ⟨by omega, by omega⟩
theorem whole_start {p : Program} {e : Env} {s : State} {m : MethodId} {below : List Frame} {meth : Method} {c : Code} (l : Launch) (hflags : l.flags = flags0) {b L : Nat} {xs : Nat → Int32} (hL : L ≤ 3072) (C0 : lw_At p s m meth c b L xs) : W p l e room_1 s m #[Value.ref b] below meth c s.heap [] 0 0 (lw_Z below #[Value.ref b] s) (entryFrame m ([Value.ref b] : List Value).toArray 4) := by
  obtain ⟨hx, hb, hr, hml, hown, hts, hX, hbl, hlocks, -⟩ := C0
  obtain ⟨D, cid, hKU⟩ := zex_KU hts hX
  have hG := zGX_ok hL xs
  obtain ⟨nf, us3, h3, hrun, b2⟩ := law_runs (zGX_scr hL xs) hL
  have hl := lv_entry ([.ref b] : List Value) (n := 4) (Nat.le_of_ble_eq_true rfl)
  rw [lg_entry_eq]
  refine (zsound (l := l) (n0 := s.heap.size) (D := D) (cid := cid) (b := b) zFx_all zM_ok hG nf hrun 14 false cL_law 4 (some .boolean) kr_L_law kq_L_law_0).2 p e room_1 s m #[Value.ref b] below meth c s.heap [] 0 0 _ _ [] [] ⟨hx, hb, hml, hown, fun w hw => hts w (List.mem_filter.mp hw).1, hKU, (fun q => by cases q), hr, hlocks, Nat.le_refl _, hbl⟩ ⟨⟨_, hl, rfl, rfl, trivial⟩, trivial, (fun k q h => by simp at h), ⟨fun i j x y h => by simp at h, fun k q h => by simp at h⟩, va_S.rf, rfl, zrep_full _ _ _, Nat.zero_le _, fun i q e h => by simp at h⟩ (Nat.le_of_ble_eq_true rfl) (Nat.le_of_ble_eq_true rfl) (by show 0 + (622 - 0) ≤ 600000; omega) (by show 0 + (us3 - 0) ≤ 7302250; omega) ?_
  intro pc' ls' ws' H' locs' vs ins hdec hR hP' hD' hS' hW' hpre
  rcases hR with ⟨q, -⟩ | ⟨a, w, ty, ha, rfl, hg, hrt, hh⟩
  · cases q
  cases ha
  have hg : w = .int (zI 1) := hg
  subst hg
  rcases hh with ⟨rfl, -⟩ | ⟨-, -, q, hq⟩ | ⟨-, -, q, hq⟩
  · refine va_forget (fun q hq => hS'.2.2 q hq) ?_
    refine W.widen (k := 600000) (n := 7302250) (by omega) (by omega) ?_
    exact lw_ret hx hb hr hlocks hdec
  · cases hq
  · cases hq
set_option maxHeartbeats 4000000 in
theorem lw_walk (l : Launch) (hflags : l.flags = flags0) (b : Addr) (xs : List Int32) : MetFree l x (headSpec (Jvm.Cond.code x code maxLocals ret :: tables_1) room_1) (lw_P b xs) (fun _ _ _ _ _ => True) lw_Q := by
  refine MetFree.of_bodyS (code := code) (maxLocals := maxLocals) (ret := ret) (by decide) ?_ ?_
  · intro args s m h hn
    obtain ⟨meth, c, h1, h2, h3, h4, h5, h6, -, -⟩ := Cond.code_spec hn (atoms_spec (ws := Jvm.Cond.code x code maxLocals ret :: tables_1) h _ List.mem_cons_self)
    exact ⟨meth, c, h1, h2, h3, h4, h5, h6⟩
  · intro p e s m args below meth c s₁ B hml0 hP _
    obtain ⟨rfl, hx, hbd, hgv⟩ := hP
    obtain ⟨scr, harrAt, hlist, hof, hsmall⟩ := hx
    obtain ⟨hcb, hkn, -, -⟩ := State.arrayAt?_spec harrAt
    have hown : s.vm.findClass R_law = some m.cls := findClass_of_methodNamed B.named
    have hts0 : ∀ c ∈ (Jvm.Cond.code x code maxLocals ret :: tables_1), c.before #[Value.ref b] s = true := atoms_spec (ws := Jvm.Cond.code x code maxLocals ret :: tables_1) B.pre
    have hts : ∀ w ∈ lw_tbl, w.before #[Value.ref b] s = true := k2_hts_sels lw_privs (fun w hw => hts0 w (List.mem_cons_of_mem _ hw)) lw_privs_ok
    have hml : c.maxLocals = 4 := B.maxLocals_eq (hts0 _ List.mem_cons_self)
    have X₀ : Stand p l e room_1 s m #[Value.ref b] below meth c s₁ [] 0 0 := Stand.of_body B
    have hh0 : s₁.heap = s.heap := by rw [B.state]; rfl
    have hsz : scr.slots.size = xs.length := by rw [← Array.length_toList, hlist, List.length_map]
    have hval : ∀ j : Nat, j < xs.length → scr.slots[j]? = some (.int (xs.getD j 0)) := fun j hj => by
      rw [← Array.getElem?_toList, hlist]
      simp [hj]
    have hbl : b < s.heap.size := (Array.getElem?_eq_some_iff.mp hcb).1
    have hX : va_X b xs.length (fun j => xs.getD j 0) s s.heap := ⟨scr, hcb, hof, hkn, hsz, hval⟩
    have K : W p l e room_1 s m #[Value.ref b] below meth c s₁.heap [] 0 0 (lw_Z below #[Value.ref b] s) (entryFrame m ([Value.ref b] : List Value).toArray 4) := by
      rw [hh0]
      exact whole_start l hflags hbd ⟨B.exec, B.bytes, B.returns, hml, hown, hts, hX, hbl, B.notSynchronized, hgv⟩
    obtain ⟨t, a1, o, b1, b2, b3⟩ := K s₁ rfl X₀
    exact ⟨t, o, a1, b1, b2, b3⟩
theorem lw_pre_spec {args : Array Value} {s : State} (h : (Jvm.Cond.and given_1 narrow_1).before args s = true) (hr : rest_1_c.before args s = true) : ∃ (b : Addr) (xs : List Int32), lw_P b xs args s := by
  have hs := flat_of_before _ h
  have hq := flat_of_before _ hr
  have hc : (Cond.count 1).before args s = true := hs _ (by decide +kernel)
  have harr : (Cond.arrayOf (.arg 0) .int).before args s = true := hs _ (by decide +kernel)
  have hle : (Cond.le (.length (.arg 0)) (.int 3072)).before args s = true := hs _ (by decide +kernel)
  have hlen : (Cond.isInt (.length (.arg 0))).before args s = true := hq _ (by decide +kernel)
  have hall : (Cond.all (.arg 0) (.isInt (.elem (.arg 0) (.index 0)))).before args s = true := hq _ (by decide +kernel)
  obtain ⟨b, xs, hb, hx⟩ := State.ints_of_pre rfl harr hlen hall
  have hsm : xs.length < 2 ^ 31 := hx.choose_spec.2.2.2
  have hev : (Term.length (.arg 0)).eval args s none [] s = some (.int xs.length.toInt32) := hx.length_eval hb
  have hv := Cond.le_ints hev (show (Term.int 3072).eval args s none [] s = some (.int 3072) from rfl)
  have hd : xs.length.toInt32 ≤ 3072 := by
    simpa [Cond.before, Cond.holds, hv] using hle
  have hN : xs.length ≤ 3072 := (Int32.ofNat_le_ofNat hsm (by decide)).mp (show Int32.ofNat xs.length ≤ Int32.ofNat 3072 from hd)
  exact ⟨b, xs, Cond.one_arg hc (show args[0]? = some (.ref b) from hb), hx, hN, h⟩
theorem lw_comes (l : Launch) (hflags : l.flags = flags0) : Comes l x (Jvm.Cond.code x code maxLocals ret :: tables_1) room_1 (fun tb e args s => Calls_1 tb e args s ∧ rest_1 tb e args s ∧ Pre_1 tb e args s)
    (fun _ _ args s o t => lw_Q args s o t) := by
  intro p e ha hc hk s m args below hf hfit hheap happ hpre
  obtain ⟨b, xs, hP⟩ := lw_pre_spec hpre.2.2 hpre.2.1
  obtain ⟨k, o, h1, h2, h3, hQ⟩ := lw_walk l hflags b xs p e ha hc hk s m args below hf ((Spec.applies_iff_loose hf).mp happ).1 hP trivial
  exact ⟨k, o, h1, h2, h3, hQ⟩
theorem lw_frame {s t : State} {o : Outcome} {args : Array Value} (h : Framed s o t [] 600000 7302250) :
    Framed s o t (fieldLocs frame_1_writes args s ++ arrayLocs frame_1_arrays args s ++ staticLocs frame_1_statics s) 600000 7302250 := h
theorem lw_limb (L : Cond) (hL : ∀ (args : Array Value) (s t : State), L.after args s (.returned (some (.int 1))) t = true) :
    ArmFor flags0 classFile x code maxLocals ret World_1 tables_1 room_1 Calls_1 rest_1 Pre_1
      (fun tb e a s o t => postC L tb e a s o t ∧ Framed s o t (fieldLocs frame_1_writes a s ++ arrayLocs frame_1_arrays a s ++ staticLocs frame_1_statics s) 600000 7302250) := by
  intro l hflags _ _ p e ha hc hk s m args below hf hfit hheap happ hpre
  obtain ⟨k, o, h1, h2, h3, rfl, hF⟩ := lw_comes l hflags p e ha hc hk s m args below hf hfit hheap happ hpre
  exact ⟨k, _, h1, h2, h3, hL args s _, lw_frame hF⟩
theorem i_vc : Claimed_1_1 ∧ Claimed_1_2 := ⟨lw_limb limb_1_1 (fun args s t => by simp [limb_1_1, Cond.after, Cond.holds, Cond.value]), lw_limb limb_1_2 (fun args s t => Cond.after_iff.mpr (by
  first | (rw [show limb_1_2 = Cond.eq .result (.int 1) from rfl, Cond.eq_ints (x := 1) (y := 1) rfl rfl]; simp; done) | (simp [limb_1_2, Cond.value, Term.eval]; done)))⟩
