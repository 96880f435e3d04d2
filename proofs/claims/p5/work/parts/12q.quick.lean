/-! ===== the quick ones do what the others say ===== -/
def zQk (fn : zCn) (f : zFn) : Prop := ∀ (G : zG) (pc npc a1 a2 : Nat) (ls : zLs) (st : List zV) (sz : Nat) (h : zH) (nx : zLs → List zV → zH → zR) (jp : Nat → zLs → List zV → zH → zR) (ot : zO → zR), ot none = none → (∀ ls st h, ot (zgo npc ls st h) = nx ls st h) → (∀ t ls st h, ot (zgo t ls st h) = jp t ls st h) → fn G pc npc a1 a2 ls st sz h nx jp ot = ot (f G pc npc a1 a2 ls st sz h)
theorem yfind_eq (i : Nat) (k : zV → zR) : ∀ ls : zLs, yfind ls i k = Option.rec (motive := fun _ => zR) none (fun a => k a) (zfind ls i)
  | [] => rfl
  | (j, a) :: t => by
    show Bool.rec (motive := fun _ => zR) (yfind t i k) (k a) (Nat.beq j i) = Option.rec (motive := fun _ => zR) none (fun a => k a) (Bool.rec (motive := fun _ => Option zV) (zfind t i) (some a) (Nat.beq j i))
    cases Nat.beq j i
    · exact yfind_eq i k t
    · rfl
theorem yI_eq (a : zV) (k : zR) : yI a k = Bool.rec (motive := fun _ => zR) none k (zisI a) := by
  match a with
  | .inl _ => rfl
  | .inr (.inl _) => rfl
  | .inr (.inr (.inl _)) => rfl
  | .inr (.inr (.inr _)) => rfl
theorem yR_eq (a : zV) (k : zR) : yR a k = Bool.rec (motive := fun _ => zR) none k (zisR a) := by
  match a with
  | .inl _ => rfl
  | .inr (.inl _) => rfl
  | .inr (.inr (.inl _)) => rfl
  | .inr (.inr (.inr 0)) => rfl
  | .inr (.inr (.inr (_ + 1))) => rfl
theorem ykde_eq (n : Nat) (k : zV → zR) : ykde n k = k (zde n) := by
  unfold ykde
  rw [fN_eq]
  unfold zde
  cases Nat.blt n (nat_lit 4294967296) <;> rfl
theorem ycmp_ok {f : Nat → Nat → Bool} {c : Jvm.ClassFile.Cond} (hf : ∀ p q, f p q = zcc c p q) {a b : zV} {t e : zO} {ot : zO → zR} {x y : zR} (ht : ot t = x) (he : ot e = y) : ycmp f a b x y (ot (zbr (zcmp c a b) t e)) = ot (zbr (zcmp c a b) t e) := by
  cases a with
  | inr _ => rfl
  | inl u => cases b with
    | inr _ => rfl
    | inl w =>
      show Bool.rec (motive := fun _ => zR) y x (f (zsu u) (zsu w)) = ot (zbr (some (zcc c (zsu u) (zsu w))) t e)
      rw [hf]
      cases zcc c (zsu u) (zsu w)
      · exact he.symm
      · exact ht.symm
theorem ycell_ok {ot : zO → zR} (hn : ot none = none) {sz : Nat} {h : zH} {a : zV} {s : zR} {k : Nat → zC → zO} {k' : zC → zR} {O : zO} (hk : ∀ i c, k' c = ot (k i c)) (h1 : a = zr 1 → s = ot O) (h2 : a ≠ zr 1 → O = zcell sz h a k) : ycell sz h a s k' = ot O := by
  match a, h1, h2 with
  | .inl _, _, h2 => rw [h2 (fun q => by cases q)]; exact hn.symm
  | .inr (.inl _), _, h2 => rw [h2 (fun q => by cases q)]; exact hn.symm
  | .inr (.inr (.inl _)), _, h2 => rw [h2 (fun q => by cases q)]; exact hn.symm
  | .inr (.inr (.inr 0)), _, h2 => rw [h2 (fun q => absurd (Sum.inr.inj (Sum.inr.inj (Sum.inr.inj q))) (by omega))]; exact hn.symm
  | .inr (.inr (.inr 1)), h1, _ => exact h1 rfl
  | .inr (.inr (.inr (i + 2))), _, h2 =>
    rw [h2 (fun q => absurd (Sum.inr.inj (Sum.inr.inj (Sum.inr.inj q))) (by omega))]
    show Bool.rec (motive := fun _ => zR) none (k' (zget h i)) (Nat.blt i sz) = ot (Bool.rec (motive := fun _ => zO) none (k i (zget h i)) (Nat.blt i sz))
    cases Nat.blt i sz
    · exact hn.symm
    · exact hk i _
theorem yk_iload : zQk yo_iload so_iload := by
  intro G pc npc a1 a2 ls st sz h nx jp ot hn hx hj
  show yfind ls a1 (fun a => yI a (nx ls (a :: st) h)) = ot (zld zisI ls a1 (fun a => zgo npc ls (a :: st) h))
  rw [yfind_eq]
  unfold zld
  generalize zfind ls a1 = o
  cases o with
  | none => exact hn.symm
  | some a =>
    show yI a (nx ls (a :: st) h) = ot (zwhen (zisI a) (zgo npc ls (a :: st) h))
    rw [yI_eq]
    cases zisI a
    · exact hn.symm
    · exact (hx _ _ _).symm
theorem yk_aload : zQk yo_aload so_aload := by
  intro G pc npc a1 a2 ls st sz h nx jp ot hn hx hj
  show yfind ls a1 (fun a => yR a (nx ls (a :: st) h)) = ot (zld zisR ls a1 (fun a => zgo npc ls (a :: st) h))
  rw [yfind_eq]
  unfold zld
  generalize zfind ls a1 = o
  cases o with
  | none => exact hn.symm
  | some a =>
    show yR a (nx ls (a :: st) h) = ot (zwhen (zisR a) (zgo npc ls (a :: st) h))
    rw [yR_eq]
    cases zisR a
    · exact hn.symm
    · exact (hx _ _ _).symm
theorem yk_iconst : zQk yo_iconst so_iconst := fun _ _ _ _ _ _ _ _ _ _ _ _ _ hx _ => (hx _ _ _).symm
theorem yk_bipush : zQk yo_bipush so_bipush := fun _ _ _ _ _ _ _ _ _ _ _ _ _ hx _ => (hx _ _ _).symm
theorem yk_sipush : zQk yo_sipush so_sipush := fun _ _ _ _ _ _ _ _ _ _ _ _ _ hx _ => (hx _ _ _).symm
theorem yk_goto : zQk yo_goto so_goto := fun _ _ _ _ _ _ _ _ _ _ _ _ _ _ hj => (hj _ _ _ _).symm
theorem yk_istore : zQk yo_istore so_istore := by
  intro G pc npc a1 a2 ls st sz h nx jp ot hn hx hj
  match st with
  | [] => exact hn.symm
  | a :: r =>
    show yI a (zrm a1 false ls (fun t => nx ((a1, a) :: t) r h)) = ot (zwhen (zisI a) (zstore ls a1 false a (fun ls' => zgo npc ls' r h)))
    rw [yI_eq]
    cases zisI a
    · exact hn.symm
    · show zrm a1 false ls (fun t => nx ((a1, a) :: t) r h) = ot (zstore ls a1 false a (fun ls' => zgo npc ls' r h))
      rw [zstore_eq, hx, zrm_eq]
theorem yk_iinc : zQk yo_iinc so_iinc := by
  intro G pc npc a1 a2 ls st sz h nx jp ot hn hx hj
  have e0 : yo_iinc G pc npc a1 a2 ls st sz h nx jp ot = yfind ls a1 (fun a => Sum.rec (motive := fun _ => zR) (fun x => fN (Nat.mod (Nat.add x a2) (nat_lit 4294967296)) (fun u => zrm a1 false ls (fun t => nx ((a1, zi u) :: t) st h))) (fun _ => ot (so_iinc G pc npc a1 a2 ls st sz h)) a) := rfl
  rw [e0, yfind_eq]
  cases hf : zfind ls a1 with
  | none =>
    have e : so_iinc G pc npc a1 a2 ls st sz h = none := by
      unfold so_iinc zld
      rw [hf]
    rw [e]
    exact hn.symm
  | some a => cases a with
    | inr y => rfl
    | inl x =>
      have e : so_iinc G pc npc a1 a2 ls st sz h = zstore ls a1 false (zi (Nat.mod (Nat.add x a2) (nat_lit 4294967296))) (fun ls' => zgo npc ls' st h) := by
        unfold so_iinc zld
        rw [hf]
        show fN (Nat.mod (Nat.add x a2) (nat_lit 4294967296)) (fun u => zstore ls a1 false (zi u) (fun ls' => zgo npc ls' st h)) = _
        rw [fN_eq]
      rw [e, zstore_eq, hx]
      show fN (Nat.mod (Nat.add x a2) (nat_lit 4294967296)) (fun u => zrm a1 false ls (fun t => nx ((a1, zi u) :: t) st h)) = _
      rw [fN_eq, zrm_eq]
theorem y1_cons {a : zV} {r : List zV} {k : zV → List zV → zR} : y1 (a :: r) k = k a r := rfl
theorem z1_cons {a : zV} {r : List zV} {k : zV → List zV → zO} : z1 (a :: r) k = k a r := rfl
theorem y2_cons {a b : zV} {r : List zV} {k : zV → zV → List zV → zR} : y2 (b :: a :: r) k = k a b r := rfl
theorem z2_cons {a b : zV} {r : List zV} {k : zV → zV → List zV → zO} : z2 (b :: a :: r) k = k a b r := rfl
theorem y1_nil {k : zV → List zV → zR} : y1 [] k = none := rfl
theorem z1_nil {k : zV → List zV → zO} : z1 [] k = none := rfl
theorem y2_nil {k : zV → zV → List zV → zR} : y2 [] k = none := rfl
theorem z2_nil {k : zV → zV → List zV → zO} : z2 [] k = none := rfl
theorem y2_one {a : zV} {k : zV → zV → List zV → zR} : y2 [a] k = none := rfl
theorem z2_one {a : zV} {k : zV → zV → List zV → zO} : z2 [a] k = none := rfl
theorem znq (p q : Nat) : Bool.rec (motive := fun _ => Bool) true false (Nat.beq p q) = zcc .ne p q := by
  show _ = not (Nat.beq p q)
  cases Nat.beq p q <;> rfl
theorem yk_icmp_eq : zQk yo_if_icmp_eq so_if_icmp_eq := by
  intro G pc npc a1 a2 ls st sz h nx jp ot hn hx hj
  unfold yo_if_icmp_eq so_if_icmp_eq
  match st with
  | [] => rw [y2_nil, z2_nil, hn]
  | [_] => rw [y2_one, z2_one, hn]
  | b :: a :: r =>
    rw [y2_cons, z2_cons]
    exact ycmp_ok (c := .eq) (fun _ _ => rfl) (hj a1 ls r h) (hx ls r h)
theorem yk_cond_eq : zQk yo_ifCond_eq so_ifCond_eq := by
  intro G pc npc a1 a2 ls st sz h nx jp ot hn hx hj
  unfold yo_ifCond_eq so_ifCond_eq
  match st with
  | [] => rw [y1_nil, z1_nil, hn]
  | a :: r =>
    rw [y1_cons, z1_cons]
    exact ycmp_ok (c := .eq) (fun _ _ => rfl) (hj a1 ls r h) (hx ls r h)
theorem yk_icmp_ne : zQk yo_if_icmp_ne so_if_icmp_ne := by
  intro G pc npc a1 a2 ls st sz h nx jp ot hn hx hj
  unfold yo_if_icmp_ne so_if_icmp_ne
  match st with
  | [] => rw [y2_nil, z2_nil, hn]
  | [_] => rw [y2_one, z2_one, hn]
  | b :: a :: r =>
    rw [y2_cons, z2_cons]
    exact ycmp_ok (c := .ne) znq (hj a1 ls r h) (hx ls r h)
theorem yk_cond_ne : zQk yo_ifCond_ne so_ifCond_ne := by
  intro G pc npc a1 a2 ls st sz h nx jp ot hn hx hj
  unfold yo_ifCond_ne so_ifCond_ne
  match st with
  | [] => rw [y1_nil, z1_nil, hn]
  | a :: r =>
    rw [y1_cons, z1_cons]
    exact ycmp_ok (c := .ne) znq (hj a1 ls r h) (hx ls r h)
theorem yk_icmp_lt : zQk yo_if_icmp_lt so_if_icmp_lt := by
  intro G pc npc a1 a2 ls st sz h nx jp ot hn hx hj
  unfold yo_if_icmp_lt so_if_icmp_lt
  match st with
  | [] => rw [y2_nil, z2_nil, hn]
  | [_] => rw [y2_one, z2_one, hn]
  | b :: a :: r =>
    rw [y2_cons, z2_cons]
    exact ycmp_ok (c := .lt) (fun _ _ => rfl) (hj a1 ls r h) (hx ls r h)
theorem yk_cond_lt : zQk yo_ifCond_lt so_ifCond_lt := by
  intro G pc npc a1 a2 ls st sz h nx jp ot hn hx hj
  unfold yo_ifCond_lt so_ifCond_lt
  match st with
  | [] => rw [y1_nil, z1_nil, hn]
  | a :: r =>
    rw [y1_cons, z1_cons]
    exact ycmp_ok (c := .lt) (fun _ _ => rfl) (hj a1 ls r h) (hx ls r h)
theorem yk_icmp_ge : zQk yo_if_icmp_ge so_if_icmp_ge := by
  intro G pc npc a1 a2 ls st sz h nx jp ot hn hx hj
  unfold yo_if_icmp_ge so_if_icmp_ge
  match st with
  | [] => rw [y2_nil, z2_nil, hn]
  | [_] => rw [y2_one, z2_one, hn]
  | b :: a :: r =>
    rw [y2_cons, z2_cons]
    exact ycmp_ok (c := .ge) (fun _ _ => rfl) (hj a1 ls r h) (hx ls r h)
theorem yk_cond_ge : zQk yo_ifCond_ge so_ifCond_ge := by
  intro G pc npc a1 a2 ls st sz h nx jp ot hn hx hj
  unfold yo_ifCond_ge so_ifCond_ge
  match st with
  | [] => rw [y1_nil, z1_nil, hn]
  | a :: r =>
    rw [y1_cons, z1_cons]
    exact ycmp_ok (c := .ge) (fun _ _ => rfl) (hj a1 ls r h) (hx ls r h)
theorem yk_icmp_gt : zQk yo_if_icmp_gt so_if_icmp_gt := by
  intro G pc npc a1 a2 ls st sz h nx jp ot hn hx hj
  unfold yo_if_icmp_gt so_if_icmp_gt
  match st with
  | [] => rw [y2_nil, z2_nil, hn]
  | [_] => rw [y2_one, z2_one, hn]
  | b :: a :: r =>
    rw [y2_cons, z2_cons]
    exact ycmp_ok (c := .gt) (fun _ _ => rfl) (hj a1 ls r h) (hx ls r h)
theorem yk_cond_gt : zQk yo_ifCond_gt so_ifCond_gt := by
  intro G pc npc a1 a2 ls st sz h nx jp ot hn hx hj
  unfold yo_ifCond_gt so_ifCond_gt
  match st with
  | [] => rw [y1_nil, z1_nil, hn]
  | a :: r =>
    rw [y1_cons, z1_cons]
    exact ycmp_ok (c := .gt) (fun _ _ => rfl) (hj a1 ls r h) (hx ls r h)
theorem yk_icmp_le : zQk yo_if_icmp_le so_if_icmp_le := by
  intro G pc npc a1 a2 ls st sz h nx jp ot hn hx hj
  unfold yo_if_icmp_le so_if_icmp_le
  match st with
  | [] => rw [y2_nil, z2_nil, hn]
  | [_] => rw [y2_one, z2_one, hn]
  | b :: a :: r =>
    rw [y2_cons, z2_cons]
    exact ycmp_ok (c := .le) (fun _ _ => rfl) (hj a1 ls r h) (hx ls r h)
theorem yk_cond_le : zQk yo_ifCond_le so_ifCond_le := by
  intro G pc npc a1 a2 ls st sz h nx jp ot hn hx hj
  unfold yo_ifCond_le so_ifCond_le
  match st with
  | [] => rw [y1_nil, z1_nil, hn]
  | a :: r =>
    rw [y1_cons, z1_cons]
    exact ycmp_ok (c := .le) (fun _ _ => rfl) (hj a1 ls r h) (hx ls r h)
theorem yk_getfield : zQk yo_getfield so_getfield := by
  intro G pc npc a1 a2 ls st sz h nx jp ot hn hx hj
  match st with
  | [] => exact hn.symm
  | a :: r =>
    show ycell sz h a none (fun c => Bool.rec (motive := fun _ => zR) none (nx ls (zget c.2.2.2 a2 :: r) h) (Nat.beq c.1 a1)) = ot (so_getfield G pc npc a1 a2 ls (a :: r) sz h)
    refine ycell_ok hn (O := so_getfield G pc npc a1 a2 ls (a :: r) sz h) (k := fun _ c => zwhen (Nat.beq c.1 a1) (zgo npc ls (zget c.2.2.2 a2 :: r) h)) (fun i c => ?_) (fun q => ?_) (fun _ => rfl)
    · show Bool.rec (motive := fun _ => zR) none (nx ls (zget c.2.2.2 a2 :: r) h) (Nat.beq c.1 a1) = ot (Bool.rec (motive := fun _ => zO) none (zgo npc ls (zget c.2.2.2 a2 :: r) h) (Nat.beq c.1 a1))
      cases Nat.beq c.1 a1
      · exact hn.symm
      · exact (hx _ _ _).symm
    · subst q
      exact hn.symm
theorem yk_iaload : zQk yo_iaload so_iaload := by
  intro G pc npc a1 a2 ls st sz h nx jp ot hn hx hj
  match st with
  | [] => exact hn.symm
  | [_] => exact hn.symm
  | i :: o :: r =>
    show ycell sz h o (ot (so_iaload G pc npc a1 a2 ls (i :: o :: r) sz h)) (fun c => Bool.rec (motive := fun _ => zR) none (Sum.rec (motive := fun _ => zR) (fun u => Bool.rec (motive := fun _ => zR) none (ykde (zdg c.2.2.1 u) (fun a => nx ls (a :: r) h)) (Nat.blt u c.2.1)) (fun _ => none) i) (Nat.beq c.1 (nat_lit 16))) = ot (so_iaload G pc npc a1 a2 ls (i :: o :: r) sz h)
    refine ycell_ok hn (O := so_iaload G pc npc a1 a2 ls (i :: o :: r) sz h) (k := fun _ c => zwhen (Nat.beq c.1 (nat_lit 16)) (zidx c.2.1 i (fun u => zkde (zdg c.2.2.1 u) (fun a => zgo npc ls (a :: r) h)))) (fun _ c => ?_) (fun _ => rfl) (fun q => ?_)
    · show Bool.rec (motive := fun _ => zR) none (Sum.rec (motive := fun _ => zR) (fun u => Bool.rec (motive := fun _ => zR) none (ykde (zdg c.2.2.1 u) (fun a => nx ls (a :: r) h)) (Nat.blt u c.2.1)) (fun _ => none) i) (Nat.beq c.1 (nat_lit 16)) = ot (Bool.rec (motive := fun _ => zO) none (zidx c.2.1 i (fun u => zkde (zdg c.2.2.1 u) (fun a => zgo npc ls (a :: r) h))) (Nat.beq c.1 (nat_lit 16)))
      cases Nat.beq c.1 (nat_lit 16)
      · exact hn.symm
      · cases i with
        | inr _ => exact hn.symm
        | inl u =>
          show Bool.rec (motive := fun _ => zR) none (ykde (zdg c.2.2.1 u) (fun a => nx ls (a :: r) h)) (Nat.blt u c.2.1) = ot (Bool.rec (motive := fun _ => zO) none (zkde (zdg c.2.2.1 u) (fun a => zgo npc ls (a :: r) h)) (Nat.blt u c.2.1))
          cases Nat.blt u c.2.1
          · exact hn.symm
          · show ykde (zdg c.2.2.1 u) (fun a => nx ls (a :: r) h) = ot (zkde (zdg c.2.2.1 u) (fun a => zgo npc ls (a :: r) h))
            rw [ykde_eq, zkde_eq, hx]
    · show zali G npc ls r sz h o i = _
      unfold zali
      split
      · exact absurd rfl q
      · rfl
theorem zdiC_ok (ins : Instr) : zQk (zdiC ins) (zdisp ins) := by
  cases ins with
  | iload_n i => exact yk_iload
  | iload i => exact yk_iload
  | aload_n i => exact yk_aload
  | aload i => exact yk_aload
  | iconst i => exact yk_iconst
  | bipush i => exact yk_bipush
  | sipush i => exact yk_sipush
  | goto i => exact yk_goto
  | istore_n i => exact yk_istore
  | istore i => exact yk_istore
  | iinc i n => exact yk_iinc
  | getfield i => exact yk_getfield
  | iaload => exact yk_iaload
  | ifCond c i =>
    cases c
    · exact yk_cond_eq
    · exact yk_cond_ne
    · exact yk_cond_lt
    · exact yk_cond_ge
    · exact yk_cond_gt
    · exact yk_cond_le
  | if_icmp c i =>
    cases c
    · exact yk_icmp_eq
    · exact yk_icmp_ne
    · exact yk_icmp_lt
    · exact yk_icmp_ge
    · exact yk_icmp_gt
    · exact yk_icmp_le
  | multianewarray i k =>
    intro G pc npc a1 a2 ls st sz h nx jp ot hn hx hj
    show Bool.rec (motive := fun _ => zCn) yo_none yo_multianewarray (Nat.beq k 2) G pc npc a1 a2 ls st sz h nx jp ot = ot (Bool.rec (motive := fun _ => zFn) so_none so_multianewarray (Nat.beq k 2) G pc npc a1 a2 ls st sz h)
    cases Nat.beq k 2 <;> rfl
  | newarray t => cases t <;> exact fun _ _ _ _ _ _ _ _ _ _ _ _ _ _ _ => rfl
  | _ => exact fun _ _ _ _ _ _ _ _ _ _ _ _ _ _ _ => rfl
theorem zmc_ok (k : Nat) : zQk (zmc k) (zmf k) := by
  match k with
  | 0 => exact fun _ _ _ _ _ _ _ _ _ _ _ _ _ _ _ => rfl
  | 1 => exact fun _ _ _ _ _ _ _ _ _ _ _ _ _ _ _ => rfl
  | _ + 2 => exact fun _ _ _ _ _ _ _ _ _ _ _ _ _ _ _ => rfl
theorem zrun_qk {fn : zCn} {f : zFn} (hq : zQk fn f) {M : zT (Option zMR)} {G : zG} {n d : Nat} {cd : zK} {rest : List zQ} {p pc npc a1 a2 : Nat} {ls : zLs} {st : List zV} {sz us : Nat} {h : zH} : zrun M G (n + 1) d cd ((fun k => k p fn npc a1 a2) :: rest) pc ls st sz us h = Bool.rec (motive := fun _ => zR) none (zout M (zrun M G n) d cd rest npc ls sz us h (f G pc npc a1 a2 ls st sz h)) (Nat.beq p pc) := by
  show Bool.rec (motive := fun _ => zR) none (fn G pc npc a1 a2 ls st sz h (znx (zrun M G n) d cd rest npc sz us) (zjp (zrun M G n) d cd rest npc sz us) (zout M (zrun M G n) d cd rest npc ls sz us h)) (Nat.beq p pc) = _
  rw [hq G pc npc a1 a2 ls st sz h _ _ (zout M (zrun M G n) d cd rest npc ls sz us h) rfl (fun ls' st' h' => ?_) (fun t ls' st' h' => ?_)]
  · show fN (sz + 0) (fun sz2 => fN (us + 0) (fun us2 => zrun M G n d cd (Bool.rec (motive := fun _ => List zQ) (zget cd npc) rest (Nat.beq npc npc)) npc ls' st' sz2 us2 h')) = zrun M G n d cd rest npc ls' st' sz us h'
    rw [fN_eq, fN_eq, Nat.beq_refl]
    rfl
  · show fN (sz + 0) (fun sz2 => fN (us + 0) (fun us2 => zrun M G n d cd (Bool.rec (motive := fun _ => List zQ) (zget cd t) rest (Nat.beq t npc)) t ls' st' sz2 us2 h')) = zrun M G n d cd (Bool.rec (motive := fun _ => List zQ) (zget cd t) rest (Nat.beq t npc)) t ls' st' sz us h'
    rw [fN_eq, fN_eq]
    rfl
theorem zrun_enc {M : zT (Option zMR)} {G : zG} {n d : Nat} {cd : zK} {rest : List zQ} {p pc npc a1 a2 : Nat} {ins : Instr} {ls : zLs} {st : List zV} {sz us : Nat} {h : zH} : zrun M G (n + 1) d cd (zenc (p, ins, npc, a1, a2) :: rest) pc ls st sz us h = Bool.rec (motive := fun _ => zR) none (zout M (zrun M G n) d cd rest npc ls sz us h (zdisp ins G pc npc a1 a2 ls st sz h)) (Nat.beq p pc) := zrun_qk (zdiC_ok ins)
theorem zrun_encM {M : zT (Option zMR)} {G : zG} {n d : Nat} {cd : zK} {rest : List zQ} {p k pc : Nat} {ls : zLs} {st : List zV} {sz us : Nat} {h : zH} : zrun M G (n + 1) d cd (zencM p k :: rest) pc ls st sz us h = Bool.rec (motive := fun _ => zR) none (zout M (zrun M G n) d cd rest (p + 3) ls sz us h (zmf k G pc (p + 3) 0 0 ls st sz h)) (Nat.beq p pc) := zrun_qk (zmc_ok k)
