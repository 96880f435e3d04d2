/-! ===== heaps as plain numbers ===== -/
abbrev PH : Type := Int → Int → Int
def zrow (k : Nat) : Prop := 16 ≤ k ∧ k ≤ 18
def zWc (K : Nat × Nat × Nat) (q : zC) (f : Int → Int) : Prop := q.1 = K.1 ∧ q.2.1 = K.2.1 ∧ (zrow K.1 → ∀ i : Nat, i < K.2.1 → zdg q.2.2.1 i = zu (f i) ∧ zIn (f i)) ∧ (¬ zrow K.1 → zfull K.2.2 0 q.2.2.2 ∧ K.2.1 ≤ 2 ^ K.2.2 ∧ ∀ i : Nat, i < K.2.1 → zget q.2.2.2 i = pe (ztg K.1 i, f i) ∧ pok (ztg K.1 i, f i))
def VA (c i : Int) : Prop := 0 ≤ c ∧ c < zNC ∧ 0 ≤ i ∧ i < ((zSh c.toNat).2.1 : Int)
def RF (H : PH) : Prop := (∀ c i : Nat, c < zNC → ∀ v, zrt c i = some v → H c i = v) ∧ ∀ c i : Int, ¬ VA c i → H c i = 0
def zW (h : zH) (H : PH) : Prop := zfull zdep 0 h ∧ (∀ c : Nat, c < zNC → zWc (zSh c) (zget h c) (H c)) ∧ RF H
/-- a value of the heap: a reference that never changes is known -/
noncomputable def gv (H : PH) (c i : Int) : Int := match zrt c.toNat i.toNat with
  | some v => v
  | none => H c i
theorem gv_RF {H : PH} (h : RF H) {c i : Int} (h0 : 0 ≤ c) (h1 : c < zNC) (hi : 0 ≤ i) : gv H c i = H c i := by
  unfold gv
  split
  · rename_i v hv
    have e := h.1 c.toNat i.toNat (by omega) v hv
    rw [← e]
    congr 1 <;> omega
  · rfl
def pup (H : PH) (c i v : Int) : PH := fun c' i' => if c' = c ∧ i' = i then v else H c' i'
/-- from this place of a method on, in any room: it ends, and Q holds of its answer and of the heap then -/
def Tr (G : zG) (us : Nat) (cd : zK) (D : Nat) (cur : List zQ) (pc : Nat) (ls : PL) (st : List pv) (H : PH) (Q : Option pv → PH → Prop) : Prop :=
  pokL ls → pokS st → ∀ h, zW h H → ∃ (r : Option pv) (h' : zH) (H' : PH) (n0 : Nat), zW h' H' ∧ Q r H' ∧ (∀ p, r = some p → pok p) ∧ ∀ d, D ≤ d → ∀ n, n0 ≤ n → zrun zM G n d cd cur pc (peL ls) (peS st) zNC us h = some (r.map pe, zNC, us, h')
section TR
variable {G : zG} {us : Nat} {cd : zK} {D : Nat} {rest : List zQ} {p npc a1 a2 : Nat} {ls ls' : PL} {st st' : List pv} {H H' : PH} {Q : Option pv → PH → Prop} {fn : zCn} {f : zFn}
theorem tr_at {t : Nat} {cur : List zQ} (hq : zQk fn f) (hs : pokL ls → pokS st → ∀ h, zW h H → ∃ h', zW h' H' ∧ pokL ls' ∧ pokS st' ∧ f G p npc a1 a2 (peL ls) (peS st) zNC h = zgo t (peL ls') (peS st') h') (hc : cur = Bool.rec (motive := fun _ => List zQ) (zget cd t) rest (Nat.beq t npc)) (hk : Tr G us cd D cur t ls' st' H' Q) : Tr G us cd D ((fun k => k p fn npc a1 a2) :: rest) p ls st H Q := by
  intro hl0 hs0 h hW
  obtain ⟨h', hW', hl, hs', he⟩ := hs hl0 hs0 h hW
  obtain ⟨r, h2, H2, n0, a, b, c, d⟩ := hk hl hs' h' hW'
  refine ⟨r, h2, H2, n0 + 1, a, b, c, fun d' hd n hn => ?_⟩
  obtain ⟨m, rfl⟩ : ∃ m, n = m + 1 := ⟨n - 1, by omega⟩
  rw [zrun_qk hq, Nat.beq_refl]
  show zout zM (zrun zM G m) d' cd rest npc (peL ls) zNC us h (f G p npc a1 a2 (peL ls) (peS st) zNC h) = _
  rw [he]
  show fN (zNC + 0) (fun sz2 => fN (us + 0) (fun us2 => zrun zM G m d' cd (Bool.rec (motive := fun _ => List zQ) (zget cd t) rest (Nat.beq t npc)) t (peL ls') (peS st') sz2 us2 h')) = _
  rw [fN_eq, fN_eq, ← hc]
  exact d d' hd m (by omega)
theorem tr_nx (hq : zQk fn f) (hs : pokL ls → pokS st → ∀ h, zW h H → ∃ h', zW h' H' ∧ pokL ls' ∧ pokS st' ∧ f G p npc a1 a2 (peL ls) (peS st) zNC h = zgo npc (peL ls') (peS st') h') (hk : Tr G us cd D rest npc ls' st' H' Q) : Tr G us cd D ((fun k => k p fn npc a1 a2) :: rest) p ls st H Q :=
  tr_at hq hs (by rw [Nat.beq_refl]) hk
theorem tr_jp {t : Nat} (ht : Nat.beq t npc = false) (hq : zQk fn f) (hs : pokL ls → pokS st → ∀ h, zW h H → ∃ h', zW h' H' ∧ pokL ls' ∧ pokS st' ∧ f G p npc a1 a2 (peL ls) (peS st) zNC h = zgo t (peL ls') (peS st') h') (hk : Tr G us cd D (zget cd t) t ls' st' H' Q) : Tr G us cd D ((fun k => k p fn npc a1 a2) :: rest) p ls st H Q :=
  tr_at hq hs (by rw [ht]) hk
theorem tr_br {c : Prop} (ht : Nat.beq a1 npc = false) (hq : zQk fn f) (hs : pokL ls → pokS st → ∀ h, zW h H → pokL ls' ∧ pokS st' ∧ (c → f G p npc a1 a2 (peL ls) (peS st) zNC h = zgo a1 (peL ls') (peS st') h) ∧ (¬ c → f G p npc a1 a2 (peL ls) (peS st) zNC h = zgo npc (peL ls') (peS st') h)) (h1 : c → Tr G us cd D (zget cd a1) a1 ls' st' H Q) (h2 : ¬ c → Tr G us cd D rest npc ls' st' H Q) : Tr G us cd D ((fun k => k p fn npc a1 a2) :: rest) p ls st H Q := by
  by_cases hc : c
  · exact tr_jp ht hq (fun a b h w => ⟨h, w, (hs a b h w).1, (hs a b h w).2.1, (hs a b h w).2.2.1 hc⟩) (h1 hc)
  · exact tr_nx hq (fun a b h w => ⟨h, w, (hs a b h w).1, (hs a b h w).2.1, (hs a b h w).2.2.2 hc⟩) (h2 hc)
theorem tr_ret (hq : zQk fn f) {r : Option pv} (hs : pokS st → (∀ q, r = some q → pok q) ∧ ∀ h, f G p npc a1 a2 (peL ls) (peS st) zNC h = some (.inr (.inr (r.map pe)))) (hk : Q r H) : Tr G us cd D ((fun k => k p fn npc a1 a2) :: rest) p ls st H Q := by
  intro hl0 hs0 h hW
  obtain ⟨hr, he⟩ := hs hs0
  refine ⟨r, h, H, 1, hW, hk, hr, fun d' hd n hn => ?_⟩
  obtain ⟨m, rfl⟩ : ∃ m, n = m + 1 := ⟨n - 1, by omega⟩
  rw [zrun_qk hq, Nat.beq_refl]
  show zout zM (zrun zM G m) d' cd rest npc (peL ls) zNC us h (f G p npc a1 a2 (peL ls) (peS st) zNC h) = _
  rw [he]
  rfl
/-! loads, stores, constants -/
theorem zld_pe {q : zV → Bool} {i : Nat} {v : pv} {k : zV → zO} (hg : pget ls i = some v) (hp : q (pe v) = true) : zld q (peL ls) i k = k (pe v) := by
  unfold zld
  rw [zfind_pe, hg]
  show zwhen (q (pe v)) (k (pe v)) = _
  rw [hp]
  rfl
theorem pok_w (x : Int) : pok (0, zw x) := zw_in x
theorem tr_iload {x : Int} (hg : pget ls a1 = some (0, x)) (hk : Tr G us cd D rest npc ls ((0, x) :: st) H Q) : Tr G us cd D ((fun k => k p yo_iload npc a1 a2) :: rest) p ls st H Q :=
  tr_nx (ls' := ls) (st' := (0, x) :: st) (H' := H) yk_iload (fun hl hs h hW => ⟨h, hW, hl, pokS_cons.mpr ⟨pget_ok hl hg, hs⟩, zld_pe hg rfl⟩) hk
theorem pe_R {c : Int} (h : 0 ≤ c + 1) : zisR (pe (2, c)) = true := by
  have e : (c + 2).toNat = (c + 1).toNat + 1 := by omega
  show zisR (zr (c + 2).toNat) = true
  rw [e]
  rfl
theorem tr_aload {c : Int} (hg : pget ls a1 = some (2, c)) (hc : 0 ≤ c + 1) (hk : Tr G us cd D rest npc ls ((2, c) :: st) H Q) : Tr G us cd D ((fun k => k p yo_aload npc a1 a2) :: rest) p ls st H Q :=
  tr_nx (ls' := ls) (st' := (2, c) :: st) (H' := H) yk_aload (fun hl hs h hW => ⟨h, hW, hl, pokS_cons.mpr ⟨pget_ok hl hg, hs⟩, zld_pe hg (pe_R hc)⟩) hk
theorem tr_lload {x : Int} (hg : pget ls a1 = some (1, x)) (hk : Tr G us cd D rest npc ls ((1, x) :: st) H Q) : Tr G us cd D ((fun k => k p yo_lload npc a1 a2) :: rest) p ls st H Q :=
  tr_nx (ls' := ls) (st' := (1, x) :: st) (H' := H) (f := so_lload) (fun _ _ _ _ _ _ _ _ _ _ _ _ _ _ _ => rfl) (fun hl hs h hW => ⟨h, hW, hl, pokS_cons.mpr ⟨pget_ok hl hg, hs⟩, zld_pe hg rfl⟩) hk
theorem tr_istore {x : Int} (hk : Tr G us cd D rest npc (pset ls a1 false (0, x)) st H Q) : Tr G us cd D ((fun k => k p yo_istore npc a1 a2) :: rest) p ls ((0, x) :: st) H Q :=
  tr_nx (ls' := pset ls a1 false (0, x)) (st' := st) (H' := H) yk_istore (fun hl hs h hW => ⟨h, hW, pset_ok hl (pokS_cons.mp hs).1, (pokS_cons.mp hs).2, by
    show zstore (peL ls) a1 false (pe (0, x)) (fun ls' => zgo npc ls' (peS st) h) = _
    rw [zstore_pe]⟩) hk
theorem tr_astore {c : Int} (hc : 0 ≤ c + 1) (hk : Tr G us cd D rest npc (pset ls a1 false (2, c)) st H Q) : Tr G us cd D ((fun k => k p yo_astore npc a1 a2) :: rest) p ls ((2, c) :: st) H Q :=
  tr_nx (ls' := pset ls a1 false (2, c)) (st' := st) (H' := H) (f := so_astore) (fun _ _ _ _ _ _ _ _ _ _ _ _ _ _ _ => rfl) (fun hl hs h hW => ⟨h, hW, pset_ok hl (pokS_cons.mp hs).1, (pokS_cons.mp hs).2, by
    show zwhen (zisR (pe (2, c))) (zstore (peL ls) a1 false (pe (2, c)) (fun ls' => zgo npc ls' (peS st) h)) = _
    rw [pe_R hc, zstore_pe]
    rfl⟩) hk
theorem tr_lstore {x : Int} (hk : Tr G us cd D rest npc (pset ls a1 true (1, x)) st H Q) : Tr G us cd D ((fun k => k p yo_lstore npc a1 a2) :: rest) p ls ((1, x) :: st) H Q :=
  tr_nx (ls' := pset ls a1 true (1, x)) (st' := st) (H' := H) (f := so_lstore) (fun _ _ _ _ _ _ _ _ _ _ _ _ _ _ _ => rfl) (fun hl hs h hW => ⟨h, hW, pset_ok hl (pokS_cons.mp hs).1, (pokS_cons.mp hs).2, by
    show zstore (peL ls) a1 true (pe (1, x)) (fun ls' => zgo npc ls' (peS st) h) = _
    rw [zstore_pe]⟩) hk
theorem zu_addc (x : Int) (c : Nat) : (zu x + c) % 4294967296 = zu (zw (x + c)) := by
  rw [zu_zw]
  have h1 := zu_cast x
  have h3 := zu_cast (x + c)
  omega
theorem tr_iinc {x : Int} (hg : pget ls a1 = some (0, x)) (hk : Tr G us cd D rest npc (pset ls a1 false (0, zw (x + (a2 : Int)))) st H Q) : Tr G us cd D ((fun k => k p yo_iinc npc a1 a2) :: rest) p ls st H Q :=
  tr_nx (ls' := pset ls a1 false (0, zw (x + (a2 : Int)))) (st' := st) (H' := H) yk_iinc (fun hl hs h hW => ⟨h, hW, pset_ok hl (pok_w _), hs, by
    show zld zisI (peL ls) a1 (fun a => zinc a2 a (fun v => zstore (peL ls) a1 false v (fun ls' => zgo npc ls' (peS st) h))) = _
    rw [zld_pe hg rfl]
    show zk32 (zu x + a2) (fun v => zstore (peL ls) a1 false v (fun ls' => zgo npc ls' (peS st) h)) = _
    rw [zk32_eq, zu_addc]
    show zstore (peL ls) a1 false (pe (0, zw (x + (a2 : Int)))) (fun ls' => zgo npc ls' (peS st) h) = _
    rw [zstore_pe]⟩) hk
theorem pe_k {n : Nat} (h : n < 4294967296) : pe (0, zw (n : Int)) = zi n := by
  show zi (zu (zw (n : Int))) = zi n
  rw [zu_zw, zu_nat h]
theorem tr_k (hq : zQk fn so_iconst) (ha : a1 < 4294967296) (hk : Tr G us cd D rest npc ls ((0, zw (a1 : Int)) :: st) H Q) : Tr G us cd D ((fun k => k p fn npc a1 a2) :: rest) p ls st H Q :=
  tr_nx (ls' := ls) (st' := (0, zw (a1 : Int)) :: st) (H' := H) hq (fun hl hs h hW => ⟨h, hW, hl, pokS_cons.mpr ⟨pok_w _, hs⟩, by
    show zgo npc (peL ls) (zi a1 :: peS st) h = zgo npc (peL ls) (pe (0, zw (a1 : Int)) :: peS st) h
    rw [pe_k ha]⟩) hk
theorem pok_l {x : Int} (h0 : 0 ≤ x) (h1 : x < 18446744073709551616) : pok (1, x) := ⟨h0, h1⟩
theorem tr_lk (hq : zQk fn so_lconst) (ha : (a1 : Int) < 18446744073709551616) (hk : Tr G us cd D rest npc ls ((1, (a1 : Int)) :: st) H Q) : Tr G us cd D ((fun k => k p fn npc a1 a2) :: rest) p ls st H Q :=
  tr_nx (ls' := ls) (st' := (1, (a1 : Int)) :: st) (H' := H) hq (fun hl hs h hW => ⟨h, hW, hl, pokS_cons.mpr ⟨pok_l (by omega) ha, hs⟩, rfl⟩) hk
/-! arithmetic -/
theorem tr_n2 {x y z : Int} (hq : zQk fn f) (hf : ∀ h, f G p npc a1 a2 (peL ls) (pe (0, y) :: pe (0, x) :: peS st) zNC h = zgo npc (peL ls) (pe (0, z) :: peS st) h) (hz : zIn x → zIn y → zIn z) (hk : Tr G us cd D rest npc ls ((0, z) :: st) H Q) : Tr G us cd D ((fun k => k p fn npc a1 a2) :: rest) p ls ((0, y) :: (0, x) :: st) H Q :=
  tr_nx (ls' := ls) (st' := (0, z) :: st) (H' := H) hq (fun hl hs h hW => ⟨h, hW, hl, pokS_cons.mpr ⟨hz (pokS_cons.mp (pokS_cons.mp hs).2).1 (pokS_cons.mp hs).1, (pokS_cons.mp (pokS_cons.mp hs).2).2⟩, hf h⟩) hk
theorem tr_iadd {x y : Int} (hk : Tr G us cd D rest npc ls ((0, zw (x + y)) :: st) H Q) : Tr G us cd D ((fun k => k p yo_iadd npc a1 a2) :: rest) p ls ((0, y) :: (0, x) :: st) H Q :=
  tr_n2 (f := so_iadd) (fun _ _ _ _ _ _ _ _ _ _ _ _ _ _ _ => rfl) (fun h => by
    show zk32 (zu x + zu y) (fun v => zgo npc (peL ls) (v :: peS st) h) = _
    rw [zk32_eq, zu_add]
    rfl) (fun _ _ => zw_in _) hk
theorem tr_isub {x y : Int} (hk : Tr G us cd D rest npc ls ((0, zw (x - y)) :: st) H Q) : Tr G us cd D ((fun k => k p yo_isub npc a1 a2) :: rest) p ls ((0, y) :: (0, x) :: st) H Q :=
  tr_n2 (f := so_isub) (fun _ _ _ _ _ _ _ _ _ _ _ _ _ _ _ => rfl) (fun h => by
    show zk32 (zu x + (4294967296 - zu y % 4294967296)) (fun v => zgo npc (peL ls) (v :: peS st) h) = _
    rw [zk32_eq, zu_sub]
    rfl) (fun _ _ => zw_in _) hk
theorem tr_imul {x y : Int} (hk : Tr G us cd D rest npc ls ((0, zw (x * y)) :: st) H Q) : Tr G us cd D ((fun k => k p yo_imul npc a1 a2) :: rest) p ls ((0, y) :: (0, x) :: st) H Q :=
  tr_n2 (f := so_imul) (fun _ _ _ _ _ _ _ _ _ _ _ _ _ _ _ => rfl) (fun h => by
    show zk32 (zu x * zu y) (fun v => zgo npc (peL ls) (v :: peS st) h) = _
    rw [zk32_eq, zu_mul]
    rfl) (fun _ _ => zw_in _) hk
/-! places -/
theorem tr_goto (ht : Nat.beq a1 npc = false) (hk : Tr G us cd D (zget cd a1) a1 ls st H Q) : Tr G us cd D ((fun k => k p yo_goto npc a1 a2) :: rest) p ls st H Q :=
  tr_jp ht yk_goto (fun hl hs h hW => ⟨h, hW, hl, hs, rfl⟩) hk
def prel (c : Jvm.ClassFile.Cond) (x y : Int) : Prop := match c with
  | .eq => x = y
  | .ne => ¬ x = y
  | .lt => x < y
  | .ge => y ≤ x
  | .gt => y < x
  | .le => x ≤ y
theorem zcc_ne (p q : Nat) : zcc .ne p q = !Nat.beq p q := rfl
theorem zcc_pe {c : Jvm.ClassFile.Cond} {x y : Int} (hx : zIn x) (hy : zIn y) : zcc c (zsu (zu x)) (zsu (zu y)) = true ↔ prel c x y := by
  have h1 := zsu_zu hx
  have h2 := zsu_zu hy
  cases c with
  | eq =>
    show Nat.beq _ _ = true ↔ x = y
    rw [Nat.beq_eq]
    omega
  | ne =>
    rw [zcc_ne, Bool.not_eq_true', Bool.eq_false_iff, ne_eq, Nat.beq_eq]
    show _ ↔ ¬ x = y
    omega
  | lt =>
    show Nat.ble _ _ = true ↔ x < y
    rw [Nat.ble_eq]
    omega
  | ge =>
    show Nat.ble _ _ = true ↔ y ≤ x
    rw [Nat.ble_eq]
    omega
  | gt =>
    show Nat.ble _ _ = true ↔ y < x
    rw [Nat.ble_eq]
    omega
  | le =>
    show Nat.ble _ _ = true ↔ x ≤ y
    rw [Nat.ble_eq]
    omega
theorem zbr_pe {c : Jvm.ClassFile.Cond} {x y : Int} (hx : zIn x) (hy : zIn y) {t e : zO} : (prel c x y → zbr (zcmp c (pe (0, x)) (pe (0, y))) t e = t) ∧ (¬ prel c x y → zbr (zcmp c (pe (0, x)) (pe (0, y))) t e = e) := by
  have h := zcc_pe (c := c) hx hy
  have e1 : zcmp c (pe (0, x)) (pe (0, y)) = some (zcc c (zsu (zu x)) (zsu (zu y))) := rfl
  rw [e1]
  cases hb : zcc c (zsu (zu x)) (zsu (zu y))
  · rw [hb] at h
    exact ⟨fun q => absurd (h.mpr q) (by decide), fun _ => rfl⟩
  · rw [hb] at h
    exact ⟨fun _ => rfl, fun q => absurd (h.mp rfl) q⟩
theorem tr_icmp {c : Jvm.ClassFile.Cond} {x y : Int} (ht : Nat.beq a1 npc = false) (hq : zQk fn f) (hf : ∀ (G : zG) (pc npc a1 a2 : Nat) (ls : zLs) (a b : zV) (st : List zV) (sz : Nat) (h : zH), f G pc npc a1 a2 ls (b :: a :: st) sz h = zbr (zcmp c a b) (zgo a1 ls st h) (zgo npc ls st h)) (h1 : prel c x y → Tr G us cd D (zget cd a1) a1 ls st H Q) (h2 : ¬ prel c x y → Tr G us cd D rest npc ls st H Q) : Tr G us cd D ((fun k => k p fn npc a1 a2) :: rest) p ls ((0, y) :: (0, x) :: st) H Q :=
  tr_br (c := prel c x y) ht hq (fun hl hs h hW => by
    obtain ⟨hy, hs1⟩ := pokS_cons.mp hs
    obtain ⟨hx, hs2⟩ := pokS_cons.mp hs1
    refine ⟨hl, hs2, ?_⟩
    show (_ → f G p npc a1 a2 (peL ls) (pe (0, y) :: pe (0, x) :: peS st) zNC h = _) ∧ (_ → f G p npc a1 a2 (peL ls) (pe (0, y) :: pe (0, x) :: peS st) zNC h = _)
    rw [hf]
    exact zbr_pe hx hy) h1 h2
theorem tr_cond {c : Jvm.ClassFile.Cond} {x : Int} (ht : Nat.beq a1 npc = false) (hq : zQk fn f) (hf : ∀ (G : zG) (pc npc a1 a2 : Nat) (ls : zLs) (a : zV) (st : List zV) (sz : Nat) (h : zH), f G pc npc a1 a2 ls (a :: st) sz h = zbr (zcmp c a (zi 0)) (zgo a1 ls st h) (zgo npc ls st h)) (h1 : prel c x 0 → Tr G us cd D (zget cd a1) a1 ls st H Q) (h2 : ¬ prel c x 0 → Tr G us cd D rest npc ls st H Q) : Tr G us cd D ((fun k => k p fn npc a1 a2) :: rest) p ls ((0, x) :: st) H Q :=
  tr_br (c := prel c x 0) ht hq (fun hl hs h hW => by
    obtain ⟨hx, hs1⟩ := pokS_cons.mp hs
    refine ⟨hl, hs1, ?_⟩
    show (_ → f G p npc a1 a2 (peL ls) (pe (0, x) :: peS st) zNC h = _) ∧ (_ → f G p npc a1 a2 (peL ls) (pe (0, x) :: peS st) zNC h = _)
    rw [hf]
    have e : zi 0 = pe (0, 0) := by decide
    rw [e]
    exact zbr_pe hx (by unfold zIn; omega)) h1 h2
end TR
