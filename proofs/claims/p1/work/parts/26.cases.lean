/-! ===== the cases: each argument cut at points ===== -/
def zcut : Int → List Int → List (Int × Int)
  | lo, [] => [(lo, zhi)]
  | lo, p :: t => (lo, p - 1) :: zcut p t
theorem zcut_cov : ∀ (pts : List Int) (lo x : Int), lo ≤ x → x ≤ zhi → ∃ q ∈ zcut lo pts, q.1 ≤ x ∧ x ≤ q.2
  | [], lo, x, h1, h2 => ⟨_, List.mem_singleton.mpr rfl, h1, h2⟩
  | p :: t, lo, x, h1, h2 => by
    by_cases hx : x < p
    · exact ⟨(lo, p - 1), List.mem_cons_self, h1, by show x ≤ p - 1; omega⟩
    · obtain ⟨q, hq, h⟩ := zcut_cov t p x (by omega) h2
      exact ⟨q, List.mem_cons_of_mem _ hq, h⟩
def zpc (j : Nat) (q : Int × Int) : zV := if q.1 = q.2 then zi (zU (Int32.ofInt q.1)) else za q.1 q.2 j
theorem zpc_ok {ρ : Nat → Int32} {j : Nat} {q : Int × Int} (h1 : q.1 ≤ (ρ j).toInt) (h2 : (ρ j).toInt ≤ q.2) : zgI ρ (zpc j q) (ρ j) := by
  unfold zpc
  by_cases e : q.1 = q.2
  · rw [if_pos e]
    show ρ j = zI (zU _)
    rw [zI_zU, show q.1 = (ρ j).toInt by omega, Int32.ofInt_toInt]
  · rw [if_neg e]
    exact ⟨h1, h2, fun _ => rfl⟩
def zal : Nat → List (List Int) → List (List zV)
  | _, [] => []
  | j, p :: t => (zcut zlo p).map (zpc j) :: zal (j + 1) t
def zprod : List (List zV) → List (List zV)
  | [] => [[]]
  | l :: t => l.flatMap (fun a => (zprod t).map (fun r => a :: r))
theorem zprod_cov {ρ : Nat → Int32} : ∀ (ps : List (List Int)) (j : Nat), ∃ vs ∈ zprod (zal j ps), ∀ (k : Nat) (a : zV), vs[k]? = some a → zgI ρ a (ρ (j + k))
  | [], j => ⟨[], List.mem_singleton.mpr rfl, fun k a h => by simp at h⟩
  | p :: t, j => by
    obtain ⟨vs, hvs, h⟩ := zprod_cov (ρ := ρ) t (j + 1)
    obtain ⟨q, hq, h1, h2⟩ := zcut_cov p zlo (ρ j).toInt (zgI_top (ρ := ρ) (ρ j)).1 (zgI_top (ρ := ρ) (ρ j)).2.1
    refine ⟨zpc j q :: vs, List.mem_flatMap.mpr ⟨_, List.mem_map.mpr ⟨q, hq, rfl⟩, List.mem_map.mpr ⟨vs, hvs, rfl⟩⟩, fun k a ha => ?_⟩
    match k, ha with
    | 0, ha =>
      cases ha
      exact zpc_ok h1 h2
    | k + 1, ha =>
      have := h k a ha
      rwa [show j + 1 + k = j + (k + 1) by omega] at this
def zpts (op : Nat) : List (List Int) := match op with
  | 0 => [[], [], [], [], []]
  | 1 => [[0, 1], [], [], [], []]
  | 2 => [[], [], [], [], []]
  | 3 => [[], [], [], [], []]
  | 4 => [[], [], [], [], []]
  | 5 => [[0, 1, 2, 3, 4, 5, 6, 7, 8, 9, 10, 11, 12, 13, 14], [], [], [], []]
  | 6 => [[0], [], [], [], []]
  | 7 => [[0], [], [], [], []]
  | 8 => [[0], [0], [], [], []]
  | 9 => [[0], [], [], [], []]
  | 10 => [[0], [], [], [], []]
  | 11 => [[0], [0, 5], [], [], []]
  | 12 => [[0], [], [], [], []]
  | 13 => [[12], [0], [], [], []]
  | 14 => [[0, 1, 2], [], [], [], []]
  | 15 => [[0, 1, 2], [], [], [], []]
  | 16 => [[0], [], [], [], []]
  | 17 => [[0], [], [], [], []]
  | 18 => [[0], [], [], [], []]
  | 19 => [[0, 21], [], [], [], []]
  | 20 => [[0, 25], [], [], [], []]
  | 21 => [[1, 10000], [], [], [], []]
  | 22 => [[(-1), 0], [], [], [], []]
  | 23 => [[0, 5], [0, 1, 2], [], [], []]
  | 24 => [[0, 5], [0, 1, 2, 3, 4, 5, 6], [], [], []]
  | 25 => [[0, 5], [], [], [], []]
  | 26 => [[0, 5], [0, 1, 2], [], [], []]
  | 27 => [[0], [], [], [], []]
  | 28 => [[0], [], [], [], []]
  | 29 => [[0], [], [], [], []]
  | 30 => [[1, 99, 100], [], [], [], []]
  | 31 => [[0, 1, 100], [0, 1000], [], [], []]
  | 32 => [[0], [], [], [], []]
  | 33 => [[0], [], [], [], []]
  | 34 => [[(-1), 0], [], [], [], []]
  | 35 => [[0], [], [], [], []]
  | 36 => [[0], [], [], [], []]
  | 37 => [[], [], [], [], []]
  | 38 => [[], [], [], [], []]
  | 39 => [[0], [], [], [], []]
  | _ => []
def zcs (op : Nat) : List (List zV) := zprod (zal 2 (zpts op))
def zmkG (op : Nat) (vs : List zV) : zG := (some (zi op), some 6, za zlo zhi 1 :: vs)
def zGs (op : Nat) : List zG := (zcs op).map (zmkG op)
noncomputable def zE0 : zH := zrep (0, 0, 0, .leaf (zr 0)) zdep 0
def zCaseG (G : zG) : Prop := ∃ (sz1 us1 : Nat) (h1 : zH) (sz2 us2 : Nat) (h2 : zH) (sz3 us3 : Nat) (h3 : zH),
  zrun zM (none, none, []) 1000007 29 kd_X11_init (zget kd_X11_init 0) 0 (zarg 0 [zr 2]) [] 1 11 (zput zE0 (zini 11) 0) = some (none, sz1, us1, h1) ∧ sz1 < 1000 ∧
  zrun zM (none, none, []) 1000003 29 kd_X12_init (zget kd_X12_init 0) 0 (zarg 0 [zr (sz1 + 2)]) [] (sz1 + 1) (us1 + 52) (zput h1 (zini 12) sz1) = some (none, sz2, us2, h2) ∧
  zrun zM G 1000000 30 kd_L_law kb_L_law_18 18 [(3, zi 0), (2, zr (sz1 + 2)), (1, zr 2), (0, zr 1)] [] sz2 us2 h2 = some (some (zi 1), sz3, us3, h3) ∧ sz3 ≤ 600000 ∧ us3 ≤ 7302250
noncomputable def zone (r : zR) : Bool := match r with
  | some (some (.inl 1), sz3, us3, _) => Nat.ble sz3 600000 && Nat.ble us3 7302250
  | _ => false
theorem zone_ok {r : zR} (h : zone r = true) : ∃ (sz3 us3 : Nat) (h3 : zH), r = some (some (zi 1), sz3, us3, h3) ∧ sz3 ≤ 600000 ∧ us3 ≤ 7302250 := by
  unfold zone at h
  split at h
  · rename_i sz3 us3 h3
    rw [Bool.and_eq_true] at h
    exact ⟨sz3, us3, h3, rfl, Nat.le_of_ble_eq_true h.1, Nat.le_of_ble_eq_true h.2⟩
  · cases h
noncomputable def zlawM (Gs : List zG) : Bool := match zrun zM (none, none, []) 1000007 29 kd_X11_init (zget kd_X11_init 0) 0 (zarg 0 [zr 2]) [] 1 11 (zput zE0 (zini 11) 0) with
  | some (none, sz1, us1, h1) => Nat.blt sz1 1000 && (match zrun zM (none, none, []) 1000003 29 kd_X12_init (zget kd_X12_init 0) 0 (zarg 0 [zr (sz1 + 2)]) [] (sz1 + 1) (us1 + 52) (zput h1 (zini 12) sz1) with
    | some (none, sz2, us2, h2) => Gs.all (fun G => zone (zrun zM G 1000000 30 kd_L_law kb_L_law_18 18 [(3, zi 0), (2, zr (sz1 + 2)), (1, zr 2), (0, zr 1)] [] sz2 us2 h2))
    | _ => false)
  | _ => false
theorem zlawM_ok {Gs : List zG} (h : zlawM Gs = true) : ∀ G ∈ Gs, zCaseG G := by
  unfold zlawM at h
  split at h
  · rename_i sz1 us1 h1 e1
    rw [Bool.and_eq_true] at h
    obtain ⟨hb, h⟩ := h
    split at h
    · rename_i sz2 us2 h2 e2
      intro G hG
      obtain ⟨sz3, us3, h3, e3, b1, b2⟩ := zone_ok (List.all_eq_true.mp h G hG)
      exact ⟨sz1, us1, h1, sz2, us2, h2, sz3, us3, h3, e1, Nat.le_of_ble_eq_true hb, e2, e3, b1, b2⟩
    · cases h
  · cases h
theorem znew_eq {npc : Nat} {ls : zLs} {r : List zV} {sz : Nat} {h : zH} {c : zC} (hs : sz < 1024) : znew npc ls r sz h c = some (.inl (npc, ls, zr (sz + 2) :: r, zput h c sz, 1, c.2.1)) := by
  unfold znew
  rw [show Nat.blt sz (nat_lit 1024) = true from Nat.ble_eq_true_of_le hs]
  show zset h c sz _ = _
  rw [zset_eq, fN_eq]
noncomputable def kl_10 : List zQ := kb_L_law_18
noncomputable def kl_9 : List zQ := (fun k => k 17 yo_istore 18 3 0) :: kl_10
noncomputable def kl_8 : List zQ := (fun k => k 16 yo_iconst 17 0 0) :: kl_9
noncomputable def kl_7 : List zQ := (fun k => k 15 yo_astore 16 2 0) :: kl_8
noncomputable def kl_6 : List zQ := (fun k => k 12 yo_invokespecial 15 157 1) :: kl_7
noncomputable def kl_5 : List zQ := (fun k => k 11 yo_dup 12 0 0) :: kl_6
noncomputable def kl_4 : List zQ := (fun k => k 8 yo_new 11 12 0) :: kl_5
noncomputable def kl_3 : List zQ := (fun k => k 7 yo_astore 8 1 0) :: kl_4
noncomputable def kl_2 : List zQ := (fun k => k 4 yo_invokespecial 7 104 1) :: kl_3
noncomputable def kl_1 : List zQ := (fun k => k 3 yo_dup 4 0 0) :: kl_2
theorem kl_0 : kb_L_law_0 = (fun k => k 0 yo_new 3 11 0) :: kl_1 := rfl
theorem zrec_11 : zget zM 104 = some ((104, 11, true, cX11_init, 2, none), kd_X11_init) := rfl
theorem zrec_12 : zget zM 157 = some ((157, 12, true, cX12_init, 1, none), kd_X12_init) := rfl
theorem zq_new {G : zG} {h : zH} : so_new G 0 3 11 0 [(0, zr 1)] [] 0 h = some (.inl (3, [(0, zr 1)], [zr 2], zput h (zini 11) 0, 1, 11)) := znew_eq (by decide)
theorem zq_lin {G : zG} {h : zH} : zrun zM G 1000010 30 kd_L_law ((fun k => k 0 yo_new 3 11 0) :: kl_1) 0 [(0, zr 1)] [] 0 0 h = zrun zM G 1000009 30 kd_L_law kl_1 3 [(0, zr 1)] [zr 2] 1 11 (zput h (zini 11) 0) := zrun_lin (n := 1000009) (p := 0) (fn := yo_new) (f := so_new) (hq := (fun _ _ _ _ _ _ _ _ _ _ _ _ _ _ _ => rfl)) (dz := 1) (du := 11) (sz := 0) (us := 0) zq_new
theorem zfull_run {G : zG} (h : zCaseG G) : ∃ (sz3 us3 : Nat) (h3 : zH), zrun zM G 1000010 30 kd_L_law kb_L_law_0 0 [(0, zr 1)] [] 0 0 zE0 = some (some (zi 1), sz3, us3, h3) ∧ sz3 ≤ 600000 ∧ us3 ≤ 7302250 := by
  obtain ⟨sz1, us1, h1, sz2, us2, h2, sz3, us3, h3, e1, b0, e2, e3, b1, b2⟩ := h
  have e1 := zmono (G := G) zM_ok 1000007 e1 11 true cX11_init 2 none kr_X11_init (zAll_get kr_X11_init 0)
  have e2 := zmono (G := G) zM_ok 1000003 e2 12 true cX12_init 1 none kr_X12_init (zAll_get kr_X12_init 0)
  refine ⟨sz3, us3, h3, ?_, b1, b2⟩
  rw [kl_0]
  have s1 : zrun zM G 1000010 30 kd_L_law ((fun k => k 0 yo_new 3 11 0) :: kl_1) 0 [(0, zr 1)] [] 0 0 zE0 = zrun zM G 1000009 30 kd_L_law kl_1 3 [(0, zr 1)] [zr 2] 1 11 (zput zE0 (zini 11) 0) := zq_lin
  generalize zput zE0 (zini 11) 0 = hA at e1 s1
  have s2 : zrun zM G 1000009 30 kd_L_law kl_1 3 [(0, zr 1)] [zr 2] 1 11 hA = zrun zM G 1000008 30 kd_L_law kl_2 4 [(0, zr 1)] [zr 2, zr 2] 1 11 hA := zrun_lin (n := 1000008) (p := 3) (fn := yo_dup) (f := so_dup) (hq := (fun _ _ _ _ _ _ _ _ _ _ _ _ _ _ _ => rfl)) (sz := 1) (us := 11) (dz := 0) (du := 0) rfl
  have s3 : zrun zM G 1000008 30 kd_L_law kl_2 4 [(0, zr 1)] [zr 2, zr 2] 1 11 hA = zrun zM G 1000007 30 kd_L_law kl_3 7 [(0, zr 1)] [zr 2] sz1 us1 h1 := zrun_call (n := 1000007) (d := 29) (p := 4) (fn := yo_invokespecial) (f := so_invokespecial) (hq := (fun _ _ _ _ _ _ _ _ _ _ _ _ _ _ _ => rfl)) (as := [zr 2]) (rst := [zr 2]) (v1 := none) rfl (by decide) zrec_11 (by decide) (by decide) e1
  have s4 : zrun zM G 1000007 30 kd_L_law kl_3 7 [(0, zr 1)] [zr 2] sz1 us1 h1 = zrun zM G 1000006 30 kd_L_law kl_4 8 [(1, zr 2), (0, zr 1)] [] sz1 us1 h1 := zrun_lin (n := 1000006) (p := 7) (fn := yo_astore) (f := so_astore) (hq := (fun _ _ _ _ _ _ _ _ _ _ _ _ _ _ _ => rfl)) (dz := 0) (du := 0) rfl
  have s5 : zrun zM G 1000006 30 kd_L_law kl_4 8 [(1, zr 2), (0, zr 1)] [] sz1 us1 h1 = zrun zM G 1000005 30 kd_L_law kl_5 11 [(1, zr 2), (0, zr 1)] [zr (sz1 + 2)] (sz1 + 1) (us1 + 52) (zput h1 (zini 12) sz1) := zrun_lin (n := 1000005) (p := 8) (fn := yo_new) (f := so_new) (hq := (fun _ _ _ _ _ _ _ _ _ _ _ _ _ _ _ => rfl)) (dz := 1) (du := 52) (znew_eq (by omega))
  have s6 : zrun zM G 1000005 30 kd_L_law kl_5 11 [(1, zr 2), (0, zr 1)] [zr (sz1 + 2)] (sz1 + 1) (us1 + 52) (zput h1 (zini 12) sz1) = zrun zM G 1000004 30 kd_L_law kl_6 12 [(1, zr 2), (0, zr 1)] [zr (sz1 + 2), zr (sz1 + 2)] (sz1 + 1) (us1 + 52) (zput h1 (zini 12) sz1) := zrun_lin (n := 1000004) (p := 11) (fn := yo_dup) (f := so_dup) (hq := (fun _ _ _ _ _ _ _ _ _ _ _ _ _ _ _ => rfl)) (dz := 0) (du := 0) rfl
  have s7 : zrun zM G 1000004 30 kd_L_law kl_6 12 [(1, zr 2), (0, zr 1)] [zr (sz1 + 2), zr (sz1 + 2)] (sz1 + 1) (us1 + 52) (zput h1 (zini 12) sz1) = zrun zM G 1000003 30 kd_L_law kl_7 15 [(1, zr 2), (0, zr 1)] [zr (sz1 + 2)] sz2 us2 h2 := zrun_call (n := 1000003) (d := 29) (p := 12) (fn := yo_invokespecial) (f := so_invokespecial) (hq := (fun _ _ _ _ _ _ _ _ _ _ _ _ _ _ _ => rfl)) (as := [zr (sz1 + 2)]) (rst := [zr (sz1 + 2)]) (v1 := none) rfl (by decide) zrec_12 (Nat.le_refl 1) (by show 1 ≤ 8; decide) e2
  have s8 : zrun zM G 1000003 30 kd_L_law kl_7 15 [(1, zr 2), (0, zr 1)] [zr (sz1 + 2)] sz2 us2 h2 = zrun zM G 1000002 30 kd_L_law kl_8 16 [(2, zr (sz1 + 2)), (1, zr 2), (0, zr 1)] [] sz2 us2 h2 := zrun_lin (n := 1000002) (p := 15) (fn := yo_astore) (f := so_astore) (hq := (fun _ _ _ _ _ _ _ _ _ _ _ _ _ _ _ => rfl)) (dz := 0) (du := 0) rfl
  have s9 : zrun zM G 1000002 30 kd_L_law kl_8 16 [(2, zr (sz1 + 2)), (1, zr 2), (0, zr 1)] [] sz2 us2 h2 = zrun zM G 1000001 30 kd_L_law kl_9 17 [(2, zr (sz1 + 2)), (1, zr 2), (0, zr 1)] [zi 0] sz2 us2 h2 := zrun_lin (n := 1000001) (p := 16) (fn := yo_iconst) (f := so_iconst) (hq := yk_iconst) (dz := 0) (du := 0) rfl
  have s10 : zrun zM G 1000001 30 kd_L_law kl_9 17 [(2, zr (sz1 + 2)), (1, zr 2), (0, zr 1)] [zi 0] sz2 us2 h2 = zrun zM G 1000000 30 kd_L_law kl_10 18 [(3, zi 0), (2, zr (sz1 + 2)), (1, zr 2), (0, zr 1)] [] sz2 us2 h2 := zrun_lin (n := 1000000) (p := 17) (fn := yo_istore) (f := so_istore) (hq := yk_istore) (dz := 0) (du := 0) rfl
  rw [s1, s2, s3, s4, s5, s6, s7, s8, s9, s10]
  exact e3
