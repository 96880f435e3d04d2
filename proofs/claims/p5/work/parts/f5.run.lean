/-! ===== the whole run of the law ===== -/
noncomputable def zE0 : zH := zrep (0, 0, 0, .leaf (zr 0)) zdep 0
noncomputable def firstB : Bool := match zrun zM (none, none, []) 1000007 33 kd_X11_init (zget kd_X11_init 0) 0 (zarg 0 [zr 2]) [] 1 11 (zput zE0 (zini 11) 0) with
  | some (none, sz1, us1, h1) => Nat.beq sz1 590 && (match zrun zM (none, none, []) 1000003 33 kd_X12_init (zget kd_X12_init 0) 0 (zarg 0 [zr (sz1 + 2)]) [] (sz1 + 1) (us1 + 52) (zput h1 (zini 12) sz1) with
    | some (none, sz2, us2, h2) => Nat.beq sz2 622 && Nat.ble us2 7302250 && zfb zdep 0 h2 && (List.range 622).all (cchk h2)
    | _ => false)
  | _ => false
theorem firstB_ok : firstB = true := by decide +kernel
theorem first_run : ∃ (us1 : Nat) (h1 : zH) (us2 : Nat) (h2 : zH), zrun zM (none, none, []) 1000007 33 kd_X11_init (zget kd_X11_init 0) 0 (zarg 0 [zr 2]) [] 1 11 (zput zE0 (zini 11) 0) = some (none, 590, us1, h1) ∧ zrun zM (none, none, []) 1000003 33 kd_X12_init (zget kd_X12_init 0) 0 (zarg 0 [zr 592]) [] 591 (us1 + 52) (zput h1 (zini 12) 590) = some (none, 622, us2, h2) ∧ us2 ≤ 7302250 ∧ zW h2 HI := by
  have h := firstB_ok
  unfold firstB at h
  split at h
  · rename_i sz1 us1 h1 e1
    rw [Bool.and_eq_true] at h
    have b1 := Nat.eq_of_beq_eq_true h.1
    subst b1
    have h := h.2
    split at h
    · rename_i sz2 us2 h2 e2
      simp only [Bool.and_eq_true] at h
      obtain ⟨⟨⟨b2, b3⟩, b4⟩, b5⟩ := h
      have b2 := Nat.eq_of_beq_eq_true b2
      subst b2
      exact ⟨us1, h1, us2, h2, e1, e2, Nat.le_of_ble_eq_true b3, zfb_ok _ _ _ b4, fun c hc => cchk_ok (List.all_eq_true.mp b5 c (List.mem_range.mpr hc)), RF_HI⟩
    · cases h
  · cases h
theorem znew_eq {npc : Nat} {ls : zLs} {r : List zV} {sz : Nat} {h : zH} {c : zC} (hs : sz < 1024) : znew npc ls r sz h c = some (.inl (npc, ls, zr (sz + 2) :: r, zput h c sz, 1, c.2.1)) := by
  unfold znew
  rw [show Nat.blt sz (nat_lit 1024) = true from Nat.ble_eq_true_of_le hs]
  show zset h c sz _ = _
  rw [zset_eq, fN_eq]
noncomputable def kl_10 : List zQ := kb_L_law_18
noncomputable def kl_9 : List zQ := (fun k => k 17 yo_istore 18 3 0) :: kl_10
noncomputable def kl_8 : List zQ := (fun k => k 16 yo_iconst 17 0 0) :: kl_9
noncomputable def kl_7 : List zQ := (fun k => k 15 yo_astore 16 2 0) :: kl_8
noncomputable def kl_6 : List zQ := (fun k => k 12 yo_invokespecial 15 157 1) :: kl_7
noncomputable def kl_5 : List zQ := (fun k => k 11 yo_dup 12 0 0) :: kl_6
noncomputable def kl_4 : List zQ := (fun k => k 8 yo_new 11 12 0) :: kl_5
noncomputable def kl_3 : List zQ := (fun k => k 7 yo_astore 8 1 0) :: kl_4
noncomputable def kl_2 : List zQ := (fun k => k 4 yo_invokespecial 7 104 1) :: kl_3
noncomputable def kl_1 : List zQ := (fun k => k 3 yo_dup 4 0 0) :: kl_2
theorem kl_0 : kb_L_law_0 = (fun k => k 0 yo_new 3 11 0) :: kl_1 := rfl
theorem zrec_11 : zget zM 104 = some ((104, 11, true, cX11_init, 2, none), kd_X11_init) := rfl
theorem zrec_12 : zget zM 157 = some ((157, 12, true, cX12_init, 1, none), kd_X12_init) := rfl
theorem zq_new {G : zG} {h : zH} : so_new G 0 3 11 0 [(0, zr 1)] [] 0 h = some (.inl (3, [(0, zr 1)], [zr 2], zput h (zini 11) 0, 1, 11)) := znew_eq (by decide)
theorem zq_lin {n : Nat} {G : zG} {h : zH} : zrun zM G (n + 10) 34 kd_L_law ((fun k => k 0 yo_new 3 11 0) :: kl_1) 0 [(0, zr 1)] [] 0 0 h = zrun zM G (n + 9) 34 kd_L_law kl_1 3 [(0, zr 1)] [zr 2] 1 11 (zput h (zini 11) 0) := zrun_lin (n := (n + 9)) (p := 0) (fn := yo_new) (f := so_new) (hq := (fun _ _ _ _ _ _ _ _ _ _ _ _ _ _ _ => rfl)) (dz := 1) (du := 11) (sz := 0) (us := 0) zq_new
theorem zfull2 {G : zG} {n sz1 us1 sz2 us2 sz3 us3 : Nat} {h1 h2 h3 : zH} (e1 : zrun zM (none, none, []) (n + 7) 33 kd_X11_init (zget kd_X11_init 0) 0 (zarg 0 [zr 2]) [] 1 11 (zput zE0 (zini 11) 0) = some (none, sz1, us1, h1)) (b0 : sz1 < 1000) (e2 : zrun zM (none, none, []) (n + 3) 33 kd_X12_init (zget kd_X12_init 0) 0 (zarg 0 [zr (sz1 + 2)]) [] (sz1 + 1) (us1 + 52) (zput h1 (zini 12) sz1) = some (none, sz2, us2, h2)) (e3 : zrun zM G n 34 kd_L_law kb_L_law_18 18 [(3, zi 0), (2, zr (sz1 + 2)), (1, zr 2), (0, zr 1)] [] sz2 us2 h2 = some (some (zi 1), sz3, us3, h3)) : zrun zM G (n + 10) 34 kd_L_law kb_L_law_0 0 [(0, zr 1)] [] 0 0 zE0 = some (some (zi 1), sz3, us3, h3) := by
  have e1 := zmono (G := G) zM_ok (n + 7) e1 11 true cX11_init 2 none kr_X11_init (zAll_get kr_X11_init 0)
  have e2 := zmono (G := G) zM_ok (n + 3) e2 12 true cX12_init 1 none kr_X12_init (zAll_get kr_X12_init 0)
  rw [kl_0]
  have s1 : zrun zM G (n + 10) 34 kd_L_law ((fun k => k 0 yo_new 3 11 0) :: kl_1) 0 [(0, zr 1)] [] 0 0 zE0 = zrun zM G (n + 9) 34 kd_L_law kl_1 3 [(0, zr 1)] [zr 2] 1 11 (zput zE0 (zini 11) 0) := zq_lin
  generalize zput zE0 (zini 11) 0 = hA at e1 s1
  have s2 : zrun zM G (n + 9) 34 kd_L_law kl_1 3 [(0, zr 1)] [zr 2] 1 11 hA = zrun zM G (n + 8) 34 kd_L_law kl_2 4 [(0, zr 1)] [zr 2, zr 2] 1 11 hA := zrun_lin (n := (n + 8)) (p := 3) (fn := yo_dup) (f := so_dup) (hq := (fun _ _ _ _ _ _ _ _ _ _ _ _ _ _ _ => rfl)) (sz := 1) (us := 11) (dz := 0) (du := 0) rfl
  have s3 : zrun zM G (n + 8) 34 kd_L_law kl_2 4 [(0, zr 1)] [zr 2, zr 2] 1 11 hA = zrun zM G (n + 7) 34 kd_L_law kl_3 7 [(0, zr 1)] [zr 2] sz1 us1 h1 := zrun_call (n := (n + 7)) (d := 33) (p := 4) (fn := yo_invokespecial) (f := so_invokespecial) (hq := (fun _ _ _ _ _ _ _ _ _ _ _ _ _ _ _ => rfl)) (as := [zr 2]) (rst := [zr 2]) (v1 := none) rfl (by decide) zrec_11 (by decide) (by decide) e1
  have s4 : zrun zM G (n + 7) 34 kd_L_law kl_3 7 [(0, zr 1)] [zr 2] sz1 us1 h1 = zrun zM G (n + 6) 34 kd_L_law kl_4 8 [(1, zr 2), (0, zr 1)] [] sz1 us1 h1 := zrun_lin (n := (n + 6)) (p := 7) (fn := yo_astore) (f := so_astore) (hq := (fun _ _ _ _ _ _ _ _ _ _ _ _ _ _ _ => rfl)) (dz := 0) (du := 0) rfl
  have s5 : zrun zM G (n + 6) 34 kd_L_law kl_4 8 [(1, zr 2), (0, zr 1)] [] sz1 us1 h1 = zrun zM G (n + 5) 34 kd_L_law kl_5 11 [(1, zr 2), (0, zr 1)] [zr (sz1 + 2)] (sz1 + 1) (us1 + 52) (zput h1 (zini 12) sz1) := zrun_lin (n := (n + 5)) (p := 8) (fn := yo_new) (f := so_new) (hq := (fun _ _ _ _ _ _ _ _ _ _ _ _ _ _ _ => rfl)) (dz := 1) (du := 52) (znew_eq (by omega))
  have s6 : zrun zM G (n + 5) 34 kd_L_law kl_5 11 [(1, zr 2), (0, zr 1)] [zr (sz1 + 2)] (sz1 + 1) (us1 + 52) (zput h1 (zini 12) sz1) = zrun zM G (n + 4) 34 kd_L_law kl_6 12 [(1, zr 2), (0, zr 1)] [zr (sz1 + 2), zr (sz1 + 2)] (sz1 + 1) (us1 + 52) (zput h1 (zini 12) sz1) := zrun_lin (n := (n + 4)) (p := 11) (fn := yo_dup) (f := so_dup) (hq := (fun _ _ _ _ _ _ _ _ _ _ _ _ _ _ _ => rfl)) (dz := 0) (du := 0) rfl
  have s7 : zrun zM G (n + 4) 34 kd_L_law kl_6 12 [(1, zr 2), (0, zr 1)] [zr (sz1 + 2), zr (sz1 + 2)] (sz1 + 1) (us1 + 52) (zput h1 (zini 12) sz1) = zrun zM G (n + 3) 34 kd_L_law kl_7 15 [(1, zr 2), (0, zr 1)] [zr (sz1 + 2)] sz2 us2 h2 := zrun_call (n := (n + 3)) (d := 33) (p := 12) (fn := yo_invokespecial) (f := so_invokespecial) (hq := (fun _ _ _ _ _ _ _ _ _ _ _ _ _ _ _ => rfl)) (as := [zr (sz1 + 2)]) (rst := [zr (sz1 + 2)]) (v1 := none) rfl (by decide) zrec_12 (Nat.le_refl 1) (by show 1 ≤ 8; decide) e2
  have s8 : zrun zM G (n + 3) 34 kd_L_law kl_7 15 [(1, zr 2), (0, zr 1)] [zr (sz1 + 2)] sz2 us2 h2 = zrun zM G (n + 2) 34 kd_L_law kl_8 16 [(2, zr (sz1 + 2)), (1, zr 2), (0, zr 1)] [] sz2 us2 h2 := zrun_lin (n := (n + 2)) (p := 15) (fn := yo_astore) (f := so_astore) (hq := (fun _ _ _ _ _ _ _ _ _ _ _ _ _ _ _ => rfl)) (dz := 0) (du := 0) rfl
  have s9 : zrun zM G (n + 2) 34 kd_L_law kl_8 16 [(2, zr (sz1 + 2)), (1, zr 2), (0, zr 1)] [] sz2 us2 h2 = zrun zM G (n + 1) 34 kd_L_law kl_9 17 [(2, zr (sz1 + 2)), (1, zr 2), (0, zr 1)] [zi 0] sz2 us2 h2 := zrun_lin (n := (n + 1)) (p := 16) (fn := yo_iconst) (f := so_iconst) (hq := yk_iconst) (dz := 0) (du := 0) rfl
  have s10 : zrun zM G (n + 1) 34 kd_L_law kl_9 17 [(2, zr (sz1 + 2)), (1, zr 2), (0, zr 1)] [zi 0] sz2 us2 h2 = zrun zM G n 34 kd_L_law kl_10 18 [(3, zi 0), (2, zr (sz1 + 2)), (1, zr 2), (0, zr 1)] [] sz2 us2 h2 := zrun_lin (n := n) (p := 17) (fn := yo_istore) (f := so_istore) (hq := yk_istore) (dz := 0) (du := 0) rfl
  rw [s1, s2, s3, s4, s5, s6, s7, s8, s9, s10]
  exact e3
/-- for every script that is known: the law answers 1 -/
theorem law_runs {G : zG} {L : Nat} {X : Int → Int} (hG : SCR G L X) (hL : L ≤ 3072) : ∃ (n us3 : Nat) (h3 : zH), zrun zM G n 34 kd_L_law kb_L_law_0 0 [(0, zr 1)] [] 0 0 zE0 = some (some (zi 1), 622, us3, h3) ∧ us3 ≤ 7302250 := by
  obtain ⟨us1, h1, us2, h2, e1, e2, b, hW⟩ := first_run
  have hT := lw_18 (us := us2) (g := fun _ _ => 0) hG hL (L + 1) 0 [(3, (0, 0)), (2, (2, 590)), (1, (2, 0)), (0, (2, -1))] HI (by omega) (by omega) (by omega) rfl rfl rfl rfl (TI_HI _) REL_HI
  obtain ⟨r, h3, H3, n0, _, hr, _, hrun⟩ := hT (by
    intro q hq
    simp at hq
    rcases hq with rfl | rfl | rfl | rfl
    · exact ⟨by decide, by decide⟩
    · show (-2 : Int) ≤ 590; decide
    · show (-2 : Int) ≤ 0; decide
    · show (-2 : Int) ≤ -1; decide) (by intro q hq; cases hq) h2 hW
  have hr : r = some (0, 1) := hr
  subst hr
  have hrun := hrun 34 (by decide) (n0 + 1000000) (by omega)
  have f1 := zfuel zM_ok e1 11 true cX11_init 2 none kr_X11_init (zAll_get kr_X11_init 0) n0
  have f2 := zfuel zM_ok e2 12 true cX12_init 1 none kr_X12_init (zAll_get kr_X12_init 0) n0
  rw [show 1000007 + n0 = n0 + 1000000 + 7 by omega] at f1
  rw [show 1000003 + n0 = n0 + 1000000 + 3 by omega] at f2
  exact ⟨_, us2, h3, zfull2 f1 (by decide) f2 hrun, b⟩
