/-! queries of the class: marks of a hold, lines not read, is -/
def fsF (A : Int → Int) (k h : Int) : Nat → Int → Bool
  | 0, _ => true
  | n + 1, i => if A (404 + 12 * i + 1) = h ∧ smL A i k = true then false else fsF A k h n (i + 1)
def mkQ (A : Int → Int) (h : Int) : Int := fdS (fun k => if A (404 + 12 * k + 1) = h ∧ fsF A k h k.toNat 0 = true then 1 else 0) (A 2).toNat 0 0
def unQ (A : Int → Int) (h : Int) : Int := fdS (fun k => if A (404 + 12 * k + 1) = h ∧ rdL A k < 0 then 1 else 0) (A 2).toNat 0 0
def cnQ (A : Int → Int) (v : Int) : Int := fdS (fun k => if min 0 (rdL A k) = v then 1 else 0) (A 2).toNat 0 0
def hdQ (A : Int → Int) (h w : Int) : Int := if (0 ≤ h ∧ h ≤ 4) ∧ (0 ≤ w ∧ w ≤ 5) then (if w = 0 then blQ A h 0 else if w = 1 then blQ A h 1 else if w = 2 then lnQ A h 0 else if w = 3 then lnQ A h 1 else if w = 4 then mkQ A h else unQ A h) else -1
def isQ (A : Int → Int) (n sz w : Int) : Int := if 0 ≤ w ∧ w ≤ 13 then (if w = 0 then A 0 else if w = 1 then A 2 else if w = 2 then A 1 else if w = 3 then (tlZ A).1 else if w = 4 then A 3 else if w = 5 then A 4 else if w = 6 then A 5 else if w = 7 then n else if w = 8 then sz else if w = 9 then cnQ A 0 else if w = 10 then cnQ A (-2) else if w = 11 then cnQ A (-3) else if w = 12 then A 8 else A 9) else -1
def clQ (A : Int → Int) (h : Int) : Int := if 0 ≤ h ∧ h ≤ 4 then blQ A h 0 - blQ A h 1 else -1000000
set_option maxRecDepth 100000 in
theorem lp_fs (k h : Int) (A : Int → Int) (H : PH) (hB : MB A) (ci : CI H A) (hk : 0 ≤ k ∧ k < A 2) {E : xE} {res : xR} : ∀ (n : Nat) (i : Int), 0 ≤ i → i ≤ k → RUN E res n kd_X1_firstSeen (zget kd_X1_firstSeen 2) 2 [1, k, h, i] [] H → REPR E res (some (0, if fsF A k h (k - i).toNat i = true then 1 else 0)) H := by
  intro n
  induction n using Nat.strongRecOn with
  | _ n ih =>
    intro i i0 i1 hh
    have a2 := hB.2.2.1
    have z1 : zw (i + 1) = i + 1 := zw_lit (by omega) (by omega)
    by_cases c : i < k
    · have c' : ¬ k ≤ i := by omega
      have kq := ci.2.2.1 i i0 (by omega)
      have kk := ci.2.2.1 k hk.1 (by omega)
      have ln := ci.1.2.2.1 i i0 (by omega)
      have lk := ci.1.2.2.1 k hk.1 hk.2
      have g1 : ∀ X : PH, gv X (H 47 i) 1 = X (H 47 i) 1 := (KL_f kq).2.2.1
      have g3 : ∀ X : PH, gv X (H 47 i) 3 = X (H 47 i) 3 := (KL_f kq).2.2.2.2.1
      have g3k : ∀ X : PH, gv X (H 47 k) 3 = X (H 47 k) 3 := (KL_f kk).2.2.2.2.1
      have l1 := ln.2.1
      have hs : qlcmp (H (H 47 i) 3) (H (H 47 k) 3) = 0 ↔ smL A i k = true := by
        rw [qlcmp_0 (VM_rng ln.2.2.2) (VM_rng lk.2.2.2), smL_iff (hB.2.2.2.2.2.1 i i0 (by omega)).1, VM_inj ln.2.2.2 lk.2.2.2]
        rfl
      have st : (k - i).toNat = (k - (i + 1)).toNat + 1 := by omega
      rw [st]
      unfold fsF
      by_cases q : A (404 + 12 * i + 1) = h
      · by_cases q2 : smL A i k = true
        · have q3 := hs.mpr q2
          have hh := xw_top (hd := [2]) 6 xD6_ok xc_X1_firstSeen xa_X1_firstSeen (t := 2) rfl hh
          simp (maxDischargeDepth := 12) -implicitDefEqProofs [vb_X1_firstSeen_0, vb_X1_firstSeen_2, vb_X1_firstSeen_44, vb_X1_firstSeen_50, xI_0, xI_1, xI_3, xI_6, xI_7, xI_32, xI_36, xI_38, xI_44, xI_46, xI_49, xI_53, xI_62, xw_X1_firstSeen_0, xw_X1_firstSeen_2, xw_X1_firstSeen_44, xw_X1_firstSeen_50, zw_lit, xB_c, xB_s, xB_n, i1_c, j2_c, k1_c, jJ_e, xlg, xls, xla, xpd, ppush, zw_m1, zw_m2, zw_m3, gf_1_3, gf_5_1, gf_5_3, tg_1_3, tg_5_1, tg_5_3, gv_1_3, xD1, xD2, xD3, xD4, xD5, xD6, xb1_0, c, c', gv47, g1, g3, g3k, ← l1, q, q3] at hh
          have ef : (if A (404 + 12 * i + 1) = h ∧ smL A i k = true then false else fsF A k h (k - (i + 1)).toNat (i + 1)) = false := if_pos ⟨q, q2⟩
          rw [ef]
          exact hh
        · have q3 : ¬ qlcmp (H (H 47 i) 3) (H (H 47 k) 3) = 0 := fun w => q2 (hs.mp w)
          have hh := xw_top (hd := [2]) 6 xD6_ok xc_X1_firstSeen xa_X1_firstSeen (t := 2) rfl hh
          simp (maxDischargeDepth := 12) -implicitDefEqProofs [vb_X1_firstSeen_0, vb_X1_firstSeen_2, vb_X1_firstSeen_44, vb_X1_firstSeen_50, xI_0, xI_1, xI_3, xI_6, xI_7, xI_32, xI_36, xI_38, xI_44, xI_46, xI_49, xI_53, xI_62, xw_X1_firstSeen_0, xw_X1_firstSeen_2, xw_X1_firstSeen_44, xw_X1_firstSeen_50, zw_lit, xB_c, xB_s, xB_n, i1_c, j2_c, k1_c, jJ_e, xlg, xls, xla, xpd, ppush, zw_m1, zw_m2, zw_m3, gf_1_3, gf_5_1, gf_5_3, tg_1_3, tg_5_1, tg_5_3, gv_1_3, xD1, xD2, xD3, xD4, xD5, xD6, xb1_0, c, c', gv47, g1, g3, g3k, ← l1, q, q3, z1] at hh
          obtain ⟨m, hm, hh⟩ := hh
          have ef : (if A (404 + 12 * i + 1) = h ∧ smL A i k = true then false else fsF A k h (k - (i + 1)).toNat (i + 1)) = fsF A k h (k - (i + 1)).toNat (i + 1) := if_neg (fun w => q2 w.2)
          rw [ef]
          exact ih m hm (i + 1) (by omega) (by omega) hh
      · have hh := xw_top (hd := [2]) 6 xD6_ok xc_X1_firstSeen xa_X1_firstSeen (t := 2) rfl hh
        simp (maxDischargeDepth := 12) -implicitDefEqProofs [vb_X1_firstSeen_0, vb_X1_firstSeen_2, vb_X1_firstSeen_44, vb_X1_firstSeen_50, xI_0, xI_1, xI_3, xI_6, xI_7, xI_32, xI_36, xI_38, xI_44, xI_46, xI_49, xI_53, xI_62, xw_X1_firstSeen_0, xw_X1_firstSeen_2, xw_X1_firstSeen_44, xw_X1_firstSeen_50, zw_lit, xB_c, xB_s, xB_n, i1_c, j2_c, k1_c, jJ_e, xlg, xls, xla, xpd, ppush, zw_m1, zw_m2, zw_m3, gf_1_3, gf_5_1, gf_5_3, tg_1_3, tg_5_1, tg_5_3, gv_1_3, xD1, xD2, xD3, xD4, xD5, xD6, xb1_0, c, c', gv47, g1, ← l1, q, z1] at hh
        obtain ⟨m, hm, hh⟩ := hh
        have ef : (if A (404 + 12 * i + 1) = h ∧ smL A i k = true then false else fsF A k h (k - (i + 1)).toNat (i + 1)) = fsF A k h (k - (i + 1)).toNat (i + 1) := if_neg (fun w => q w.1)
        rw [ef]
        exact ih m hm (i + 1) (by omega) (by omega) hh
    · have c' : k ≤ i := by omega
      rw [show (k - i).toNat = 0 by omega]
      have hh := xw_top (hd := [2]) 6 xD6_ok xc_X1_firstSeen xa_X1_firstSeen (t := 2) rfl hh
      simp (maxDischargeDepth := 12) -implicitDefEqProofs [vb_X1_firstSeen_0, vb_X1_firstSeen_2, vb_X1_firstSeen_44, vb_X1_firstSeen_50, xI_0, xI_1, xI_3, xI_6, xI_7, xI_32, xI_36, xI_38, xI_44, xI_46, xI_49, xI_53, xI_62, xw_X1_firstSeen_0, xw_X1_firstSeen_2, xw_X1_firstSeen_44, xw_X1_firstSeen_50, zw_lit, xB_c, xB_s, xB_n, i1_c, j2_c, k1_c, jJ_e, xlg, xls, xla, xpd, ppush, zw_m1, zw_m2, zw_m3, gf_1_3, gf_5_1, gf_5_3, tg_1_3, tg_5_1, tg_5_3, gv_1_3, xD1, xD2, xD3, xD4, xD5, xD6, xb1_0, c, c'] at hh
      exact hh
theorem sp_X1_firstSeen (k h : Int) (A : Int → Int) (H : PH) (hB : MB A) (ci : CI H A) (hk : 0 ≤ k ∧ k < A 2) : SPEC 24 [(2, 1), (0, k), (0, h)] H (fun r H' => r = some (0, if fsF A k h k.toNat 0 = true then 1 else 0) ∧ H' = H) := by
  intro E n res hh
  have hh := call_runP 4 vm_X1_firstSeen hh
  have hh := xw_top (hd := [2]) 6 xD6_ok xc_X1_firstSeen xa_X1_firstSeen (t := 0) rfl hh
  simp (maxDischargeDepth := 12) -implicitDefEqProofs [vb_X1_firstSeen_0, vb_X1_firstSeen_2, vb_X1_firstSeen_44, vb_X1_firstSeen_50, xI_0, xI_1, xI_3, xI_6, xI_7, xI_32, xI_36, xI_38, xI_44, xI_46, xI_49, xI_53, xI_62, xw_X1_firstSeen_0, xw_X1_firstSeen_2, xw_X1_firstSeen_44, xw_X1_firstSeen_50, zw_lit, xB_c, xB_s, xB_n, i1_c, j2_c, k1_c, jJ_e, xlg, xls, xla, xpd, ppush, zw_m1, zw_m2, zw_m3, gf_1_3, gf_5_1, gf_5_3, tg_1_3, tg_5_1, tg_5_3, gv_1_3, xD1, xD2, xD3, xD4, xD5, xD6, xb1_0] at hh
  obtain ⟨m, hm, hh⟩ := hh
  have g := lp_fs k h A H hB ci hk m 0 (by omega) hk.1 hh
  rw [Int.sub_zero] at g
  exact ⟨_, _, g, rfl, rfl⟩
set_option maxRecDepth 100000 in
theorem lp_mki (h : Int) (A : Int → Int) (H : PH) (hB : MB A) (ci : CI H A) {E : xE} {res : xR} : ∀ (n : Nat) (k v : Int), 0 ≤ k → k ≤ A 2 → 0 ≤ v → v ≤ k → RUN E res n kd_X1_marksIn (zget kd_X1_marksIn 4) 4 [1, h, v, k] [] H → REPR E res (some (0, fdS (fun k => if A (404 + 12 * k + 1) = h ∧ fsF A k h k.toNat 0 = true then 1 else 0) (A 2 - k).toNat k v)) H := by
  intro n
  induction n using Nat.strongRecOn with
  | _ n ih =>
    intro k v k0 k1 v0 v1 hh
    have a2 := hB.2.2.1
    have e4 : H 1 4 = A 2 := ci.1.1.2.2.1.symm
    have z1 : zw (k + 1) = k + 1 := zw_lit (by omega) (by omega)
    have zv : zw (v + 1) = v + 1 := zw_lit (by omega) (by omega)
    by_cases c : k < A 2
    · have c' : ¬ A 2 ≤ k := by omega
      have kq := ci.2.2.1 k k0 (by omega)
      have ln := ci.1.2.2.1 k k0 c
      have g1 : ∀ X : PH, gv X (H 47 k) 1 = X (H 47 k) 1 := (KL_f kq).2.2.1
      have l1 := ln.2.1
      have st : (A 2 - k).toNat = (A 2 - (k + 1)).toNat + 1 := by omega
      rw [st]
      unfold fdS
      by_cases q : A (404 + 12 * k + 1) = h
      · have hh := xw_top (hd := [4]) 6 xD6_ok xc_X1_marksIn xa_X1_marksIn (t := 4) rfl hh
        simp (maxDischargeDepth := 12) -implicitDefEqProofs [vb_X1_marksIn_0, vb_X1_marksIn_4, vb_X1_marksIn_37, vb_X1_marksIn_43, xI_0, xI_1, xI_3, xI_6, xI_7, xI_36, xI_37, xI_44, xI_46, xI_49, xI_53, xI_61, xI_62, xw_X1_marksIn_0, xw_X1_marksIn_4, xw_X1_marksIn_37, xw_X1_marksIn_43, zw_lit, xB_c, xB_s, xB_n, i1_c, j2_c, k1_c, jJ_e, xlg, xls, xla, xpd, ppush, zw_m1, zw_m2, zw_m3, gf_1_3, gf_1_4, gf_5_1, tg_1_3, tg_1_4, tg_5_1, gv_1_3, gv_1_4, xD1, xD2, xD3, xD4, xD5, xD6, xb1_0, e4, c, c', gv47, g1, ← l1, q] at hh
        obtain ⟨r, H1, ⟨rfl, rfl⟩, g⟩ := xc_use hh (sp_X1_firstSeen k h A H hB ci ⟨k0, c⟩)
        by_cases q2 : fsF A k h k.toNat 0 = true
        · rw [if_pos q2] at g
          simp (maxDischargeDepth := 12) -implicitDefEqProofs [vb_X1_marksIn_0, vb_X1_marksIn_4, vb_X1_marksIn_37, vb_X1_marksIn_43, xI_0, xI_1, xI_3, xI_6, xI_7, xI_36, xI_37, xI_44, xI_46, xI_49, xI_53, xI_61, xI_62, xw_X1_marksIn_0, xw_X1_marksIn_4, xw_X1_marksIn_37, xw_X1_marksIn_43, zw_lit, xB_c, xB_s, xB_n, i1_c, j2_c, k1_c, jJ_e, xlg, xls, xla, xpd, ppush, zw_m1, zw_m2, zw_m3, gf_1_3, gf_1_4, gf_5_1, tg_1_3, tg_1_4, tg_5_1, gv_1_3, gv_1_4, xD1, xD2, xD3, xD4, xD5, xD6, xb1_0, zv, z1] at g
          obtain ⟨m, hm, g⟩ := g
          rw [if_pos ⟨q, q2⟩]
          exact ih m hm (k + 1) _ (by omega) (by omega) (by omega) (by omega) g
        · rw [if_neg q2] at g
          simp (maxDischargeDepth := 12) -implicitDefEqProofs [vb_X1_marksIn_0, vb_X1_marksIn_4, vb_X1_marksIn_37, vb_X1_marksIn_43, xI_0, xI_1, xI_3, xI_6, xI_7, xI_36, xI_37, xI_44, xI_46, xI_49, xI_53, xI_61, xI_62, xw_X1_marksIn_0, xw_X1_marksIn_4, xw_X1_marksIn_37, xw_X1_marksIn_43, zw_lit, xB_c, xB_s, xB_n, i1_c, j2_c, k1_c, jJ_e, xlg, xls, xla, xpd, ppush, zw_m1, zw_m2, zw_m3, gf_1_3, gf_1_4, gf_5_1, tg_1_3, tg_1_4, tg_5_1, gv_1_3, gv_1_4, xD1, xD2, xD3, xD4, xD5, xD6, xb1_0, z1] at g
          obtain ⟨m, hm, g⟩ := g
          rw [if_neg (fun w => q2 w.2), Int.add_zero]
          exact ih m hm (k + 1) _ (by omega) (by omega) (by omega) (by omega) g
      · have hh := xw_top (hd := [4]) 6 xD6_ok xc_X1_marksIn xa_X1_marksIn (t := 4) rfl hh
        simp (maxDischargeDepth := 12) -implicitDefEqProofs [vb_X1_marksIn_0, vb_X1_marksIn_4, vb_X1_marksIn_37, vb_X1_marksIn_43, xI_0, xI_1, xI_3, xI_6, xI_7, xI_36, xI_37, xI_44, xI_46, xI_49, xI_53, xI_61, xI_62, xw_X1_marksIn_0, xw_X1_marksIn_4, xw_X1_marksIn_37, xw_X1_marksIn_43, zw_lit, xB_c, xB_s, xB_n, i1_c, j2_c, k1_c, jJ_e, xlg, xls, xla, xpd, ppush, zw_m1, zw_m2, zw_m3, gf_1_3, gf_1_4, gf_5_1, tg_1_3, tg_1_4, tg_5_1, gv_1_3, gv_1_4, xD1, xD2, xD3, xD4, xD5, xD6, xb1_0, e4, c, c', gv47, g1, ← l1, q, z1] at hh
        obtain ⟨m, hm, hh⟩ := hh
        rw [if_neg (fun w => q w.1), Int.add_zero]
        exact ih m hm (k + 1) _ (by omega) (by omega) (by omega) (by omega) hh
    · have c' : A 2 ≤ k := by omega
      rw [show (A 2 - k).toNat = 0 by omega]
      have hh := xw_top (hd := [4]) 6 xD6_ok xc_X1_marksIn xa_X1_marksIn (t := 4) rfl hh
      simp (maxDischargeDepth := 12) -implicitDefEqProofs [vb_X1_marksIn_0, vb_X1_marksIn_4, vb_X1_marksIn_37, vb_X1_marksIn_43, xI_0, xI_1, xI_3, xI_6, xI_7, xI_36, xI_37, xI_44, xI_46, xI_49, xI_53, xI_61, xI_62, xw_X1_marksIn_0, xw_X1_marksIn_4, xw_X1_marksIn_37, xw_X1_marksIn_43, zw_lit, xB_c, xB_s, xB_n, i1_c, j2_c, k1_c, jJ_e, xlg, xls, xla, xpd, ppush, zw_m1, zw_m2, zw_m3, gf_1_3, gf_1_4, gf_5_1, tg_1_3, tg_1_4, tg_5_1, gv_1_3, gv_1_4, xD1, xD2, xD3, xD4, xD5, xD6, xb1_0, e4, c, c'] at hh
      exact hh
theorem sp_X1_marksIn (h : Int) (A : Int → Int) (H : PH) (hB : MB A) (ci : CI H A) : SPEC 23 [(2, 1), (0, h)] H (fun r H' => r = some (0, mkQ A h) ∧ H' = H) := by
  intro E n res hh
  have hh := call_runP 4 vm_X1_marksIn hh
  have hh := xw_top (hd := [4]) 6 xD6_ok xc_X1_marksIn xa_X1_marksIn (t := 0) rfl hh
  simp (maxDischargeDepth := 12) -implicitDefEqProofs [vb_X1_marksIn_0, vb_X1_marksIn_4, vb_X1_marksIn_37, vb_X1_marksIn_43, xI_0, xI_1, xI_3, xI_6, xI_7, xI_36, xI_37, xI_44, xI_46, xI_49, xI_53, xI_61, xI_62, xw_X1_marksIn_0, xw_X1_marksIn_4, xw_X1_marksIn_37, xw_X1_marksIn_43, zw_lit, xB_c, xB_s, xB_n, i1_c, j2_c, k1_c, jJ_e, xlg, xls, xla, xpd, ppush, zw_m1, zw_m2, zw_m3, gf_1_3, gf_1_4, gf_5_1, tg_1_3, tg_1_4, tg_5_1, gv_1_3, gv_1_4, xD1, xD2, xD3, xD4, xD5, xD6, xb1_0] at hh
  obtain ⟨m, hm, hh⟩ := hh
  have g := lp_mki h A H hB ci m 0 0 (by omega) hB.2.2.1.1 (by omega) (by omega) hh
  rw [Int.sub_zero] at g
  exact ⟨_, _, g, rfl, rfl⟩
set_option maxRecDepth 100000 in
theorem lp_unr (h : Int) (A : Int → Int) (H : PH) (hB : MB A) (ci : CI H A) (hT : TCf A H) {E : xE} {res : xR} : ∀ (n : Nat) (k v : Int), 0 ≤ k → k ≤ A 2 → 0 ≤ v → v ≤ k → RUN E res n kd_X9_unreadIn (zget kd_X9_unreadIn 4) 4 [215, h, v, k] [] H → REPR E res (some (0, fdS (fun k => if A (404 + 12 * k + 1) = h ∧ rdL A k < 0 then 1 else 0) (A 2 - k).toNat k v)) H := by
  intro n
  induction n using Nat.strongRecOn with
  | _ n ih =>
    intro k v k0 k1 v0 v1 hh
    have a2 := hB.2.2.1
    have e4 : H 1 4 = A 2 := ci.1.1.2.2.1.symm
    have z1 : zw (k + 1) = k + 1 := zw_lit (by omega) (by omega)
    have zv : zw (v + 1) = v + 1 := zw_lit (by omega) (by omega)
    by_cases c : k < A 2
    · have c' : ¬ A 2 ≤ k := by omega
      have kq := ci.2.2.1 k k0 (by omega)
      have ln := ci.1.2.2.1 k k0 c
      have g1 : ∀ X : PH, gv X (H 47 k) 1 = X (H 47 k) 1 := (KL_f kq).2.2.1
      have l1 := ln.2.1
      have er := hT.2.2.1 k k0 c
      have st : (A 2 - k).toNat = (A 2 - (k + 1)).toNat + 1 := by omega
      rw [st]
      unfold fdS
      by_cases q : A (404 + 12 * k + 1) = h
      · by_cases q2 : rdL A k < 0
        · have q3 : ¬ 0 ≤ rdL A k := by omega
          have hh := xw_top (hd := [4]) 6 xD6_ok xc_X9_unreadIn xa_X9_unreadIn (t := 4) rfl hh
          simp (maxDischargeDepth := 12) -implicitDefEqProofs [vb_X9_unreadIn_0, vb_X9_unreadIn_4, vb_X9_unreadIn_43, vb_X9_unreadIn_49, xI_0, xI_1, xI_3, xI_6, xI_7, xI_36, xI_40, xI_44, xI_46, xI_49, xI_51, xI_53, xI_62, xw_X9_unreadIn_0, xw_X9_unreadIn_4, xw_X9_unreadIn_43, xw_X9_unreadIn_49, zw_lit, xB_c, xB_s, xB_n, i1_c, j2_c, k1_c, jJ_e, xlg, xls, xla, xpd, ppush, zw_m1, zw_m2, zw_m3, gf_1_3, gf_1_4, gf_5_1, gf_9_0, gf_9_2, tg_1_3, tg_1_4, tg_5_1, tg_9_0, tg_9_2, gv_1_3, gv_1_4, gv_215_0, gv_215_2, xD1, xD2, xD3, xD4, xD5, xD6, xb1_0, e4, c, c', gv47, g1, ← l1, q, er, q2, q3, zv, z1] at hh
          obtain ⟨m, hm, hh⟩ := hh
          rw [if_pos ⟨q, q2⟩]
          exact ih m hm (k + 1) _ (by omega) (by omega) (by omega) (by omega) hh
        · have q3 : 0 ≤ rdL A k := by omega
          have hh := xw_top (hd := [4]) 6 xD6_ok xc_X9_unreadIn xa_X9_unreadIn (t := 4) rfl hh
          simp (maxDischargeDepth := 12) -implicitDefEqProofs [vb_X9_unreadIn_0, vb_X9_unreadIn_4, vb_X9_unreadIn_43, vb_X9_unreadIn_49, xI_0, xI_1, xI_3, xI_6, xI_7, xI_36, xI_40, xI_44, xI_46, xI_49, xI_51, xI_53, xI_62, xw_X9_unreadIn_0, xw_X9_unreadIn_4, xw_X9_unreadIn_43, xw_X9_unreadIn_49, zw_lit, xB_c, xB_s, xB_n, i1_c, j2_c, k1_c, jJ_e, xlg, xls, xla, xpd, ppush, zw_m1, zw_m2, zw_m3, gf_1_3, gf_1_4, gf_5_1, gf_9_0, gf_9_2, tg_1_3, tg_1_4, tg_5_1, tg_9_0, tg_9_2, gv_1_3, gv_1_4, gv_215_0, gv_215_2, xD1, xD2, xD3, xD4, xD5, xD6, xb1_0, e4, c, c', gv47, g1, ← l1, q, er, q2, q3, z1] at hh
          obtain ⟨m, hm, hh⟩ := hh
          rw [if_neg (fun w => q2 w.2), Int.add_zero]
          exact ih m hm (k + 1) _ (by omega) (by omega) (by omega) (by omega) hh
      · have hh := xw_top (hd := [4]) 6 xD6_ok xc_X9_unreadIn xa_X9_unreadIn (t := 4) rfl hh
        simp (maxDischargeDepth := 12) -implicitDefEqProofs [vb_X9_unreadIn_0, vb_X9_unreadIn_4, vb_X9_unreadIn_43, vb_X9_unreadIn_49, xI_0, xI_1, xI_3, xI_6, xI_7, xI_36, xI_40, xI_44, xI_46, xI_49, xI_51, xI_53, xI_62, xw_X9_unreadIn_0, xw_X9_unreadIn_4, xw_X9_unreadIn_43, xw_X9_unreadIn_49, zw_lit, xB_c, xB_s, xB_n, i1_c, j2_c, k1_c, jJ_e, xlg, xls, xla, xpd, ppush, zw_m1, zw_m2, zw_m3, gf_1_3, gf_1_4, gf_5_1, gf_9_0, gf_9_2, tg_1_3, tg_1_4, tg_5_1, tg_9_0, tg_9_2, gv_1_3, gv_1_4, gv_215_0, gv_215_2, xD1, xD2, xD3, xD4, xD5, xD6, xb1_0, e4, c, c', gv47, g1, ← l1, q, z1] at hh
        obtain ⟨m, hm, hh⟩ := hh
        rw [if_neg (fun w => q w.1), Int.add_zero]
        exact ih m hm (k + 1) _ (by omega) (by omega) (by omega) (by omega) hh
    · have c' : A 2 ≤ k := by omega
      rw [show (A 2 - k).toNat = 0 by omega]
      have hh := xw_top (hd := [4]) 6 xD6_ok xc_X9_unreadIn xa_X9_unreadIn (t := 4) rfl hh
      simp (maxDischargeDepth := 12) -implicitDefEqProofs [vb_X9_unreadIn_0, vb_X9_unreadIn_4, vb_X9_unreadIn_43, vb_X9_unreadIn_49, xI_0, xI_1, xI_3, xI_6, xI_7, xI_36, xI_40, xI_44, xI_46, xI_49, xI_51, xI_53, xI_62, xw_X9_unreadIn_0, xw_X9_unreadIn_4, xw_X9_unreadIn_43, xw_X9_unreadIn_49, zw_lit, xB_c, xB_s, xB_n, i1_c, j2_c, k1_c, jJ_e, xlg, xls, xla, xpd, ppush, zw_m1, zw_m2, zw_m3, gf_1_3, gf_1_4, gf_5_1, gf_9_0, gf_9_2, tg_1_3, tg_1_4, tg_5_1, tg_9_0, tg_9_2, gv_1_3, gv_1_4, gv_215_0, gv_215_2, xD1, xD2, xD3, xD4, xD5, xD6, xb1_0, e4, c, c'] at hh
      exact hh
theorem sp_X9_unreadIn (h : Int) (A : Int → Int) (H : PH) (hB : MB A) (ci : CI H A) (hT : TCf A H) : SPEC 91 [(2, 215), (0, h)] H (fun r H' => r = some (0, unQ A h) ∧ H' = H) := by
  intro E n res hh
  have hh := call_runP 4 vm_X9_unreadIn hh
  have hh := xw_top (hd := [4]) 6 xD6_ok xc_X9_unreadIn xa_X9_unreadIn (t := 0) rfl hh
  simp (maxDischargeDepth := 12) -implicitDefEqProofs [vb_X9_unreadIn_0, vb_X9_unreadIn_4, vb_X9_unreadIn_43, vb_X9_unreadIn_49, xI_0, xI_1, xI_3, xI_6, xI_7, xI_36, xI_40, xI_44, xI_46, xI_49, xI_51, xI_53, xI_62, xw_X9_unreadIn_0, xw_X9_unreadIn_4, xw_X9_unreadIn_43, xw_X9_unreadIn_49, zw_lit, xB_c, xB_s, xB_n, i1_c, j2_c, k1_c, jJ_e, xlg, xls, xla, xpd, ppush, zw_m1, zw_m2, zw_m3, gf_1_3, gf_1_4, gf_5_1, gf_9_0, gf_9_2, tg_1_3, tg_1_4, tg_5_1, tg_9_0, tg_9_2, gv_1_3, gv_1_4, gv_215_0, gv_215_2, xD1, xD2, xD3, xD4, xD5, xD6, xb1_0] at hh
  obtain ⟨m, hm, hh⟩ := hh
  have g := lp_unr h A H hB ci hT m 0 0 (by omega) hB.2.2.1.1 (by omega) (by omega) hh
  rw [Int.sub_zero] at g
  exact ⟨_, _, g, rfl, rfl⟩
set_option maxRecDepth 100000 in
theorem lp_lta (u : Int) (A : Int → Int) (H : PH) (hB : MB A) (ci : CI H A) (hT : TCf A H) {E : xE} {res : xR} : ∀ (n : Nat) (k v : Int), 0 ≤ k → k ≤ A 2 → 0 ≤ v → v ≤ k → RUN E res n kd_X9_linesThatAre (zget kd_X9_linesThatAre 4) 4 [215, u, v, k] [] H → REPR E res (some (0, fdS (fun k => if min 0 (rdL A k) = u then 1 else 0) (A 2 - k).toNat k v)) H := by
  intro n
  induction n using Nat.strongRecOn with
  | _ n ih =>
    intro k v k0 k1 v0 v1 hh
    have a2 := hB.2.2.1
    have e4 : H 1 4 = A 2 := ci.1.1.2.2.1.symm
    have z1 : zw (k + 1) = k + 1 := zw_lit (by omega) (by omega)
    have zv : zw (v + 1) = v + 1 := zw_lit (by omega) (by omega)
    by_cases c : k < A 2
    · have c' : ¬ A 2 ≤ k := by omega
      have er := hT.2.2.1 k k0 c
      have mc : min (rdL A k) 0 = min 0 (rdL A k) := Int.min_comm _ _
      have st : (A 2 - k).toNat = (A 2 - (k + 1)).toNat + 1 := by omega
      rw [st]
      unfold fdS
      by_cases q : min 0 (rdL A k) = u
      · have hh := xw_top (hd := [4]) 6 xD6_ok xc_X9_linesThatAre xa_X9_linesThatAre (t := 4) rfl hh
        simp (maxDischargeDepth := 12) -implicitDefEqProofs [vb_X9_linesThatAre_0, vb_X9_linesThatAre_4, vb_X9_linesThatAre_32, vb_X9_linesThatAre_38, xI_0, xI_1, xI_3, xI_6, xI_7, xI_36, xI_44, xI_46, xI_49, xI_51, xI_56, xI_62, xw_X9_linesThatAre_0, xw_X9_linesThatAre_4, xw_X9_linesThatAre_32, xw_X9_linesThatAre_38, zw_lit, xB_c, xB_s, xB_n, i1_c, j2_c, k1_c, jJ_e, xlg, xls, xla, xpd, ppush, zw_m1, zw_m2, zw_m3, gf_1_4, gf_9_0, gf_9_2, tg_1_4, tg_9_0, tg_9_2, gv_1_4, gv_215_0, gv_215_2, xD1, xD2, xD3, xD4, xD5, xD6, xb1_0, e4, c, c', er, mn_a, mc, q, zv, z1] at hh
        obtain ⟨m, hm, hh⟩ := hh
        rw [if_pos q]
        exact ih m hm (k + 1) _ (by omega) (by omega) (by omega) (by omega) hh
      · have hh := xw_top (hd := [4]) 6 xD6_ok xc_X9_linesThatAre xa_X9_linesThatAre (t := 4) rfl hh
        simp (maxDischargeDepth := 12) -implicitDefEqProofs [vb_X9_linesThatAre_0, vb_X9_linesThatAre_4, vb_X9_linesThatAre_32, vb_X9_linesThatAre_38, xI_0, xI_1, xI_3, xI_6, xI_7, xI_36, xI_44, xI_46, xI_49, xI_51, xI_56, xI_62, xw_X9_linesThatAre_0, xw_X9_linesThatAre_4, xw_X9_linesThatAre_32, xw_X9_linesThatAre_38, zw_lit, xB_c, xB_s, xB_n, i1_c, j2_c, k1_c, jJ_e, xlg, xls, xla, xpd, ppush, zw_m1, zw_m2, zw_m3, gf_1_4, gf_9_0, gf_9_2, tg_1_4, tg_9_0, tg_9_2, gv_1_4, gv_215_0, gv_215_2, xD1, xD2, xD3, xD4, xD5, xD6, xb1_0, e4, c, c', er, mn_a, mc, q, z1] at hh
        obtain ⟨m, hm, hh⟩ := hh
        rw [if_neg q, Int.add_zero]
        exact ih m hm (k + 1) _ (by omega) (by omega) (by omega) (by omega) hh
    · have c' : A 2 ≤ k := by omega
      rw [show (A 2 - k).toNat = 0 by omega]
      have hh := xw_top (hd := [4]) 6 xD6_ok xc_X9_linesThatAre xa_X9_linesThatAre (t := 4) rfl hh
      simp (maxDischargeDepth := 12) -implicitDefEqProofs [vb_X9_linesThatAre_0, vb_X9_linesThatAre_4, vb_X9_linesThatAre_32, vb_X9_linesThatAre_38, xI_0, xI_1, xI_3, xI_6, xI_7, xI_36, xI_44, xI_46, xI_49, xI_51, xI_56, xI_62, xw_X9_linesThatAre_0, xw_X9_linesThatAre_4, xw_X9_linesThatAre_32, xw_X9_linesThatAre_38, zw_lit, xB_c, xB_s, xB_n, i1_c, j2_c, k1_c, jJ_e, xlg, xls, xla, xpd, ppush, zw_m1, zw_m2, zw_m3, gf_1_4, gf_9_0, gf_9_2, tg_1_4, tg_9_0, tg_9_2, gv_1_4, gv_215_0, gv_215_2, xD1, xD2, xD3, xD4, xD5, xD6, xb1_0, e4, c, c'] at hh
      exact hh
theorem sp_X9_linesThatAre (u : Int) (A : Int → Int) (H : PH) (hB : MB A) (ci : CI H A) (hT : TCf A H) : SPEC 90 [(2, 215), (0, u)] H (fun r H' => r = some (0, cnQ A u) ∧ H' = H) := by
  intro E n res hh
  have hh := call_runP 4 vm_X9_linesThatAre hh
  have hh := xw_top (hd := [4]) 6 xD6_ok xc_X9_linesThatAre xa_X9_linesThatAre (t := 0) rfl hh
  simp (maxDischargeDepth := 12) -implicitDefEqProofs [vb_X9_linesThatAre_0, vb_X9_linesThatAre_4, vb_X9_linesThatAre_32, vb_X9_linesThatAre_38, xI_0, xI_1, xI_3, xI_6, xI_7, xI_36, xI_44, xI_46, xI_49, xI_51, xI_56, xI_62, xw_X9_linesThatAre_0, xw_X9_linesThatAre_4, xw_X9_linesThatAre_32, xw_X9_linesThatAre_38, zw_lit, xB_c, xB_s, xB_n, i1_c, j2_c, k1_c, jJ_e, xlg, xls, xla, xpd, ppush, zw_m1, zw_m2, zw_m3, gf_1_4, gf_9_0, gf_9_2, tg_1_4, tg_9_0, tg_9_2, gv_1_4, gv_215_0, gv_215_2, xD1, xD2, xD3, xD4, xD5, xD6, xb1_0] at hh
  obtain ⟨m, hm, hh⟩ := hh
  have g := lp_lta u A H hB ci hT m 0 0 (by omega) hB.2.2.1.1 (by omega) (by omega) hh
  rw [Int.sub_zero] at g
  exact ⟨_, _, g, rfl, rfl⟩
set_option maxRecDepth 100000 in
theorem sp_c_hold (u w : Int) (S : Int → Int → Int) (n : Int) (H : PH) (hR : RC H S n) (hM : MCC (S 0) H) : SPEC 129 [(2, 0), (0, u), (0, w)] H (fun r H' => r = some (0, hdQ (S 0) u w) ∧ CQ H H' S n) := by
  intro E n' res h
  have ok0 := RC_sz hR
  by_cases qh : 0 ≤ u ∧ u ≤ 4
  · have u0 := qh.1
    have u1 := qh.2
    have u2 : ¬ u < 0 := by omega
    have u3 : ¬ 4 < u := by omega
    have h := call_runP 3 vm_X11_hold h
    have h := xw_top (hd := []) 9 xD6_ok xc_X11_hold xa_X11_hold (t := 0) rfl h
    simp (maxDischargeDepth := 12) -implicitDefEqProofs [vb_X11_hold_0, vb_X11_hold_9, vb_X11_hold_56, vb_X11_hold_66, vb_X11_hold_78, vb_X11_hold_87, vb_X11_hold_96, xI_0, xI_1, xI_7, xI_15, xI_38, xI_49, xI_60, xI_61, xI_62, xI_108, xw_X11_hold_0, xw_X11_hold_9, xw_X11_hold_56, xw_X11_hold_66, xw_X11_hold_78, xw_X11_hold_87, xw_X11_hold_96, zw_lit, xB_c, xB_s, xB_n, i1_c, j2_c, k1_c, jJ_e, xlg, xls, xla, xpd, ppush, zw_m1, zw_m2, zw_m3, gf_11_0, gf_11_2, tg_11_0, tg_11_2, gv_0_0, gv_0_2, xD1, xD2, xD3, xD4, xD5, xD6, xb1_0, u0, u1, u2, u3] at h
    obtain ⟨r, H1, ⟨rfl, cq, t⟩, g⟩ := xc_use h (sp_c_refresh S n H hR hM)
    by_cases w0 : w = 0
    · have sw := sw_X11_hold_0
      simp (maxDischargeDepth := 12) -implicitDefEqProofs [vb_X11_hold_0, vb_X11_hold_9, vb_X11_hold_56, vb_X11_hold_66, vb_X11_hold_78, vb_X11_hold_87, vb_X11_hold_96, xI_0, xI_1, xI_7, xI_15, xI_38, xI_49, xI_60, xI_61, xI_62, xI_108, xw_X11_hold_0, xw_X11_hold_9, xw_X11_hold_56, xw_X11_hold_66, xw_X11_hold_78, xw_X11_hold_87, xw_X11_hold_96, zw_lit, xB_c, xB_s, xB_n, i1_c, j2_c, k1_c, jJ_e, xlg, xls, xla, xpd, ppush, zw_m1, zw_m2, zw_m3, gf_11_0, gf_11_2, tg_11_0, tg_11_2, gv_0_0, gv_0_2, xD1, xD2, xD3, xD4, xD5, xD6, xb1_0, w0, sw] at g
      obtain ⟨r, H2, ⟨rfl, rfl⟩, g2⟩ := xc_use g (sp_X1_balesIn u 0 (S 0) H1 ok0.1 ok0.2.2.2 cq.1.1)
      exact ⟨_, _, g2, by rw [w0]; unfold hdQ; rw [if_pos ⟨qh, by decide⟩]; rfl, cq⟩
    by_cases w1 : w = 1
    · have sw := sw_X11_hold_1
      simp (maxDischargeDepth := 12) -implicitDefEqProofs [vb_X11_hold_0, vb_X11_hold_9, vb_X11_hold_56, vb_X11_hold_66, vb_X11_hold_78, vb_X11_hold_87, vb_X11_hold_96, xI_0, xI_1, xI_7, xI_15, xI_38, xI_49, xI_60, xI_61, xI_62, xI_108, xw_X11_hold_0, xw_X11_hold_9, xw_X11_hold_56, xw_X11_hold_66, xw_X11_hold_78, xw_X11_hold_87, xw_X11_hold_96, zw_lit, xB_c, xB_s, xB_n, i1_c, j2_c, k1_c, jJ_e, xlg, xls, xla, xpd, ppush, zw_m1, zw_m2, zw_m3, gf_11_0, gf_11_2, tg_11_0, tg_11_2, gv_0_0, gv_0_2, xD1, xD2, xD3, xD4, xD5, xD6, xb1_0, w1, sw] at g
      obtain ⟨r, H2, ⟨rfl, rfl⟩, g2⟩ := xc_use g (sp_X1_balesIn u 1 (S 0) H1 ok0.1 ok0.2.2.2 cq.1.1)
      exact ⟨_, _, g2, by rw [w1]; unfold hdQ; rw [if_pos ⟨qh, by decide⟩]; rfl, cq⟩
    by_cases w2 : w = 2
    · have sw := sw_X11_hold_2
      simp (maxDischargeDepth := 12) -implicitDefEqProofs [vb_X11_hold_0, vb_X11_hold_9, vb_X11_hold_56, vb_X11_hold_66, vb_X11_hold_78, vb_X11_hold_87, vb_X11_hold_96, xI_0, xI_1, xI_7, xI_15, xI_38, xI_49, xI_60, xI_61, xI_62, xI_108, xw_X11_hold_0, xw_X11_hold_9, xw_X11_hold_56, xw_X11_hold_66, xw_X11_hold_78, xw_X11_hold_87, xw_X11_hold_96, zw_lit, xB_c, xB_s, xB_n, i1_c, j2_c, k1_c, jJ_e, xlg, xls, xla, xpd, ppush, zw_m1, zw_m2, zw_m3, gf_11_0, gf_11_2, tg_11_0, tg_11_2, gv_0_0, gv_0_2, xD1, xD2, xD3, xD4, xD5, xD6, xb1_0, w2, sw] at g
      obtain ⟨r, H2, ⟨rfl, rfl⟩, g2⟩ := xc_use g (sp_X1_linesIn u 0 (S 0) H1 ok0.1 cq.1.1)
      exact ⟨_, _, g2, by rw [w2]; unfold hdQ; rw [if_pos ⟨qh, by decide⟩]; rfl, cq⟩
    by_cases w3 : w = 3
    · have sw := sw_X11_hold_3
      simp (maxDischargeDepth := 12) -implicitDefEqProofs [vb_X11_hold_0, vb_X11_hold_9, vb_X11_hold_56, vb_X11_hold_66, vb_X11_hold_78, vb_X11_hold_87, vb_X11_hold_96, xI_0, xI_1, xI_7, xI_15, xI_38, xI_49, xI_60, xI_61, xI_62, xI_108, xw_X11_hold_0, xw_X11_hold_9, xw_X11_hold_56, xw_X11_hold_66, xw_X11_hold_78, xw_X11_hold_87, xw_X11_hold_96, zw_lit, xB_c, xB_s, xB_n, i1_c, j2_c, k1_c, jJ_e, xlg, xls, xla, xpd, ppush, zw_m1, zw_m2, zw_m3, gf_11_0, gf_11_2, tg_11_0, tg_11_2, gv_0_0, gv_0_2, xD1, xD2, xD3, xD4, xD5, xD6, xb1_0, w3, sw] at g
      obtain ⟨r, H2, ⟨rfl, rfl⟩, g2⟩ := xc_use g (sp_X1_linesIn u 1 (S 0) H1 ok0.1 cq.1.1)
      exact ⟨_, _, g2, by rw [w3]; unfold hdQ; rw [if_pos ⟨qh, by decide⟩]; rfl, cq⟩
    by_cases w4 : w = 4
    · have sw := sw_X11_hold_4
      simp (maxDischargeDepth := 12) -implicitDefEqProofs [vb_X11_hold_0, vb_X11_hold_9, vb_X11_hold_56, vb_X11_hold_66, vb_X11_hold_78, vb_X11_hold_87, vb_X11_hold_96, xI_0, xI_1, xI_7, xI_15, xI_38, xI_49, xI_60, xI_61, xI_62, xI_108, xw_X11_hold_0, xw_X11_hold_9, xw_X11_hold_56, xw_X11_hold_66, xw_X11_hold_78, xw_X11_hold_87, xw_X11_hold_96, zw_lit, xB_c, xB_s, xB_n, i1_c, j2_c, k1_c, jJ_e, xlg, xls, xla, xpd, ppush, zw_m1, zw_m2, zw_m3, gf_11_0, gf_11_2, tg_11_0, tg_11_2, gv_0_0, gv_0_2, xD1, xD2, xD3, xD4, xD5, xD6, xb1_0, w4, sw] at g
      obtain ⟨r, H2, ⟨rfl, rfl⟩, g2⟩ := xc_use g (sp_X1_marksIn u (S 0) H1 ok0.1 cq.1.1)
      exact ⟨_, _, g2, by rw [w4]; unfold hdQ; rw [if_pos ⟨qh, by decide⟩]; rfl, cq⟩
    by_cases w5 : w = 5
    · have sw := sw_X11_hold_5
      simp (maxDischargeDepth := 12) -implicitDefEqProofs [vb_X11_hold_0, vb_X11_hold_9, vb_X11_hold_56, vb_X11_hold_66, vb_X11_hold_78, vb_X11_hold_87, vb_X11_hold_96, xI_0, xI_1, xI_7, xI_15, xI_38, xI_49, xI_60, xI_61, xI_62, xI_108, xw_X11_hold_0, xw_X11_hold_9, xw_X11_hold_56, xw_X11_hold_66, xw_X11_hold_78, xw_X11_hold_87, xw_X11_hold_96, zw_lit, xB_c, xB_s, xB_n, i1_c, j2_c, k1_c, jJ_e, xlg, xls, xla, xpd, ppush, zw_m1, zw_m2, zw_m3, gf_11_0, gf_11_2, tg_11_0, tg_11_2, gv_0_0, gv_0_2, xD1, xD2, xD3, xD4, xD5, xD6, xb1_0, w5, sw] at g
      obtain ⟨r, H2, ⟨rfl, rfl⟩, g2⟩ := xc_use g (sp_X9_unreadIn u (S 0) H1 ok0.1 cq.1.1 t)
      exact ⟨_, _, g2, by rw [w5]; unfold hdQ; rw [if_pos ⟨qh, by decide⟩]; rfl, cq⟩
    have sw := sw_X11_hold_d (x := w) (by omega)
    simp (maxDischargeDepth := 12) -implicitDefEqProofs [vb_X11_hold_0, vb_X11_hold_9, vb_X11_hold_56, vb_X11_hold_66, vb_X11_hold_78, vb_X11_hold_87, vb_X11_hold_96, xI_0, xI_1, xI_7, xI_15, xI_38, xI_49, xI_60, xI_61, xI_62, xI_108, xw_X11_hold_0, xw_X11_hold_9, xw_X11_hold_56, xw_X11_hold_66, xw_X11_hold_78, xw_X11_hold_87, xw_X11_hold_96, zw_lit, xB_c, xB_s, xB_n, i1_c, j2_c, k1_c, jJ_e, xlg, xls, xla, xpd, ppush, zw_m1, zw_m2, zw_m3, gf_11_0, gf_11_2, tg_11_0, tg_11_2, gv_0_0, gv_0_2, xD1, xD2, xD3, xD4, xD5, xD6, xb1_0, sw] at g
    exact ⟨_, _, g, by unfold hdQ; rw [if_neg (by omega)], cq⟩
  · by_cases u0 : 0 ≤ u
    · have u1 : ¬ u ≤ 4 := by omega
      have u2 : ¬ u < 0 := by omega
      have u3 : 4 < u := by omega
      have h := call_runP 3 vm_X11_hold h
      have h := xw_top (hd := []) 9 xD6_ok xc_X11_hold xa_X11_hold (t := 0) rfl h
      simp (maxDischargeDepth := 12) -implicitDefEqProofs [vb_X11_hold_0, vb_X11_hold_9, vb_X11_hold_56, vb_X11_hold_66, vb_X11_hold_78, vb_X11_hold_87, vb_X11_hold_96, xI_0, xI_1, xI_7, xI_15, xI_38, xI_49, xI_60, xI_61, xI_62, xI_108, xw_X11_hold_0, xw_X11_hold_9, xw_X11_hold_56, xw_X11_hold_66, xw_X11_hold_78, xw_X11_hold_87, xw_X11_hold_96, zw_lit, xB_c, xB_s, xB_n, i1_c, j2_c, k1_c, jJ_e, xlg, xls, xla, xpd, ppush, zw_m1, zw_m2, zw_m3, gf_11_0, gf_11_2, tg_11_0, tg_11_2, gv_0_0, gv_0_2, xD1, xD2, xD3, xD4, xD5, xD6, xb1_0, u0, u1, u2, u3] at h
      exact ⟨_, _, h, by unfold hdQ; rw [if_neg (by omega)], CQ_refl hR hM⟩
    · have u2 : u < 0 := by omega
      have h := call_runP 3 vm_X11_hold h
      have h := xw_top (hd := []) 9 xD6_ok xc_X11_hold xa_X11_hold (t := 0) rfl h
      simp (maxDischargeDepth := 12) -implicitDefEqProofs [vb_X11_hold_0, vb_X11_hold_9, vb_X11_hold_56, vb_X11_hold_66, vb_X11_hold_78, vb_X11_hold_87, vb_X11_hold_96, xI_0, xI_1, xI_7, xI_15, xI_38, xI_49, xI_60, xI_61, xI_62, xI_108, xw_X11_hold_0, xw_X11_hold_9, xw_X11_hold_56, xw_X11_hold_66, xw_X11_hold_78, xw_X11_hold_87, xw_X11_hold_96, zw_lit, xB_c, xB_s, xB_n, i1_c, j2_c, k1_c, jJ_e, xlg, xls, xla, xpd, ppush, zw_m1, zw_m2, zw_m3, gf_11_0, gf_11_2, tg_11_0, tg_11_2, gv_0_0, gv_0_2, xD1, xD2, xD3, xD4, xD5, xD6, xb1_0, u0, u2] at h
      exact ⟨_, _, h, by unfold hdQ; rw [if_neg (by omega)], CQ_refl hR hM⟩
set_option maxRecDepth 100000 in
theorem sp_c_close (u : Int) (S : Int → Int → Int) (n : Int) (H : PH) (hR : RC H S n) (hM : MCC (S 0) H) : SPEC 130 [(2, 0), (0, u)] H (fun r H' => r = some (0, clQ (S 0) u) ∧ CQ H H' S n) := by
  intro E n' res h
  have ok0 := RC_sz hR
  by_cases qh : 0 ≤ u ∧ u ≤ 4
  · have u0 := qh.1
    have u1 := qh.2
    have u2 : ¬ u < 0 := by omega
    have u3 : ¬ 4 < u := by omega
    have h := call_runP 2 vm_X11_close h
    have h := xw_top (hd := []) 5 xD6_ok xc_X11_close xa_X11_close (t := 0) rfl h
    simp (maxDischargeDepth := 12) -implicitDefEqProofs [vb_X11_close_0, vb_X11_close_18, vb_X11_close_21, xI_0, xI_1, xI_11, xI_36, xI_37, xI_49, xI_60, xI_61, xI_62, xw_X11_close_0, xw_X11_close_18, xw_X11_close_21, zw_lit, xB_c, xB_s, xB_n, i1_c, j2_c, k1_c, jJ_e, xlg, xls, xla, xpd, ppush, zw_m1, zw_m2, zw_m3, gf_11_0, tg_11_0, gv_0_0, xD1, xD2, xD3, xD4, xD5, xD6, xb1_0, u0, u1, u2, u3] at h
    obtain ⟨r, H1, ⟨rfl, rfl⟩, g⟩ := xc_use h (sp_X1_surplusIn u (S 0) H ok0.1 ok0.2.2.2 hR.1)
    simp (maxDischargeDepth := 12) -implicitDefEqProofs [vb_X11_close_0, vb_X11_close_18, vb_X11_close_21, xI_0, xI_1, xI_11, xI_36, xI_37, xI_49, xI_60, xI_61, xI_62, xw_X11_close_0, xw_X11_close_18, xw_X11_close_21, zw_lit, xB_c, xB_s, xB_n, i1_c, j2_c, k1_c, jJ_e, xlg, xls, xla, xpd, ppush, zw_m1, zw_m2, zw_m3, gf_11_0, tg_11_0, gv_0_0, xD1, xD2, xD3, xD4, xD5, xD6, xb1_0] at g
    exact ⟨_, _, g, by unfold clQ; rw [if_pos qh], CQ_refl hR hM⟩
  · by_cases u0 : 0 ≤ u
    · have u1 : ¬ u ≤ 4 := by omega
      have u2 : ¬ u < 0 := by omega
      have u3 : 4 < u := by omega
      have h := call_runP 2 vm_X11_close h
      have h := xw_top (hd := []) 5 xD6_ok xc_X11_close xa_X11_close (t := 0) rfl h
      simp (maxDischargeDepth := 12) -implicitDefEqProofs [vb_X11_close_0, vb_X11_close_18, vb_X11_close_21, xI_0, xI_1, xI_11, xI_36, xI_37, xI_49, xI_60, xI_61, xI_62, xw_X11_close_0, xw_X11_close_18, xw_X11_close_21, zw_lit, xB_c, xB_s, xB_n, i1_c, j2_c, k1_c, jJ_e, xlg, xls, xla, xpd, ppush, zw_m1, zw_m2, zw_m3, gf_11_0, tg_11_0, gv_0_0, xD1, xD2, xD3, xD4, xD5, xD6, xb1_0, u0, u1, u2, u3] at h
      exact ⟨_, _, h, by unfold clQ; rw [if_neg (by omega)]; rfl, CQ_refl hR hM⟩
    · have u2 : u < 0 := by omega
      have h := call_runP 2 vm_X11_close h
      have h := xw_top (hd := []) 5 xD6_ok xc_X11_close xa_X11_close (t := 0) rfl h
      simp (maxDischargeDepth := 12) -implicitDefEqProofs [vb_X11_close_0, vb_X11_close_18, vb_X11_close_21, xI_0, xI_1, xI_11, xI_36, xI_37, xI_49, xI_60, xI_61, xI_62, xw_X11_close_0, xw_X11_close_18, xw_X11_close_21, zw_lit, xB_c, xB_s, xB_n, i1_c, j2_c, k1_c, jJ_e, xlg, xls, xla, xpd, ppush, zw_m1, zw_m2, zw_m3, gf_11_0, tg_11_0, gv_0_0, xD1, xD2, xD3, xD4, xD5, xD6, xb1_0, u0, u2] at h
      exact ⟨_, _, h, by unfold clQ; rw [if_neg (by omega)]; rfl, CQ_refl hR hM⟩
set_option maxRecDepth 100000 in
theorem sp_c_is (w sz : Int) (S : Int → Int → Int) (n : Int) (H : PH) (hR : RC H S n) (hM : MCC (S 0) H) (hs : H 213 1 = sz) : SPEC 110 [(2, 0), (0, w)] H (fun r H' => r = some (0, isQ (S 0) n sz w) ∧ CQ H H' S n) := by
  intro E n' res h
  have ok0 := RC_sz hR
  have h := call_runP 2 vm_X11_is h
  have h := xw_top (hd := []) 18 xD6_ok xc_X11_is xa_X11_is (t := 0) rfl h
  simp (maxDischargeDepth := 12) -implicitDefEqProofs [vb_X11_is_0, vb_X11_is_80, vb_X11_is_88, vb_X11_is_96, vb_X11_is_107, vb_X11_is_115, vb_X11_is_123, vb_X11_is_131, vb_X11_is_139, vb_X11_is_144, vb_X11_is_152, vb_X11_is_161, vb_X11_is_171, vb_X11_is_181, vb_X11_is_189, vb_X11_is_197, xI_0, xI_1, xI_7, xI_8, xI_49, xI_61, xI_62, xI_103, xw_X11_is_0, xw_X11_is_80, xw_X11_is_88, xw_X11_is_96, xw_X11_is_107, xw_X11_is_115, xw_X11_is_123, xw_X11_is_131, xw_X11_is_139, xw_X11_is_144, xw_X11_is_152, xw_X11_is_161, xw_X11_is_171, xw_X11_is_181, xw_X11_is_189, xw_X11_is_197, zw_lit, xB_c, xB_s, xB_n, i1_c, j2_c, k1_c, jJ_e, xlg, xls, xla, xpd, ppush, zw_m1, zw_m2, zw_m3, gf_1_0, gf_1_2, gf_1_4, gf_1_7, gf_1_8, gf_1_9, gf_1_10, gf_1_13, gf_8_3, gf_9_4, gf_10_1, gf_11_0, gf_11_1, gf_11_2, gf_11_7, tg_10_1, tg_11_0, tg_11_1, tg_11_2, tg_11_7, tg_1_0, tg_1_10, tg_1_13, tg_1_2, tg_1_4, tg_1_7, tg_1_8, tg_1_9, tg_8_3, tg_9_4, gv_1_0, gv_1_2, gv_1_4, gv_1_7, gv_1_8, gv_1_9, gv_1_10, gv_1_13, gv_2_3, gv_215_4, gv_213_1, gv_0_0, gv_0_1, gv_0_2, gv_0_7, xD1, xD2, xD3, xD4, xD5, xD6, xb1_0] at h
  obtain ⟨r, H1, ⟨rfl, cq, t⟩, g⟩ := xc_use h (sp_c_refresh S n H hR hM)
  obtain ⟨s0, s1, s2, s3, s4, s5, s6, s7, s8, s9⟩ := id cq.1.1.1.1
  have f0 := s0.symm
  have f1 := s2.symm
  have f2 := s1.symm
  have f3 : H1 215 4 = (tlZ (S 0)).1 := t.1.1
  have f4 := s3.symm
  have f5 := s4.symm
  have f6 := s5.symm
  have f7 : H1 0 7 = n := cq.1.2.2.2.1.2
  have f8 : H1 213 1 = sz := cq.2.2.2.1.trans hs
  have f12 := s8.symm
  have f13 := s9.symm
  by_cases w0 : w = 0
  · have sw := sw_X11_is_0
    simp (maxDischargeDepth := 12) -implicitDefEqProofs [vb_X11_is_0, vb_X11_is_80, vb_X11_is_88, vb_X11_is_96, vb_X11_is_107, vb_X11_is_115, vb_X11_is_123, vb_X11_is_131, vb_X11_is_139, vb_X11_is_144, vb_X11_is_152, vb_X11_is_161, vb_X11_is_171, vb_X11_is_181, vb_X11_is_189, vb_X11_is_197, xI_0, xI_1, xI_7, xI_8, xI_49, xI_61, xI_62, xI_103, xw_X11_is_0, xw_X11_is_80, xw_X11_is_88, xw_X11_is_96, xw_X11_is_107, xw_X11_is_115, xw_X11_is_123, xw_X11_is_131, xw_X11_is_139, xw_X11_is_144, xw_X11_is_152, xw_X11_is_161, xw_X11_is_171, xw_X11_is_181, xw_X11_is_189, xw_X11_is_197, zw_lit, xB_c, xB_s, xB_n, i1_c, j2_c, k1_c, jJ_e, xlg, xls, xla, xpd, ppush, zw_m1, zw_m2, zw_m3, gf_1_0, gf_1_2, gf_1_4, gf_1_7, gf_1_8, gf_1_9, gf_1_10, gf_1_13, gf_8_3, gf_9_4, gf_10_1, gf_11_0, gf_11_1, gf_11_2, gf_11_7, tg_10_1, tg_11_0, tg_11_1, tg_11_2, tg_11_7, tg_1_0, tg_1_10, tg_1_13, tg_1_2, tg_1_4, tg_1_7, tg_1_8, tg_1_9, tg_8_3, tg_9_4, gv_1_0, gv_1_2, gv_1_4, gv_1_7, gv_1_8, gv_1_9, gv_1_10, gv_1_13, gv_2_3, gv_215_4, gv_213_1, gv_0_0, gv_0_1, gv_0_2, gv_0_7, xD1, xD2, xD3, xD4, xD5, xD6, xb1_0, w0, sw, f0] at g
    exact ⟨_, _, g, by rw [w0]; unfold isQ; rw [if_pos (by decide)]; rfl, cq⟩
  by_cases w1 : w = 1
  · have sw := sw_X11_is_1
    simp (maxDischargeDepth := 12) -implicitDefEqProofs [vb_X11_is_0, vb_X11_is_80, vb_X11_is_88, vb_X11_is_96, vb_X11_is_107, vb_X11_is_115, vb_X11_is_123, vb_X11_is_131, vb_X11_is_139, vb_X11_is_144, vb_X11_is_152, vb_X11_is_161, vb_X11_is_171, vb_X11_is_181, vb_X11_is_189, vb_X11_is_197, xI_0, xI_1, xI_7, xI_8, xI_49, xI_61, xI_62, xI_103, xw_X11_is_0, xw_X11_is_80, xw_X11_is_88, xw_X11_is_96, xw_X11_is_107, xw_X11_is_115, xw_X11_is_123, xw_X11_is_131, xw_X11_is_139, xw_X11_is_144, xw_X11_is_152, xw_X11_is_161, xw_X11_is_171, xw_X11_is_181, xw_X11_is_189, xw_X11_is_197, zw_lit, xB_c, xB_s, xB_n, i1_c, j2_c, k1_c, jJ_e, xlg, xls, xla, xpd, ppush, zw_m1, zw_m2, zw_m3, gf_1_0, gf_1_2, gf_1_4, gf_1_7, gf_1_8, gf_1_9, gf_1_10, gf_1_13, gf_8_3, gf_9_4, gf_10_1, gf_11_0, gf_11_1, gf_11_2, gf_11_7, tg_10_1, tg_11_0, tg_11_1, tg_11_2, tg_11_7, tg_1_0, tg_1_10, tg_1_13, tg_1_2, tg_1_4, tg_1_7, tg_1_8, tg_1_9, tg_8_3, tg_9_4, gv_1_0, gv_1_2, gv_1_4, gv_1_7, gv_1_8, gv_1_9, gv_1_10, gv_1_13, gv_2_3, gv_215_4, gv_213_1, gv_0_0, gv_0_1, gv_0_2, gv_0_7, xD1, xD2, xD3, xD4, xD5, xD6, xb1_0, w1, sw, f1] at g
    exact ⟨_, _, g, by rw [w1]; unfold isQ; rw [if_pos (by decide)]; rfl, cq⟩
  by_cases w2 : w = 2
  · have sw := sw_X11_is_2
    simp (maxDischargeDepth := 12) -implicitDefEqProofs [vb_X11_is_0, vb_X11_is_80, vb_X11_is_88, vb_X11_is_96, vb_X11_is_107, vb_X11_is_115, vb_X11_is_123, vb_X11_is_131, vb_X11_is_139, vb_X11_is_144, vb_X11_is_152, vb_X11_is_161, vb_X11_is_171, vb_X11_is_181, vb_X11_is_189, vb_X11_is_197, xI_0, xI_1, xI_7, xI_8, xI_49, xI_61, xI_62, xI_103, xw_X11_is_0, xw_X11_is_80, xw_X11_is_88, xw_X11_is_96, xw_X11_is_107, xw_X11_is_115, xw_X11_is_123, xw_X11_is_131, xw_X11_is_139, xw_X11_is_144, xw_X11_is_152, xw_X11_is_161, xw_X11_is_171, xw_X11_is_181, xw_X11_is_189, xw_X11_is_197, zw_lit, xB_c, xB_s, xB_n, i1_c, j2_c, k1_c, jJ_e, xlg, xls, xla, xpd, ppush, zw_m1, zw_m2, zw_m3, gf_1_0, gf_1_2, gf_1_4, gf_1_7, gf_1_8, gf_1_9, gf_1_10, gf_1_13, gf_8_3, gf_9_4, gf_10_1, gf_11_0, gf_11_1, gf_11_2, gf_11_7, tg_10_1, tg_11_0, tg_11_1, tg_11_2, tg_11_7, tg_1_0, tg_1_10, tg_1_13, tg_1_2, tg_1_4, tg_1_7, tg_1_8, tg_1_9, tg_8_3, tg_9_4, gv_1_0, gv_1_2, gv_1_4, gv_1_7, gv_1_8, gv_1_9, gv_1_10, gv_1_13, gv_2_3, gv_215_4, gv_213_1, gv_0_0, gv_0_1, gv_0_2, gv_0_7, xD1, xD2, xD3, xD4, xD5, xD6, xb1_0, w2, sw, f2] at g
    exact ⟨_, _, g, by rw [w2]; unfold isQ; rw [if_pos (by decide)]; rfl, cq⟩
  by_cases w3 : w = 3
  · have sw := sw_X11_is_3
    simp (maxDischargeDepth := 12) -implicitDefEqProofs [vb_X11_is_0, vb_X11_is_80, vb_X11_is_88, vb_X11_is_96, vb_X11_is_107, vb_X11_is_115, vb_X11_is_123, vb_X11_is_131, vb_X11_is_139, vb_X11_is_144, vb_X11_is_152, vb_X11_is_161, vb_X11_is_171, vb_X11_is_181, vb_X11_is_189, vb_X11_is_197, xI_0, xI_1, xI_7, xI_8, xI_49, xI_61, xI_62, xI_103, xw_X11_is_0, xw_X11_is_80, xw_X11_is_88, xw_X11_is_96, xw_X11_is_107, xw_X11_is_115, xw_X11_is_123, xw_X11_is_131, xw_X11_is_139, xw_X11_is_144, xw_X11_is_152, xw_X11_is_161, xw_X11_is_171, xw_X11_is_181, xw_X11_is_189, xw_X11_is_197, zw_lit, xB_c, xB_s, xB_n, i1_c, j2_c, k1_c, jJ_e, xlg, xls, xla, xpd, ppush, zw_m1, zw_m2, zw_m3, gf_1_0, gf_1_2, gf_1_4, gf_1_7, gf_1_8, gf_1_9, gf_1_10, gf_1_13, gf_8_3, gf_9_4, gf_10_1, gf_11_0, gf_11_1, gf_11_2, gf_11_7, tg_10_1, tg_11_0, tg_11_1, tg_11_2, tg_11_7, tg_1_0, tg_1_10, tg_1_13, tg_1_2, tg_1_4, tg_1_7, tg_1_8, tg_1_9, tg_8_3, tg_9_4, gv_1_0, gv_1_2, gv_1_4, gv_1_7, gv_1_8, gv_1_9, gv_1_10, gv_1_13, gv_2_3, gv_215_4, gv_213_1, gv_0_0, gv_0_1, gv_0_2, gv_0_7, xD1, xD2, xD3, xD4, xD5, xD6, xb1_0, w3, sw, f3] at g
    exact ⟨_, _, g, by rw [w3]; unfold isQ; rw [if_pos (by decide)]; rfl, cq⟩
  by_cases w4 : w = 4
  · have sw := sw_X11_is_4
    simp (maxDischargeDepth := 12) -implicitDefEqProofs [vb_X11_is_0, vb_X11_is_80, vb_X11_is_88, vb_X11_is_96, vb_X11_is_107, vb_X11_is_115, vb_X11_is_123, vb_X11_is_131, vb_X11_is_139, vb_X11_is_144, vb_X11_is_152, vb_X11_is_161, vb_X11_is_171, vb_X11_is_181, vb_X11_is_189, vb_X11_is_197, xI_0, xI_1, xI_7, xI_8, xI_49, xI_61, xI_62, xI_103, xw_X11_is_0, xw_X11_is_80, xw_X11_is_88, xw_X11_is_96, xw_X11_is_107, xw_X11_is_115, xw_X11_is_123, xw_X11_is_131, xw_X11_is_139, xw_X11_is_144, xw_X11_is_152, xw_X11_is_161, xw_X11_is_171, xw_X11_is_181, xw_X11_is_189, xw_X11_is_197, zw_lit, xB_c, xB_s, xB_n, i1_c, j2_c, k1_c, jJ_e, xlg, xls, xla, xpd, ppush, zw_m1, zw_m2, zw_m3, gf_1_0, gf_1_2, gf_1_4, gf_1_7, gf_1_8, gf_1_9, gf_1_10, gf_1_13, gf_8_3, gf_9_4, gf_10_1, gf_11_0, gf_11_1, gf_11_2, gf_11_7, tg_10_1, tg_11_0, tg_11_1, tg_11_2, tg_11_7, tg_1_0, tg_1_10, tg_1_13, tg_1_2, tg_1_4, tg_1_7, tg_1_8, tg_1_9, tg_8_3, tg_9_4, gv_1_0, gv_1_2, gv_1_4, gv_1_7, gv_1_8, gv_1_9, gv_1_10, gv_1_13, gv_2_3, gv_215_4, gv_213_1, gv_0_0, gv_0_1, gv_0_2, gv_0_7, xD1, xD2, xD3, xD4, xD5, xD6, xb1_0, w4, sw, f4] at g
    exact ⟨_, _, g, by rw [w4]; unfold isQ; rw [if_pos (by decide)]; rfl, cq⟩
  by_cases w5 : w = 5
  · have sw := sw_X11_is_5
    simp (maxDischargeDepth := 12) -implicitDefEqProofs [vb_X11_is_0, vb_X11_is_80, vb_X11_is_88, vb_X11_is_96, vb_X11_is_107, vb_X11_is_115, vb_X11_is_123, vb_X11_is_131, vb_X11_is_139, vb_X11_is_144, vb_X11_is_152, vb_X11_is_161, vb_X11_is_171, vb_X11_is_181, vb_X11_is_189, vb_X11_is_197, xI_0, xI_1, xI_7, xI_8, xI_49, xI_61, xI_62, xI_103, xw_X11_is_0, xw_X11_is_80, xw_X11_is_88, xw_X11_is_96, xw_X11_is_107, xw_X11_is_115, xw_X11_is_123, xw_X11_is_131, xw_X11_is_139, xw_X11_is_144, xw_X11_is_152, xw_X11_is_161, xw_X11_is_171, xw_X11_is_181, xw_X11_is_189, xw_X11_is_197, zw_lit, xB_c, xB_s, xB_n, i1_c, j2_c, k1_c, jJ_e, xlg, xls, xla, xpd, ppush, zw_m1, zw_m2, zw_m3, gf_1_0, gf_1_2, gf_1_4, gf_1_7, gf_1_8, gf_1_9, gf_1_10, gf_1_13, gf_8_3, gf_9_4, gf_10_1, gf_11_0, gf_11_1, gf_11_2, gf_11_7, tg_10_1, tg_11_0, tg_11_1, tg_11_2, tg_11_7, tg_1_0, tg_1_10, tg_1_13, tg_1_2, tg_1_4, tg_1_7, tg_1_8, tg_1_9, tg_8_3, tg_9_4, gv_1_0, gv_1_2, gv_1_4, gv_1_7, gv_1_8, gv_1_9, gv_1_10, gv_1_13, gv_2_3, gv_215_4, gv_213_1, gv_0_0, gv_0_1, gv_0_2, gv_0_7, xD1, xD2, xD3, xD4, xD5, xD6, xb1_0, w5, sw, f5] at g
    exact ⟨_, _, g, by rw [w5]; unfold isQ; rw [if_pos (by decide)]; rfl, cq⟩
  by_cases w6 : w = 6
  · have sw := sw_X11_is_6
    simp (maxDischargeDepth := 12) -implicitDefEqProofs [vb_X11_is_0, vb_X11_is_80, vb_X11_is_88, vb_X11_is_96, vb_X11_is_107, vb_X11_is_115, vb_X11_is_123, vb_X11_is_131, vb_X11_is_139, vb_X11_is_144, vb_X11_is_152, vb_X11_is_161, vb_X11_is_171, vb_X11_is_181, vb_X11_is_189, vb_X11_is_197, xI_0, xI_1, xI_7, xI_8, xI_49, xI_61, xI_62, xI_103, xw_X11_is_0, xw_X11_is_80, xw_X11_is_88, xw_X11_is_96, xw_X11_is_107, xw_X11_is_115, xw_X11_is_123, xw_X11_is_131, xw_X11_is_139, xw_X11_is_144, xw_X11_is_152, xw_X11_is_161, xw_X11_is_171, xw_X11_is_181, xw_X11_is_189, xw_X11_is_197, zw_lit, xB_c, xB_s, xB_n, i1_c, j2_c, k1_c, jJ_e, xlg, xls, xla, xpd, ppush, zw_m1, zw_m2, zw_m3, gf_1_0, gf_1_2, gf_1_4, gf_1_7, gf_1_8, gf_1_9, gf_1_10, gf_1_13, gf_8_3, gf_9_4, gf_10_1, gf_11_0, gf_11_1, gf_11_2, gf_11_7, tg_10_1, tg_11_0, tg_11_1, tg_11_2, tg_11_7, tg_1_0, tg_1_10, tg_1_13, tg_1_2, tg_1_4, tg_1_7, tg_1_8, tg_1_9, tg_8_3, tg_9_4, gv_1_0, gv_1_2, gv_1_4, gv_1_7, gv_1_8, gv_1_9, gv_1_10, gv_1_13, gv_2_3, gv_215_4, gv_213_1, gv_0_0, gv_0_1, gv_0_2, gv_0_7, xD1, xD2, xD3, xD4, xD5, xD6, xb1_0, w6, sw, f6] at g
    exact ⟨_, _, g, by rw [w6]; unfold isQ; rw [if_pos (by decide)]; rfl, cq⟩
  by_cases w7 : w = 7
  · have sw := sw_X11_is_7
    simp (maxDischargeDepth := 12) -implicitDefEqProofs [vb_X11_is_0, vb_X11_is_80, vb_X11_is_88, vb_X11_is_96, vb_X11_is_107, vb_X11_is_115, vb_X11_is_123, vb_X11_is_131, vb_X11_is_139, vb_X11_is_144, vb_X11_is_152, vb_X11_is_161, vb_X11_is_171, vb_X11_is_181, vb_X11_is_189, vb_X11_is_197, xI_0, xI_1, xI_7, xI_8, xI_49, xI_61, xI_62, xI_103, xw_X11_is_0, xw_X11_is_80, xw_X11_is_88, xw_X11_is_96, xw_X11_is_107, xw_X11_is_115, xw_X11_is_123, xw_X11_is_131, xw_X11_is_139, xw_X11_is_144, xw_X11_is_152, xw_X11_is_161, xw_X11_is_171, xw_X11_is_181, xw_X11_is_189, xw_X11_is_197, zw_lit, xB_c, xB_s, xB_n, i1_c, j2_c, k1_c, jJ_e, xlg, xls, xla, xpd, ppush, zw_m1, zw_m2, zw_m3, gf_1_0, gf_1_2, gf_1_4, gf_1_7, gf_1_8, gf_1_9, gf_1_10, gf_1_13, gf_8_3, gf_9_4, gf_10_1, gf_11_0, gf_11_1, gf_11_2, gf_11_7, tg_10_1, tg_11_0, tg_11_1, tg_11_2, tg_11_7, tg_1_0, tg_1_10, tg_1_13, tg_1_2, tg_1_4, tg_1_7, tg_1_8, tg_1_9, tg_8_3, tg_9_4, gv_1_0, gv_1_2, gv_1_4, gv_1_7, gv_1_8, gv_1_9, gv_1_10, gv_1_13, gv_2_3, gv_215_4, gv_213_1, gv_0_0, gv_0_1, gv_0_2, gv_0_7, xD1, xD2, xD3, xD4, xD5, xD6, xb1_0, w7, sw, f7] at g
    exact ⟨_, _, g, by rw [w7]; unfold isQ; rw [if_pos (by decide)]; rfl, cq⟩
  by_cases w8 : w = 8
  · have sw := sw_X11_is_8
    simp (maxDischargeDepth := 12) -implicitDefEqProofs [vb_X11_is_0, vb_X11_is_80, vb_X11_is_88, vb_X11_is_96, vb_X11_is_107, vb_X11_is_115, vb_X11_is_123, vb_X11_is_131, vb_X11_is_139, vb_X11_is_144, vb_X11_is_152, vb_X11_is_161, vb_X11_is_171, vb_X11_is_181, vb_X11_is_189, vb_X11_is_197, xI_0, xI_1, xI_7, xI_8, xI_49, xI_61, xI_62, xI_103, xw_X11_is_0, xw_X11_is_80, xw_X11_is_88, xw_X11_is_96, xw_X11_is_107, xw_X11_is_115, xw_X11_is_123, xw_X11_is_131, xw_X11_is_139, xw_X11_is_144, xw_X11_is_152, xw_X11_is_161, xw_X11_is_171, xw_X11_is_181, xw_X11_is_189, xw_X11_is_197, zw_lit, xB_c, xB_s, xB_n, i1_c, j2_c, k1_c, jJ_e, xlg, xls, xla, xpd, ppush, zw_m1, zw_m2, zw_m3, gf_1_0, gf_1_2, gf_1_4, gf_1_7, gf_1_8, gf_1_9, gf_1_10, gf_1_13, gf_8_3, gf_9_4, gf_10_1, gf_11_0, gf_11_1, gf_11_2, gf_11_7, tg_10_1, tg_11_0, tg_11_1, tg_11_2, tg_11_7, tg_1_0, tg_1_10, tg_1_13, tg_1_2, tg_1_4, tg_1_7, tg_1_8, tg_1_9, tg_8_3, tg_9_4, gv_1_0, gv_1_2, gv_1_4, gv_1_7, gv_1_8, gv_1_9, gv_1_10, gv_1_13, gv_2_3, gv_215_4, gv_213_1, gv_0_0, gv_0_1, gv_0_2, gv_0_7, xD1, xD2, xD3, xD4, xD5, xD6, xb1_0, w8, sw, f8] at g
    exact ⟨_, _, g, by rw [w8]; unfold isQ; rw [if_pos (by decide)]; rfl, cq⟩
  by_cases w12 : w = 12
  · have sw := sw_X11_is_12
    simp (maxDischargeDepth := 12) -implicitDefEqProofs [vb_X11_is_0, vb_X11_is_80, vb_X11_is_88, vb_X11_is_96, vb_X11_is_107, vb_X11_is_115, vb_X11_is_123, vb_X11_is_131, vb_X11_is_139, vb_X11_is_144, vb_X11_is_152, vb_X11_is_161, vb_X11_is_171, vb_X11_is_181, vb_X11_is_189, vb_X11_is_197, xI_0, xI_1, xI_7, xI_8, xI_49, xI_61, xI_62, xI_103, xw_X11_is_0, xw_X11_is_80, xw_X11_is_88, xw_X11_is_96, xw_X11_is_107, xw_X11_is_115, xw_X11_is_123, xw_X11_is_131, xw_X11_is_139, xw_X11_is_144, xw_X11_is_152, xw_X11_is_161, xw_X11_is_171, xw_X11_is_181, xw_X11_is_189, xw_X11_is_197, zw_lit, xB_c, xB_s, xB_n, i1_c, j2_c, k1_c, jJ_e, xlg, xls, xla, xpd, ppush, zw_m1, zw_m2, zw_m3, gf_1_0, gf_1_2, gf_1_4, gf_1_7, gf_1_8, gf_1_9, gf_1_10, gf_1_13, gf_8_3, gf_9_4, gf_10_1, gf_11_0, gf_11_1, gf_11_2, gf_11_7, tg_10_1, tg_11_0, tg_11_1, tg_11_2, tg_11_7, tg_1_0, tg_1_10, tg_1_13, tg_1_2, tg_1_4, tg_1_7, tg_1_8, tg_1_9, tg_8_3, tg_9_4, gv_1_0, gv_1_2, gv_1_4, gv_1_7, gv_1_8, gv_1_9, gv_1_10, gv_1_13, gv_2_3, gv_215_4, gv_213_1, gv_0_0, gv_0_1, gv_0_2, gv_0_7, xD1, xD2, xD3, xD4, xD5, xD6, xb1_0, w12, sw, f12] at g
    exact ⟨_, _, g, by rw [w12]; unfold isQ; rw [if_pos (by decide)]; rfl, cq⟩
  by_cases w13 : w = 13
  · have sw := sw_X11_is_13
    simp (maxDischargeDepth := 12) -implicitDefEqProofs [vb_X11_is_0, vb_X11_is_80, vb_X11_is_88, vb_X11_is_96, vb_X11_is_107, vb_X11_is_115, vb_X11_is_123, vb_X11_is_131, vb_X11_is_139, vb_X11_is_144, vb_X11_is_152, vb_X11_is_161, vb_X11_is_171, vb_X11_is_181, vb_X11_is_189, vb_X11_is_197, xI_0, xI_1, xI_7, xI_8, xI_49, xI_61, xI_62, xI_103, xw_X11_is_0, xw_X11_is_80, xw_X11_is_88, xw_X11_is_96, xw_X11_is_107, xw_X11_is_115, xw_X11_is_123, xw_X11_is_131, xw_X11_is_139, xw_X11_is_144, xw_X11_is_152, xw_X11_is_161, xw_X11_is_171, xw_X11_is_181, xw_X11_is_189, xw_X11_is_197, zw_lit, xB_c, xB_s, xB_n, i1_c, j2_c, k1_c, jJ_e, xlg, xls, xla, xpd, ppush, zw_m1, zw_m2, zw_m3, gf_1_0, gf_1_2, gf_1_4, gf_1_7, gf_1_8, gf_1_9, gf_1_10, gf_1_13, gf_8_3, gf_9_4, gf_10_1, gf_11_0, gf_11_1, gf_11_2, gf_11_7, tg_10_1, tg_11_0, tg_11_1, tg_11_2, tg_11_7, tg_1_0, tg_1_10, tg_1_13, tg_1_2, tg_1_4, tg_1_7, tg_1_8, tg_1_9, tg_8_3, tg_9_4, gv_1_0, gv_1_2, gv_1_4, gv_1_7, gv_1_8, gv_1_9, gv_1_10, gv_1_13, gv_2_3, gv_215_4, gv_213_1, gv_0_0, gv_0_1, gv_0_2, gv_0_7, xD1, xD2, xD3, xD4, xD5, xD6, xb1_0, w13, sw, f13] at g
    exact ⟨_, _, g, by rw [w13]; unfold isQ; rw [if_pos (by decide)]; rfl, cq⟩
  by_cases w9 : w = 9
  · have sw := sw_X11_is_9
    simp (maxDischargeDepth := 12) -implicitDefEqProofs [vb_X11_is_0, vb_X11_is_80, vb_X11_is_88, vb_X11_is_96, vb_X11_is_107, vb_X11_is_115, vb_X11_is_123, vb_X11_is_131, vb_X11_is_139, vb_X11_is_144, vb_X11_is_152, vb_X11_is_161, vb_X11_is_171, vb_X11_is_181, vb_X11_is_189, vb_X11_is_197, xI_0, xI_1, xI_7, xI_8, xI_49, xI_61, xI_62, xI_103, xw_X11_is_0, xw_X11_is_80, xw_X11_is_88, xw_X11_is_96, xw_X11_is_107, xw_X11_is_115, xw_X11_is_123, xw_X11_is_131, xw_X11_is_139, xw_X11_is_144, xw_X11_is_152, xw_X11_is_161, xw_X11_is_171, xw_X11_is_181, xw_X11_is_189, xw_X11_is_197, zw_lit, xB_c, xB_s, xB_n, i1_c, j2_c, k1_c, jJ_e, xlg, xls, xla, xpd, ppush, zw_m1, zw_m2, zw_m3, gf_1_0, gf_1_2, gf_1_4, gf_1_7, gf_1_8, gf_1_9, gf_1_10, gf_1_13, gf_8_3, gf_9_4, gf_10_1, gf_11_0, gf_11_1, gf_11_2, gf_11_7, tg_10_1, tg_11_0, tg_11_1, tg_11_2, tg_11_7, tg_1_0, tg_1_10, tg_1_13, tg_1_2, tg_1_4, tg_1_7, tg_1_8, tg_1_9, tg_8_3, tg_9_4, gv_1_0, gv_1_2, gv_1_4, gv_1_7, gv_1_8, gv_1_9, gv_1_10, gv_1_13, gv_2_3, gv_215_4, gv_213_1, gv_0_0, gv_0_1, gv_0_2, gv_0_7, xD1, xD2, xD3, xD4, xD5, xD6, xb1_0, w9, sw] at g
    obtain ⟨r, H2, ⟨rfl, rfl⟩, g2⟩ := xc_use g (sp_X9_linesThatAre (0) (S 0) H1 ok0.1 cq.1.1 t)
    exact ⟨_, _, g2, by rw [w9]; unfold isQ; rw [if_pos (by decide)]; rfl, cq⟩
  by_cases w10 : w = 10
  · have sw := sw_X11_is_10
    simp (maxDischargeDepth := 12) -implicitDefEqProofs [vb_X11_is_0, vb_X11_is_80, vb_X11_is_88, vb_X11_is_96, vb_X11_is_107, vb_X11_is_115, vb_X11_is_123, vb_X11_is_131, vb_X11_is_139, vb_X11_is_144, vb_X11_is_152, vb_X11_is_161, vb_X11_is_171, vb_X11_is_181, vb_X11_is_189, vb_X11_is_197, xI_0, xI_1, xI_7, xI_8, xI_49, xI_61, xI_62, xI_103, xw_X11_is_0, xw_X11_is_80, xw_X11_is_88, xw_X11_is_96, xw_X11_is_107, xw_X11_is_115, xw_X11_is_123, xw_X11_is_131, xw_X11_is_139, xw_X11_is_144, xw_X11_is_152, xw_X11_is_161, xw_X11_is_171, xw_X11_is_181, xw_X11_is_189, xw_X11_is_197, zw_lit, xB_c, xB_s, xB_n, i1_c, j2_c, k1_c, jJ_e, xlg, xls, xla, xpd, ppush, zw_m1, zw_m2, zw_m3, gf_1_0, gf_1_2, gf_1_4, gf_1_7, gf_1_8, gf_1_9, gf_1_10, gf_1_13, gf_8_3, gf_9_4, gf_10_1, gf_11_0, gf_11_1, gf_11_2, gf_11_7, tg_10_1, tg_11_0, tg_11_1, tg_11_2, tg_11_7, tg_1_0, tg_1_10, tg_1_13, tg_1_2, tg_1_4, tg_1_7, tg_1_8, tg_1_9, tg_8_3, tg_9_4, gv_1_0, gv_1_2, gv_1_4, gv_1_7, gv_1_8, gv_1_9, gv_1_10, gv_1_13, gv_2_3, gv_215_4, gv_213_1, gv_0_0, gv_0_1, gv_0_2, gv_0_7, xD1, xD2, xD3, xD4, xD5, xD6, xb1_0, w10, sw] at g
    obtain ⟨r, H2, ⟨rfl, rfl⟩, g2⟩ := xc_use g (sp_X9_linesThatAre (-2) (S 0) H1 ok0.1 cq.1.1 t)
    exact ⟨_, _, g2, by rw [w10]; unfold isQ; rw [if_pos (by decide)]; rfl, cq⟩
  by_cases w11 : w = 11
  · have sw := sw_X11_is_11
    simp (maxDischargeDepth := 12) -implicitDefEqProofs [vb_X11_is_0, vb_X11_is_80, vb_X11_is_88, vb_X11_is_96, vb_X11_is_107, vb_X11_is_115, vb_X11_is_123, vb_X11_is_131, vb_X11_is_139, vb_X11_is_144, vb_X11_is_152, vb_X11_is_161, vb_X11_is_171, vb_X11_is_181, vb_X11_is_189, vb_X11_is_197, xI_0, xI_1, xI_7, xI_8, xI_49, xI_61, xI_62, xI_103, xw_X11_is_0, xw_X11_is_80, xw_X11_is_88, xw_X11_is_96, xw_X11_is_107, xw_X11_is_115, xw_X11_is_123, xw_X11_is_131, xw_X11_is_139, xw_X11_is_144, xw_X11_is_152, xw_X11_is_161, xw_X11_is_171, xw_X11_is_181, xw_X11_is_189, xw_X11_is_197, zw_lit, xB_c, xB_s, xB_n, i1_c, j2_c, k1_c, jJ_e, xlg, xls, xla, xpd, ppush, zw_m1, zw_m2, zw_m3, gf_1_0, gf_1_2, gf_1_4, gf_1_7, gf_1_8, gf_1_9, gf_1_10, gf_1_13, gf_8_3, gf_9_4, gf_10_1, gf_11_0, gf_11_1, gf_11_2, gf_11_7, tg_10_1, tg_11_0, tg_11_1, tg_11_2, tg_11_7, tg_1_0, tg_1_10, tg_1_13, tg_1_2, tg_1_4, tg_1_7, tg_1_8, tg_1_9, tg_8_3, tg_9_4, gv_1_0, gv_1_2, gv_1_4, gv_1_7, gv_1_8, gv_1_9, gv_1_10, gv_1_13, gv_2_3, gv_215_4, gv_213_1, gv_0_0, gv_0_1, gv_0_2, gv_0_7, xD1, xD2, xD3, xD4, xD5, xD6, xb1_0, w11, sw] at g
    obtain ⟨r, H2, ⟨rfl, rfl⟩, g2⟩ := xc_use g (sp_X9_linesThatAre (-3) (S 0) H1 ok0.1 cq.1.1 t)
    exact ⟨_, _, g2, by rw [w11]; unfold isQ; rw [if_pos (by decide)]; rfl, cq⟩
  have sw := sw_X11_is_d (x := w) (by omega)
  simp (maxDischargeDepth := 12) -implicitDefEqProofs [vb_X11_is_0, vb_X11_is_80, vb_X11_is_88, vb_X11_is_96, vb_X11_is_107, vb_X11_is_115, vb_X11_is_123, vb_X11_is_131, vb_X11_is_139, vb_X11_is_144, vb_X11_is_152, vb_X11_is_161, vb_X11_is_171, vb_X11_is_181, vb_X11_is_189, vb_X11_is_197, xI_0, xI_1, xI_7, xI_8, xI_49, xI_61, xI_62, xI_103, xw_X11_is_0, xw_X11_is_80, xw_X11_is_88, xw_X11_is_96, xw_X11_is_107, xw_X11_is_115, xw_X11_is_123, xw_X11_is_131, xw_X11_is_139, xw_X11_is_144, xw_X11_is_152, xw_X11_is_161, xw_X11_is_171, xw_X11_is_181, xw_X11_is_189, xw_X11_is_197, zw_lit, xB_c, xB_s, xB_n, i1_c, j2_c, k1_c, jJ_e, xlg, xls, xla, xpd, ppush, zw_m1, zw_m2, zw_m3, gf_1_0, gf_1_2, gf_1_4, gf_1_7, gf_1_8, gf_1_9, gf_1_10, gf_1_13, gf_8_3, gf_9_4, gf_10_1, gf_11_0, gf_11_1, gf_11_2, gf_11_7, tg_10_1, tg_11_0, tg_11_1, tg_11_2, tg_11_7, tg_1_0, tg_1_10, tg_1_13, tg_1_2, tg_1_4, tg_1_7, tg_1_8, tg_1_9, tg_8_3, tg_9_4, gv_1_0, gv_1_2, gv_1_4, gv_1_7, gv_1_8, gv_1_9, gv_1_10, gv_1_13, gv_2_3, gv_215_4, gv_213_1, gv_0_0, gv_0_1, gv_0_2, gv_0_7, xD1, xD2, xD3, xD4, xD5, xD6, xb1_0, sw] at g
  exact ⟨_, _, g, by unfold isQ; rw [if_neg (by omega)], cq⟩
