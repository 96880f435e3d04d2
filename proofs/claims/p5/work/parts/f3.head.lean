/-! ===== the head of the loop ===== -/
theorem swc0 : ∀ n, n < 64 → (List.any [208, 271, 294, 307, 320, 333, 356, 389, 422, 455, 478, 501, 534, 567, 600, 623, 646, 689, 732, 765, 788, 811, 834, 857, 890, 923, 946, 979, 1012, 1045, 1068, 1091, 1124, 1157, 1180, 1203, 1226, 1249, 1262, 1275, 1298] (fun t => decide (ptsw 33 1265 0 39 #[175, 238, 261, 274, 287, 300, 323, 356, 389, 422, 445, 468, 501, 534, 567, 590, 613, 656, 699, 732, 755, 778, 801, 824, 857, 890, 913, 946, 979, 1012, 1035, 1058, 1091, 1124, 1147, 1170, 1193, 1216, 1229, 1242] ((n : Nat) : Int) = some t))) = true := by decide +kernel
theorem swc {y : Int} (y0 : 0 ≤ y) (y1 : y ≤ 63) {K : Nat → Prop} (hK : ∀ t ∈ ([208, 271, 294, 307, 320, 333, 356, 389, 422, 455, 478, 501, 534, 567, 600, 623, 646, 689, 732, 765, 788, 811, 834, 857, 890, 923, 946, 979, 1012, 1045, 1068, 1091, 1124, 1157, 1180, 1203, 1226, 1249, 1262, 1275, 1298] : List Nat), K t) : ∃ t, ptsw 33 1265 0 39 #[175, 238, 261, 274, 287, 300, 323, 356, 389, 422, 445, 468, 501, 534, 567, 590, 613, 656, 699, 732, 755, 778, 801, 824, 857, 890, 913, 946, 979, 1012, 1035, 1058, 1091, 1124, 1147, 1170, 1193, 1216, 1229, 1242] y = some t ∧ (¬ t = 208 → K t) ∧ (t = 208 → K 208) := by
  have h := swc0 y.toNat (by omega)
  rw [List.any_eq_true] at h
  obtain ⟨t, ht, e⟩ := h
  have e := decide_eq_true_iff.mp e
  rw [show ((y.toNat : Nat) : Int) = y by omega] at e
  exact ⟨t, e, fun _ => hK t ht, fun q => by rw [← q]; exact hK t ht⟩
set_option maxRecDepth 20000 in
set_option maxHeartbeats 4000000 in
theorem lw_18 {G : zG} {us : Nat} {g : Nat → Nat → Int} {L : Nat} {X : Int → Int} (hG : SCR G L X) (hL : L ≤ 3072) : ∀ (n : Nat) (i : Int) (ls : PL) (H : PH), ((L : Int) - i).toNat < n → 0 ≤ i → i ≤ L → pget ls 0 = some (2, -1) → pget ls 1 = some (2, 0) → pget ls 2 = some (2, 590) → pget ls 3 = some (0, i) → TI g H → REL H → Tr G us kd_L_law 33 (zget kd_L_law 18) 18 ls [] H (fun r _ => r = some (0, 1)) := by
  intro n
  induction n with
  | zero => intros; omega
  | succ n ih =>
    intro i ls H hn i0 iL l0 l1 l2 l3 hT hs
    have z6 : zw ((L : Int) - 6) = (L : Int) - 6 := zw_lit (by omega) (by omega)
    refine tr_labL (D := 32) (t := 18) hG lb_18 _ le_18 ?_
    simp (maxDischargeDepth := 12) [lb_18, z6, wBL, wL, wI, k1, kI, kR, kL, k2, pget, parg, ppush, pcat, zw_lit, zw_m1, zw_m2, zw_m3, zNC_eq, zrow, pget_pss, pget_psx, nlg_some, nlg_none, sh_0, sh_590, l0, l1, l2, l3]
    repeat' (with_reducible (first | (refine And.intro ?_ ?_) | intro _))
    all_goals try (refine tr_labL (D := 32) (t := 1304) hG lb_1304 _ le_1304 ?_; simp (maxDischargeDepth := 12) [lb_1304, wBL, wL, wI, k1, kI, kR, kL, k2, pget, parg, ppush, pcat, zw_lit, zw_m1, zw_m2, zw_m3, zNC_eq, zrow, pget_pss, pget_psx, nlg_some, nlg_none, sh_0, sh_590, l0, l1, l2, l3])
    all_goals try (refine swc (q2_and (by omega) (by omega)).1 (q2_and (by omega) (by omega)).2 (K := fun t => Tr G us kd_L_law 33 (zget kd_L_law t) t ls [] H (fun r _ => r = some (0, 1))) ?_)
    all_goals try (
      intro t ht
      have i1 : i + 6 ≤ L := by omega
      have ihx : ∀ (ls : PL) (H : PH), pget ls 0 = some (2, -1) → pget ls 1 = some (2, 0) → pget ls 2 = some (2, 590) → pget ls 3 = some (0, i + 6) → TI g H → REL H → Tr G us kd_L_law 33 (zget kd_L_law 18) 18 ls [] H (fun r _ => r = some (0, 1)) := fun ls H a b c d e f => ih (i + 6) ls H (by omega) (by omega) (by omega) a b c d e f
      rcases List.mem_cons.mp ht with rfl | ht
      · exact lc_feed hG hL i i0 i1 ihx ls H l0 l1 l2 l3 hT hs
      rcases List.mem_cons.mp ht with rfl | ht
      · exact lc_end hG hL i i0 i1 ihx ls H l0 l1 l2 l3 hT hs
      rcases List.mem_cons.mp ht with rfl | ht
      · exact lc_text hG hL i i0 i1 ihx ls H l0 l1 l2 l3 hT hs
      rcases List.mem_cons.mp ht with rfl | ht
      · exact lc_law hG hL i i0 i1 ihx ls H l0 l1 l2 l3 hT hs
      rcases List.mem_cons.mp ht with rfl | ht
      · exact lc_fault hG hL i i0 i1 ihx ls H l0 l1 l2 l3 hT hs
      rcases List.mem_cons.mp ht with rfl | ht
      · exact lc_is hG hL i i0 i1 ihx ls H l0 l1 l2 l3 hT hs
      rcases List.mem_cons.mp ht with rfl | ht
      · exact lc_bill hG hL i i0 i1 ihx ls H l0 l1 l2 l3 hT hs
      rcases List.mem_cons.mp ht with rfl | ht
      · exact lc_line hG hL i i0 i1 ihx ls H l0 l1 l2 l3 hT hs
      rcases List.mem_cons.mp ht with rfl | ht
      · exact lc_apart hG hL i i0 i1 ihx ls H l0 l1 l2 l3 hT hs
      rcases List.mem_cons.mp ht with rfl | ht
      · exact lc_read hG hL i i0 i1 ihx ls H l0 l1 l2 l3 hT hs
      rcases List.mem_cons.mp ht with rfl | ht
      · exact lc_least hG hL i i0 i1 ihx ls H l0 l1 l2 l3 hT hs
      rcases List.mem_cons.mp ht with rfl | ht
      · exact lc_heap hG hL i i0 i1 ihx ls H l0 l1 l2 l3 hT hs
      rcases List.mem_cons.mp ht with rfl | ht
      · exact lc_tally hG hL i i0 i1 ihx ls H l0 l1 l2 l3 hT hs
      rcases List.mem_cons.mp ht with rfl | ht
      · exact lc_brought hG hL i i0 i1 ihx ls H l0 l1 l2 l3 hT hs
      rcases List.mem_cons.mp ht with rfl | ht
      · exact lc_matched hG hL i i0 i1 ihx ls H l0 l1 l2 l3 hT hs
      rcases List.mem_cons.mp ht with rfl | ht
      · exact lc_best hG hL i i0 i1 ihx ls H l0 l1 l2 l3 hT hs
      rcases List.mem_cons.mp ht with rfl | ht
      · exact lc_remark hG hL i i0 i1 ihx ls H l0 l1 l2 l3 hT hs
      rcases List.mem_cons.mp ht with rfl | ht
      · exact lc_remarked hG hL i i0 i1 ihx ls H l0 l1 l2 l3 hT hs
      rcases List.mem_cons.mp ht with rfl | ht
      · exact lc_claim hG hL i i0 i1 ihx ls H l0 l1 l2 l3 hT hs
      rcases List.mem_cons.mp ht with rfl | ht
      · exact lc_limit hG hL i i0 i1 ihx ls H l0 l1 l2 l3 hT hs
      rcases List.mem_cons.mp ht with rfl | ht
      · exact lc_far hG hL i i0 i1 ihx ls H l0 l1 l2 l3 hT hs
      rcases List.mem_cons.mp ht with rfl | ht
      · exact lc_pack hG hL i i0 i1 ihx ls H l0 l1 l2 l3 hT hs
      rcases List.mem_cons.mp ht with rfl | ht
      · exact lc_paid hG hL i i0 i1 ihx ls H l0 l1 l2 l3 hT hs
      rcases List.mem_cons.mp ht with rfl | ht
      · exact lc_against hG hL i i0 i1 ihx ls H l0 l1 l2 l3 hT hs
      rcases List.mem_cons.mp ht with rfl | ht
      · exact lc_hold hG hL i i0 i1 ihx ls H l0 l1 l2 l3 hT hs
      rcases List.mem_cons.mp ht with rfl | ht
      · exact lc_close hG hL i i0 i1 ihx ls H l0 l1 l2 l3 hT hs
      rcases List.mem_cons.mp ht with rfl | ht
      · exact lc_blame hG hL i i0 i1 ihx ls H l0 l1 l2 l3 hT hs
      rcases List.mem_cons.mp ht with rfl | ht
      · exact lc_worn hG hL i i0 i1 ihx ls H l0 l1 l2 l3 hT hs
      rcases List.mem_cons.mp ht with rfl | ht
      · exact lc_twin hG hL i i0 i1 ihx ls H l0 l1 l2 l3 hT hs
      rcases List.mem_cons.mp ht with rfl | ht
      · exact lc_shed hG hL i i0 i1 ihx ls H l0 l1 l2 l3 hT hs
      rcases List.mem_cons.mp ht with rfl | ht
      · exact lc_days hG hL i i0 i1 ihx ls H l0 l1 l2 l3 hT hs
      rcases List.mem_cons.mp ht with rfl | ht
      · exact lc_rate hG hL i i0 i1 ihx ls H l0 l1 l2 l3 hT hs
      rcases List.mem_cons.mp ht with rfl | ht
      · exact lc_deliver hG hL i i0 i1 ihx ls H l0 l1 l2 l3 hT hs
      rcases List.mem_cons.mp ht with rfl | ht
      · exact lc_gone hG hL i i0 i1 ihx ls H l0 l1 l2 l3 hT hs
      rcases List.mem_cons.mp ht with rfl | ht
      · exact lc_settled hG hL i i0 i1 ihx ls H l0 l1 l2 l3 hT hs
      rcases List.mem_cons.mp ht with rfl | ht
      · exact lc_cure hG hL i i0 i1 ihx ls H l0 l1 l2 l3 hT hs
      rcases List.mem_cons.mp ht with rfl | ht
      · exact lc_strike hG hL i i0 i1 ihx ls H l0 l1 l2 l3 hT hs
      rcases List.mem_cons.mp ht with rfl | ht
      · exact lc_back hG hL i i0 i1 ihx ls H l0 l1 l2 l3 hT hs
      rcases List.mem_cons.mp ht with rfl | ht
      · exact lc_write hG hL i i0 i1 ihx ls H l0 l1 l2 l3 hT hs
      rcases List.mem_cons.mp ht with rfl | ht
      · exact lc_octet hG hL i i0 i1 ihx ls H l0 l1 l2 l3 hT hs
      rcases List.mem_cons.mp ht with rfl | ht
      · exact lw_1298 hG hL i i0 i1 ihx ls H l0 l1 l2 l3 hT hs
      · cases ht)
    all_goals (first | omega | rfl | skip)
