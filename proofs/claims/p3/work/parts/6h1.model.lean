theorem lwN_eq {T : Int → Int} {z : Int} : (lwAll T z = none → lwN T z = -1) ∧ ∀ a b, lwAll T z = some (a, b) → lwN T z = a := by
  unfold lwN
  refine ⟨fun h => by rw [h], fun a b h => by rw [h]⟩

/-! ===== the model reads the law: things, the whole, the deed ===== -/
theorem ca_nmF {G : zG} {us : Nat} (c : Int) (H : PH) : Ca G us 1 184 [(0, c)] H (fun r H' => H = H' ∧ ∃ z, r = some (0, z) ∧ -1 ≤ z ∧ z ≤ 2 ∧ ((c = 115 ∧ z = 0) ∨ (c = 111 ∧ z = 1) ∨ (c = 99 ∧ z = 2) ∨ ((¬ c = 115 ∧ ¬ c = 111 ∧ ¬ c = 99) ∧ z = -1))) :=
  Ca_mono (Nat.le_refl _) (fun r H' q => ⟨q.1, _, q.2, by split <;> (try split) <;> (try split) <;> omega, by split <;> (try split) <;> (try split) <;> omega, by split <;> (try split) <;> (try split) <;> omega⟩) (ca_X12_nameOf c H)
theorem ca_dgK {G : zG} {us : Nat} {g : Nat → Nat → Int} (R : Option (Int × List Int)) (t : Int) (H : PH) (hW0 : WT 2 g H) (hW : WT 2 g (pup H 590 11 (t + 1))) (ht : H 590 11 = t) (t1 : t ≤ 29) (o0 : 0 ≤ H 590 14) (o7 : H 590 14 ≤ 7) (hn : 0 ≤ H 590 10) (hf : H 590 6 = -1) (hD : isD (hr H)) (hK : KE H R) : Ca G us 2 169 [(2, 590), (0, 4)] (pup H 590 11 (t + 1)) (fun r H' => (WT 2 g H' ∧ (∀ X : PH, frm [80, 81, 82, 6012, 7012, 8012, 11012, 12012, 15012] X (pup H 590 11 (t + 1)) → frm [80, 81, 82, 6012, 7012, 8012, 11012, 12012, 15012] X H') ∧ (∀ e w, LSt (pup H 590 11 (t + 1)) e w → LSt H' e w) ∧ H' 590 11 = t + 1 ∧ H' 590 4 = H 590 4 ∧ (r = some (0, 0) ∨ (r = some (0, 1) ∧ 0 ≤ H' 590 7 ∧ H' 590 7 ≤ 9999))) ∧ ((r = some (0, 0) ∧ R = none) ∨ (r = some (0, 1) ∧ GA (pup (pup H' 595 (H' 590 10) (H' 590 7)) 590 10 (H' 590 10 + 1)) R))) := by
  have t5 := rf_590_5 hW0
  have t4 := rf_590_4 hW0
  have hD' : isD (hr (pup H 590 11 (t + 1))) := by
    rw [hr_cg (H := H) (pup_r (by decide)) rfl rfl]
    exact hD
  refine Ca_mono (Nat.le_refl _) ?_ (Ca_and (ca_dg (g := g) _ hW) (ca_X12_readDigitsF 4 _ (by omega) t5.1 t4.2 t5.2 hD') (fun p H' q => by
    rcases q.2.2.2.2.2 with e | e
    · rw [Option.some.inj e]; exact Nat.zero_le 2
    · rw [Option.some.inj e.1]; exact Nat.zero_le 2) (fun p H' q => by
    obtain ⟨a, v, q1, q2⟩ := q
    rcases q2 with e | e
    · rw [Option.some.inj e.2]; exact Nat.zero_le 2
    · rw [Option.some.inj e.2.1]; exact Nat.zero_le 2))
  rintro r H' ⟨q, a, v, q1, q2⟩
  refine ⟨q, ?_⟩
  have et : TM (pup H 590 11 (t + 1)) = TM H := TM_cg (pup_r (by decide))
  rw [et] at q1 q2
  have key := KE_dig (a := a) (v := v) t5.1 (by omega) o0 o7 hD q1 hK
  rcases q2 with ⟨e1, e2⟩ | ⟨e1, e2, e3⟩
  · exact Or.inl ⟨e2, key.1 e1⟩
  · refine Or.inr ⟨e2, ?_⟩
    rw [e3]
    refine ⟨hf, ?_⟩
    have k2 := key.2 e1
    exact KA_val (H := H) (a := a) hn (by rw [pup_r (by decide), pup_r (by decide), pup_r (by decide)]) (by rw [pup_r (by decide), pup_r (by decide), pup_r (by decide)]) (by rw [pup_r (by decide), pup_r (by decide), pup_r (by decide)]) (by rw [pup_r (by decide), pup_r (by decide), pup_r (by decide)]) rfl rfl (by show t + 1 = H 590 11 + 1; omega) rfl rfl k2

set_option maxRecDepth 20000 in
set_option maxHeartbeats 4000000 in
theorem sg_X12_readThing_64F {G : zG} {us : Nat} {g : Nat → Nat → Int} (H0 : PH) (R : Option (Int × List Int)) (c t : Int) (t0 : 0 ≤ t) (t1 : t ≤ 29)  : ∀ (ls : PL) (H : PH), pget ls 0 = some (2, 590) → pget ls 1 = some (0, c) → WT 2 g H → frm [80, 81, 82, 6012, 7012, 8012, 11012, 12012, 15012] H0 H → H 590 4 = H0 590 4 → LSt H 0 0 → H 590 11 = t → H 590 14 ≤ 7 → H 590 5 < H 590 4 → KF H R → hr H = c → isD c ∨ c = 40 ∨ c = 115 ∨ c = 111 ∨ c = 99 → Tr G us kd_X12_readThing 3 (zget kd_X12_readThing 64) 64 ls [] H (fun r H' => WT 2 g H' ∧ frm [80, 81, 82, 6012, 7012, 8012, 11012, 12012, 15012] H0 H' ∧ H' 590 4 = H0 590 4 ∧ ((r = some (0, -1) ∧ (∃ d, LN H' d) ∧ R = none) ∨ (H' 590 11 = t + 1 ∧ ((r = some (0, 0) ∧ LSt H' 0 0 ∧ KF H' R) ∨ (r = some (0, 1) ∧ LSt H' 1 0 ∧ GA H' R))))) := by
  intro ls H  l0 l1 hW hF f4 hL ht h14 hat hK hc hmay
  have h5 := rf_590_5 hW
  have h4 := rf_590_4 hW
  have hn := LSt_n hL (by omega) (by omega)
  have ho := hL.1
  have z11 : zw (t + 1) = t + 1 := zw_lit (by omega) (by omega)
  have z5 : zw (H 590 5 + 1) = H 590 5 + 1 := zw_lit (by omega) (by omega)
  have hm : LSt (pup H 590 11 (t + 1)) 0 2 := by
    have := LSt_more hL (by omega)
    rw [ht] at this
    exact this
  have hn2 : 0 ≤ pup H 590 11 (t + 1) 590 10 ∧ pup H 590 11 (t + 1) 590 10 ≤ 58 := by
    have := LSt_n hm (by omega) (by omega)
    omega
  have hm5 : LSt (pup (pup H 590 11 (t + 1)) 590 5 (H 590 5 + 1)) 0 2 := LSt_at hm (by omega)
  have hv : ∀ x : Int, x < 11000 → LSt (pup (pup (pup (pup H 590 11 (t + 1)) 590 5 (H 590 5 + 1)) 595 (H 590 10) x) 590 10 (H 590 10 + 1)) 1 0 := fun x hx => LSt_val hm5 hx
  have hopK : hr H = 40 → KF (pup (pup (pup (pup (pup H 590 11 (t + 1)) 590 5 (H 590 5 + 1)) 590 14 (H 590 14 + 1)) 596 (H 590 14 + 1) 0) 597 (H 590 14 + 1) 0) R := fun q => ⟨hK.1, by
    have := KE_par h5.1 (by omega) ho.1 h14 q hK.2
    rw [ht] at this
    exact this⟩
  have hvK : ∀ z : Int, ((c = 115 ∧ z = 0) ∨ (c = 111 ∧ z = 1) ∨ (c = 99 ∧ z = 2)) → GA (pup (pup (pup (pup H 590 11 (t + 1)) 590 5 (H 590 5 + 1)) 595 (H 590 10) (10000 + z)) 590 10 (H 590 10 + 1)) R := fun z q => ⟨hK.1, by
    have k := KE_let h5.1 (by omega) ho.1 h14 hK.2
    refine KA_val (H := H) (a := H 590 5 + 1) (H1 := pup (pup H 590 11 (t + 1)) 590 5 (H 590 5 + 1)) hn.1 (by rw [pup_r (by decide), pup_r (by decide)]) (by rw [pup_r (by decide), pup_r (by decide)]) (by rw [pup_r (by decide), pup_r (by decide)]) (by rw [pup_r (by decide), pup_r (by decide)]) rfl rfl (by show t + 1 = H 590 11 + 1; omega) rfl rfl ?_
    rcases q with ⟨q, rfl⟩ | ⟨q, rfl⟩ | ⟨q, rfl⟩
    · exact k.1 (hc.trans q)
    · exact k.2.1 (hc.trans q)
    · exact k.2.2 (hc.trans q)⟩
  have hop : H 590 14 ≤ 7 → LSt (pup (pup (pup (pup (pup H 590 11 (t + 1)) 590 5 (H 590 5 + 1)) 590 14 (H 590 14 + 1)) 596 (H 590 14 + 1) 0) 597 (H 590 14 + 1) 0) 0 0 := fun q => LSt_weak (LSt_open hm5 q) (by omega)
  have zo : zw (H 590 14 + 1) = H 590 14 + 1 := zw_lit (by omega) (by omega)
  refine tr_lab (D := 2) (t := 64) vb_X12_readThing_64 _ ve_X12_readThing_64 ?_
  simp (maxDischargeDepth := 12) [vb_X12_readThing_64, wB, wI, k1, kI, kR, kL, k2, pget, parg, ppush, pcat, zw_lit, zw_m1, zw_m2, zw_m3, zNC_eq, zrow, pup_app, pget_pss, pget_psx, nlg_some, nlg_none, gv_590_11, gv_590_12, gv_590_13, gv_590_14, gv_590_5, gv_590_7, pe, tg_12_11, tg_12_12, tg_12_13, tg_12_14, tg_12_5, tg_12_6, tg_12_7, zfit, zisI, sh_590, sh_596, sh_597, ht, z11, z5, zo, l0, l1]
  repeat' (with_reducible (first | (refine And.intro ?_ ?_) | intro _))
  all_goals try (refine Ca_use (ca_X12_isFigure _ _) (by omega) ?_; rintro _ _ ⟨rfl, rfl⟩; simp (maxDischargeDepth := 12) [wB, wI, k1, kI, kR, kL, k2, pget, parg, ppush, pcat, zw_lit, zw_m1, zw_m2, zw_m3, zNC_eq, zrow, pup_app, pget_pss, pget_psx, nlg_some, nlg_none, gv_590_11, gv_590_12, gv_590_13, gv_590_14, gv_590_5, gv_590_7, pe, tg_12_11, tg_12_12, tg_12_13, tg_12_14, tg_12_5, tg_12_6, tg_12_7, zfit, zisI, sh_590, sh_596, sh_597, ht, z11, z5, zo, l0, l1])
  all_goals repeat' (with_reducible (first | (refine And.intro ?_ ?_) | intro _))
  all_goals try (refine Ca_use (ca_dgK (g := g) R t H hW (wf_590_11 hW (by omega) (by omega)) ht (by omega) hL.1.1 h14 hn.1 hK.1 (by omega) hK.2) (by omega) ?_; rintro _ _ ⟨⟨hW2, hF2, hL2, e11, e4, hd0⟩, (⟨rfl, hRn⟩ | ⟨rfl, hGA⟩)⟩; simp (maxDischargeDepth := 12) [wB, wI, k1, kI, kR, kL, k2, pget, parg, ppush, pcat, zw_lit, zw_m1, zw_m2, zw_m3, zNC_eq, zrow, pup_app, pget_pss, pget_psx, nlg_some, nlg_none, gv_590_11, gv_590_12, gv_590_13, gv_590_14, gv_590_5, gv_590_7, pe, tg_12_11, tg_12_12, tg_12_13, tg_12_14, tg_12_5, tg_12_6, tg_12_7, zfit, zisI, sh_590, sh_596, sh_597, ht, z11, z5, zo, l0, l1])
  all_goals repeat' (with_reducible (first | (refine And.intro ?_ ?_) | intro _))
  all_goals try (refine tr_lab (D := 2) (t := 91) vb_X12_readThing_91 _ ve_X12_readThing_91 ?_; simp (maxDischargeDepth := 12) [vb_X12_readThing_91, wB, wI, k1, kI, kR, kL, k2, pget, parg, ppush, pcat, zw_lit, zw_m1, zw_m2, zw_m3, zNC_eq, zrow, pup_app, pget_pss, pget_psx, nlg_some, nlg_none, gv_590_11, gv_590_12, gv_590_13, gv_590_14, gv_590_5, gv_590_7, pe, tg_12_11, tg_12_12, tg_12_13, tg_12_14, tg_12_5, tg_12_6, tg_12_7, zfit, zisI, sh_590, sh_596, sh_597, ht, z11, z5, zo, l0, l1])
  all_goals repeat' (with_reducible (first | (refine And.intro ?_ ?_) | intro _))
  all_goals try (refine Ca_use (ca_X12_does _ _ (by (try simp [pup_app]); first | omega | (have := LSt_n (hL2 _ _ hm) (by omega) (by omega); omega)) (by (try simp [pup_app]); first | omega | (have := LSt_n (hL2 _ _ hm) (by omega) (by omega); omega))) (by omega) ?_; rintro _ _ ⟨rfl, rfl⟩; simp (maxDischargeDepth := 12) [wB, wI, k1, kI, kR, kL, k2, pget, parg, ppush, pcat, zw_lit, zw_m1, zw_m2, zw_m3, zNC_eq, zrow, pup_app, pget_pss, pget_psx, nlg_some, nlg_none, gv_590_11, gv_590_12, gv_590_13, gv_590_14, gv_590_5, gv_590_7, pe, tg_12_11, tg_12_12, tg_12_13, tg_12_14, tg_12_5, tg_12_6, tg_12_7, zfit, zisI, sh_590, sh_596, sh_597, ht, z11, z5, zo, l0, l1])
  all_goals repeat' (with_reducible (first | (refine And.intro ?_ ?_) | intro _))
  all_goals try (refine tr_lab (D := 2) (t := 101) vb_X12_readThing_101 _ ve_X12_readThing_101 ?_; simp (maxDischargeDepth := 12) [vb_X12_readThing_101, wB, wI, k1, kI, kR, kL, k2, pget, parg, ppush, pcat, zw_lit, zw_m1, zw_m2, zw_m3, zNC_eq, zrow, pup_app, pget_pss, pget_psx, nlg_some, nlg_none, gv_590_11, gv_590_12, gv_590_13, gv_590_14, gv_590_5, gv_590_7, pe, tg_12_11, tg_12_12, tg_12_13, tg_12_14, tg_12_5, tg_12_6, tg_12_7, zfit, zisI, sh_590, sh_596, sh_597, ht, z11, z5, zo, l0, l1])
  all_goals repeat' (with_reducible (first | (refine And.intro ?_ ?_) | intro _))
  all_goals try (refine Ca_use (ca_nmF _ _) (by omega) ?_; rintro _ _ ⟨rfl, z, rfl, hz1, hz2, hz3⟩; simp (maxDischargeDepth := 12) [wB, wI, k1, kI, kR, kL, k2, pget, parg, ppush, pcat, zw_lit, zw_m1, zw_m2, zw_m3, zNC_eq, zrow, pup_app, pget_pss, pget_psx, nlg_some, nlg_none, gv_590_11, gv_590_12, gv_590_13, gv_590_14, gv_590_5, gv_590_7, pe, tg_12_11, tg_12_12, tg_12_13, tg_12_14, tg_12_5, tg_12_6, tg_12_7, zfit, zisI, sh_590, sh_596, sh_597, ht, z11, z5, zo, l0, l1])
  all_goals repeat' (with_reducible (first | (refine And.intro ?_ ?_) | intro _))
  all_goals try (refine Ca_use (ca_X12_does _ _ (by (try simp [pup_app]); first | omega | (have := LSt_n (hL2 _ _ hm) (by omega) (by omega); omega)) (by (try simp [pup_app]); first | omega | (have := LSt_n (hL2 _ _ hm) (by omega) (by omega); omega))) (by omega) ?_; rintro _ _ ⟨rfl, rfl⟩; simp (maxDischargeDepth := 12) [wB, wI, k1, kI, kR, kL, k2, pget, parg, ppush, pcat, zw_lit, zw_m1, zw_m2, zw_m3, zNC_eq, zrow, pup_app, pget_pss, pget_psx, nlg_some, nlg_none, gv_590_11, gv_590_12, gv_590_13, gv_590_14, gv_590_5, gv_590_7, pe, tg_12_11, tg_12_12, tg_12_13, tg_12_14, tg_12_5, tg_12_6, tg_12_7, zfit, zisI, sh_590, sh_596, sh_597, ht, z11, z5, zo, l0, l1])
  all_goals repeat' (with_reducible (first | (refine And.intro ?_ ?_) | intro _))
  all_goals try (refine tr_lab (D := 2) (t := 131) vb_X12_readThing_131 _ ve_X12_readThing_131 ?_; simp (maxDischargeDepth := 12) [vb_X12_readThing_131, wB, wI, k1, kI, kR, kL, k2, pget, parg, ppush, pcat, zw_lit, zw_m1, zw_m2, zw_m3, zNC_eq, zrow, pup_app, pget_pss, pget_psx, nlg_some, nlg_none, gv_590_11, gv_590_12, gv_590_13, gv_590_14, gv_590_5, gv_590_7, pe, tg_12_11, tg_12_12, tg_12_13, tg_12_14, tg_12_5, tg_12_6, tg_12_7, zfit, zisI, sh_590, sh_596, sh_597, ht, z11, z5, zo, l0, l1])
  all_goals repeat' (with_reducible (first | (refine And.intro ?_ ?_) | intro _))
  all_goals (first | omega | assumption | (exact hopK (by omega)) | (exact hGA) | (exact hRn) | (exact hvK _ (by omega)) | (rw [zw_lit (by omega) (by omega)]; exact hvK _ (by omega)) | (exact Or.inl ⟨rfl, _, (hL2 _ _ hm).2.2.1⟩) | (exact Or.inr ⟨e11, Or.inr ⟨rfl, LSt_val (hL2 _ _ hm) (by omega)⟩⟩) | (exact Or.inr ⟨rfl, Or.inr ⟨rfl, hv _ (by omega)⟩⟩) | (exact Or.inr ⟨rfl, Or.inl ⟨rfl, hop (by omega)⟩⟩) | (exact ⟨_, (hL2 _ _ hm).2.2.1⟩) | (exact LSt_val (hL2 _ _ hm) (by omega)) | (exact hv _ (by omega)) | (exact hv _ (by rw [zw_lit (by omega) (by omega)]; omega)) | (exact hop (by omega)) | (have hn3 := LSt_n (hL2 _ _ hm) (by omega) (by omega); (repeat (first | assumption | (refine hF2 _ ?_) | exact frm_refl _ _ | (refine wa_595 ?_ (by omega) (by first | omega | exact zw_lo _ | exact zw_hi _) (by first | omega | exact zw_lo _ | exact zw_hi _)) | (refine wa_596 ?_ (by omega) (by first | omega | exact zw_lo _ | exact zw_hi _) (by first | omega | exact zw_lo _ | exact zw_hi _)) | (refine wa_597 ?_ (by omega) (by first | omega | exact zw_lo _ | exact zw_hi _) (by first | omega | exact zw_lo _ | exact zw_hi _)) | (refine wf_590_5 ?_ (by omega) (by omega)) | (refine wf_590_6 ?_ (by omega) (by omega)) | (refine wf_590_10 ?_ (by omega) (by omega)) | (refine wf_590_11 ?_ (by omega) (by omega)) | (refine wf_590_14 ?_ (by omega) (by omega)) | (refine fa_595 ?_ rfl) | (refine fa_596 ?_ rfl) | (refine fa_597 ?_ rfl) | (refine ff_590_5 ?_ rfl) | (refine ff_590_6 ?_ rfl) | (refine ff_590_10 ?_ rfl) | (refine ff_590_11 ?_ rfl) | (refine ff_590_14 ?_ rfl))); done) | (exact e4.trans f4) | ((repeat (first | assumption | (refine hF2 _ ?_) | exact frm_refl _ _ | (refine wa_595 ?_ (by omega) (by first | omega | exact zw_lo _ | exact zw_hi _) (by first | omega | exact zw_lo _ | exact zw_hi _)) | (refine wa_596 ?_ (by omega) (by first | omega | exact zw_lo _ | exact zw_hi _) (by first | omega | exact zw_lo _ | exact zw_hi _)) | (refine wa_597 ?_ (by omega) (by first | omega | exact zw_lo _ | exact zw_hi _) (by first | omega | exact zw_lo _ | exact zw_hi _)) | (refine wf_590_5 ?_ (by omega) (by omega)) | (refine wf_590_6 ?_ (by omega) (by omega)) | (refine wf_590_10 ?_ (by omega) (by omega)) | (refine wf_590_11 ?_ (by omega) (by omega)) | (refine wf_590_14 ?_ (by omega) (by omega)) | (refine fa_595 ?_ rfl) | (refine fa_596 ?_ rfl) | (refine fa_597 ?_ rfl) | (refine ff_590_5 ?_ rfl) | (refine ff_590_6 ?_ rfl) | (refine ff_590_10 ?_ rfl) | (refine ff_590_11 ?_ rfl) | (refine ff_590_14 ?_ rfl))); done) | ((repeat (first | assumption | (refine LSt_at ?_ (by omega)) | (refine LN_at ?_ (by omega)))); done) | decide | skip)

set_option maxRecDepth 20000 in
set_option maxHeartbeats 4000000 in
theorem ca_X12_readThingF {G : zG} {us : Nat} {g : Nat → Nat → Int}  (H : PH) (R : Option (Int × List Int)) (hW : WT 2 g H) (hL : LSt H 0 0) (hK : KF H R) : Ca G us 3 185 [(2, 590)] H (fun r H' => WT 2 g H' ∧ frm [80, 81, 82, 6012, 7012, 8012, 11012, 12012, 15012] H H' ∧ H' 590 4 = H 590 4 ∧ ((r = some (0, -1) ∧ (∃ d, LN H' d) ∧ R = none) ∨ (H' 590 11 = H 590 11 + 1 ∧ ((r = some (0, 0) ∧ LSt H' 0 0 ∧ KF H' R) ∨ (r = some (0, 1) ∧ LSt H' 1 0 ∧ GA H' R))))) := by
  have h5 := rf_590_5 hW
  have h4 := rf_590_4 hW
  have hl := hL.2.2.2.2
  have ho := hL.1
  refine ⟨_, _, _, _, _, _, vm_X12_readThing, by simp [pcat], ?_⟩
  refine tr_lab (D := 2) (t := 0) vb_X12_readThing_0 _ ve_X12_readThing_0 ?_
  simp (maxDischargeDepth := 12) [vb_X12_readThing_0, wB, wI, k1, kI, kR, kL, k2, pget, parg, ppush, pcat, zw_lit, zw_m1, zw_m2, zw_m3, zNC_eq, zrow, pup_app, pget_pss, pget_psx, nlg_some, nlg_none, gv_590_11, gv_590_12, gv_590_13, gv_590_14, gv_590_5, gv_590_7, pe, tg_12_11, tg_12_12, tg_12_13, tg_12_14, tg_12_5, tg_12_6, tg_12_7, zfit, zisI, sh_590]
  repeat' (with_reducible (first | (refine And.intro ?_ ?_) | intro _))
  all_goals try (refine Ca_use (ca_X12_here _ (by (try simp [pup_app]); omega) (by (try simp [pup_app]); omega)) (by omega) ?_; rintro _ _ ⟨rfl, rfl, hx⟩; simp (maxDischargeDepth := 12) [wB, wI, k1, kI, kR, kL, k2, pget, parg, ppush, pcat, zw_lit, zw_m1, zw_m2, zw_m3, zNC_eq, zrow, pup_app, pget_pss, pget_psx, nlg_some, nlg_none, gv_590_11, gv_590_12, gv_590_13, gv_590_14, gv_590_5, gv_590_7, pe, tg_12_11, tg_12_12, tg_12_13, tg_12_14, tg_12_5, tg_12_6, tg_12_7, zfit, zisI, sh_590])
  all_goals repeat' (with_reducible (first | (refine And.intro ?_ ?_) | intro _))
  all_goals try (refine Ca_use (ca_X12_isFigure _ _) (by omega) ?_; rintro _ _ ⟨rfl, rfl⟩; simp (maxDischargeDepth := 12) [wB, wI, k1, kI, kR, kL, k2, pget, parg, ppush, pcat, zw_lit, zw_m1, zw_m2, zw_m3, zNC_eq, zrow, pup_app, pget_pss, pget_psx, nlg_some, nlg_none, gv_590_11, gv_590_12, gv_590_13, gv_590_14, gv_590_5, gv_590_7, pe, tg_12_11, tg_12_12, tg_12_13, tg_12_14, tg_12_5, tg_12_6, tg_12_7, zfit, zisI, sh_590])
  all_goals repeat' (with_reducible (first | (refine And.intro ?_ ?_) | intro _))
  all_goals try (refine Ca_use (ca_nmF _ _) (by omega) ?_; rintro _ _ ⟨rfl, z, rfl, hz1, hz2, hz3⟩; simp (maxDischargeDepth := 12) [wB, wI, k1, kI, kR, kL, k2, pget, parg, ppush, pcat, zw_lit, zw_m1, zw_m2, zw_m3, zNC_eq, zrow, pup_app, pget_pss, pget_psx, nlg_some, nlg_none, gv_590_11, gv_590_12, gv_590_13, gv_590_14, gv_590_5, gv_590_7, pe, tg_12_11, tg_12_12, tg_12_13, tg_12_14, tg_12_5, tg_12_6, tg_12_7, zfit, zisI, sh_590])
  all_goals repeat' (with_reducible (first | (refine And.intro ?_ ?_) | intro _))
  all_goals try (refine tr_lab (D := 2) (t := 26) vb_X12_readThing_26 _ ve_X12_readThing_26 ?_; simp (maxDischargeDepth := 12) [vb_X12_readThing_26, wB, wI, k1, kI, kR, kL, k2, pget, parg, ppush, pcat, zw_lit, zw_m1, zw_m2, zw_m3, zNC_eq, zrow, pup_app, pget_pss, pget_psx, nlg_some, nlg_none, gv_590_11, gv_590_12, gv_590_13, gv_590_14, gv_590_5, gv_590_7, pe, tg_12_11, tg_12_12, tg_12_13, tg_12_14, tg_12_5, tg_12_6, tg_12_7, zfit, zisI, sh_590])
  all_goals repeat' (with_reducible (first | (refine And.intro ?_ ?_) | intro _))
  all_goals try (refine tr_lab (D := 2) (t := 30) vb_X12_readThing_30 _ ve_X12_readThing_30 ?_; simp (maxDischargeDepth := 12) [vb_X12_readThing_30, wB, wI, k1, kI, kR, kL, k2, pget, parg, ppush, pcat, zw_lit, zw_m1, zw_m2, zw_m3, zNC_eq, zrow, pup_app, pget_pss, pget_psx, nlg_some, nlg_none, gv_590_11, gv_590_12, gv_590_13, gv_590_14, gv_590_5, gv_590_7, pe, tg_12_11, tg_12_12, tg_12_13, tg_12_14, tg_12_5, tg_12_6, tg_12_7, zfit, zisI, sh_590])
  all_goals repeat' (with_reducible (first | (refine And.intro ?_ ?_) | intro _))
  all_goals try (refine tr_lab (D := 2) (t := 31) vb_X12_readThing_31 _ ve_X12_readThing_31 ?_; simp (maxDischargeDepth := 12) [vb_X12_readThing_31, wB, wI, k1, kI, kR, kL, k2, pget, parg, ppush, pcat, zw_lit, zw_m1, zw_m2, zw_m3, zNC_eq, zrow, pup_app, pget_pss, pget_psx, nlg_some, nlg_none, gv_590_11, gv_590_12, gv_590_13, gv_590_14, gv_590_5, gv_590_7, pe, tg_12_11, tg_12_12, tg_12_13, tg_12_14, tg_12_5, tg_12_6, tg_12_7, zfit, zisI, sh_590])
  all_goals repeat' (with_reducible (first | (refine And.intro ?_ ?_) | intro _))
  all_goals try (refine tr_lab (D := 2) (t := 54) vb_X12_readThing_54 _ ve_X12_readThing_54 ?_; simp (maxDischargeDepth := 12) [vb_X12_readThing_54, wB, wI, k1, kI, kR, kL, k2, pget, parg, ppush, pcat, zw_lit, zw_m1, zw_m2, zw_m3, zNC_eq, zrow, pup_app, pget_pss, pget_psx, nlg_some, nlg_none, gv_590_11, gv_590_12, gv_590_13, gv_590_14, gv_590_5, gv_590_7, pe, tg_12_11, tg_12_12, tg_12_13, tg_12_14, tg_12_5, tg_12_6, tg_12_7, zfit, zisI, sh_590])
  all_goals repeat' (with_reducible (first | (refine And.intro ?_ ?_) | intro _))
  all_goals try ((refine sg_X12_readThing_64F H R (hr H) (H 590 11) (by omega) (by omega) _ _ ?_ ?_ ?_ ?_ ?_ ?_ ?_ ?_ ?_ ?_ ?_ ?_) <;> (try simp (maxDischargeDepth := 12) [pget_pss, pget_psx, nlg_some, nlg_none, pget, pup_app]))
  all_goals (first | omega | assumption | (exact KE_no h5.1 hK.2 (by omega)) | (exact ⟨⟨_, LN_at hL.2.2.1 (by omega)⟩, KE_no h5.1 hK.2 (by omega)⟩) | (exact Or.inl ⟨rfl, ⟨_, LN_at hL.2.2.1 (by omega)⟩, KE_no h5.1 hK.2 (by omega)⟩) | (exact ⟨_, LN_at hL.2.2.1 (by omega)⟩) | rfl | ((repeat (first | assumption | (refine hF2 _ ?_) | exact frm_refl _ _ | (refine wa_595 ?_ (by omega) (by first | omega | exact zw_lo _ | exact zw_hi _) (by first | omega | exact zw_lo _ | exact zw_hi _)) | (refine wa_596 ?_ (by omega) (by first | omega | exact zw_lo _ | exact zw_hi _) (by first | omega | exact zw_lo _ | exact zw_hi _)) | (refine wa_597 ?_ (by omega) (by first | omega | exact zw_lo _ | exact zw_hi _) (by first | omega | exact zw_lo _ | exact zw_hi _)) | (refine wf_590_5 ?_ (by omega) (by omega)) | (refine wf_590_6 ?_ (by omega) (by omega)) | (refine wf_590_10 ?_ (by omega) (by omega)) | (refine wf_590_11 ?_ (by omega) (by omega)) | (refine wf_590_14 ?_ (by omega) (by omega)) | (refine fa_595 ?_ rfl) | (refine fa_596 ?_ rfl) | (refine fa_597 ?_ rfl) | (refine ff_590_5 ?_ rfl) | (refine ff_590_6 ?_ rfl) | (refine ff_590_10 ?_ rfl) | (refine ff_590_11 ?_ rfl) | (refine ff_590_14 ?_ rfl))); done) | ((repeat (first | assumption | (refine LSt_at ?_ (by omega)) | (refine LN_at ?_ (by omega)))); done) | decide | skip)

theorem KF_init {H : PH} (hz : 0 < H 590 4) : KF (pup (pup (pup (pup (pup (pup (pup H 590 5 0) 590 6 (-1)) 590 10 0) 590 11 0) 590 14 0) 596 0 0) 597 0 0) (lwAll (TM H) (H 590 4)) := by
  refine ⟨rfl, ?_⟩
  unfold KE
  have et : TM (pup (pup (pup (pup (pup (pup (pup H 590 5 0) 590 6 (-1)) 590 10 0) 590 11 0) 590 14 0) 596 0 0) 597 0 0) = TM H := TM_cg (by rw [pup_r (by decide), pup_r (by decide), pup_r (by decide), pup_r (by decide), pup_r (by decide), pup_r (by decide), pup_r (by decide)])
  rw [et]
  exact kE_all hz (by rw [pup_r (c' := 596) (c := 597) (by decide)]; exact if_pos ⟨rfl, rfl⟩) (if_pos ⟨rfl, rfl⟩)
theorem EK_init {H : PH} (hz : H 590 4 ≤ 0) : EK (pup (pup (pup (pup (pup (pup (pup H 590 5 0) 590 6 (-1)) 590 10 0) 590 11 0) 590 14 0) 596 0 0) 597 0 0) (lwAll (TM H) (H 590 4)) := Or.inl ⟨rfl, if_pos hz⟩

set_option maxRecDepth 20000 in
set_option maxHeartbeats 4000000 in
theorem sg_X12_readLaw_52aF {G : zG} {us : Nat} {g : Nat → Nat → Int} (H0 : PH) (R : Option (Int × List Int)) (d : Int)  : ∀ (ls : PL) (H : PH), pget ls 0 = some (2, 590) → pget ls 1 = some (0, 0) → WT 2 g H → frm [80, 81, 82, 6012, 7012, 8012, 11012, 12012, 15012] H0 H → LN H d → EK H R → Tr G us kd_X12_readLaw 4 (zget kd_X12_readLaw 52) 52 ls [] H (fun r H' => ((r = some (0, 1) ∧ R = some (H' 590 11, cdM H')) ∨ (r = some (0, 0) ∧ R = none)) ∧ WT 2 g H' ∧ frm [80, 81, 82, 6012, 7012, 8012, 11012, 12012, 15012] H0 H' ∧ ∃ d, LN H' d) := by
  intro ls H  l0 l1 hW hF hN hE
  have hE1 : H 590 6 = -1 → R = some (H 590 11, cdM H) := fun q => by
    rcases hE with e | e
    · exact e.2
    · exact (e.1 q).elim
  have hE2 : ¬ H 590 6 = -1 → R = none := fun q => by
    rcases hE with e | e
    · exact (q e.1).elim
    · exact e.2
  refine tr_lab (D := 3) (t := 52) vb_X12_readLaw_52 _ ve_X12_readLaw_52 ?_
  simp (maxDischargeDepth := 12) [vb_X12_readLaw_52, wB, wI, k1, kI, kR, kL, k2, pget, parg, ppush, pcat, zw_lit, zw_m1, zw_m2, zw_m3, zNC_eq, zrow, pup_app, pget_pss, pget_psx, nlg_some, nlg_none, gv_590_12, gv_590_13, gv_590_4, gv_590_6, pe, tg_12_10, tg_12_11, tg_12_12, tg_12_13, tg_12_14, tg_12_4, tg_12_5, tg_12_6, zfit, zisI, sh_590, l0, l1]
  repeat' (with_reducible (first | (refine And.intro ?_ ?_) | intro _))
  all_goals try (refine Ca_use (ca_X12_readThing _ hW hL) (by omega) ?_; rintro _ _ _; simp (maxDischargeDepth := 12) [wB, wI, k1, kI, kR, kL, k2, pget, parg, ppush, pcat, zw_lit, zw_m1, zw_m2, zw_m3, zNC_eq, zrow, pup_app, pget_pss, pget_psx, nlg_some, nlg_none, gv_590_12, gv_590_13, gv_590_4, gv_590_6, pe, tg_12_10, tg_12_11, tg_12_12, tg_12_13, tg_12_14, tg_12_4, tg_12_5, tg_12_6, zfit, zisI, sh_590, l0, l1])
  all_goals repeat' (with_reducible (first | (refine And.intro ?_ ?_) | intro _))
  all_goals try (refine tr_lab (D := 3) (t := 88) vb_X12_readLaw_88 _ ve_X12_readLaw_88 ?_; simp (maxDischargeDepth := 12) [vb_X12_readLaw_88, wB, wI, k1, kI, kR, kL, k2, pget, parg, ppush, pcat, zw_lit, zw_m1, zw_m2, zw_m3, zNC_eq, zrow, pup_app, pget_pss, pget_psx, nlg_some, nlg_none, gv_590_12, gv_590_13, gv_590_4, gv_590_6, pe, tg_12_10, tg_12_11, tg_12_12, tg_12_13, tg_12_14, tg_12_4, tg_12_5, tg_12_6, zfit, zisI, sh_590, l0, l1])
  all_goals repeat' (with_reducible (first | (refine And.intro ?_ ?_) | intro _))
  all_goals try (refine tr_lab (D := 3) (t := 100) vb_X12_readLaw_100 _ ve_X12_readLaw_100 ?_; simp (maxDischargeDepth := 12) [vb_X12_readLaw_100, wB, wI, k1, kI, kR, kL, k2, pget, parg, ppush, pcat, zw_lit, zw_m1, zw_m2, zw_m3, zNC_eq, zrow, pup_app, pget_pss, pget_psx, nlg_some, nlg_none, gv_590_12, gv_590_13, gv_590_4, gv_590_6, pe, tg_12_10, tg_12_11, tg_12_12, tg_12_13, tg_12_14, tg_12_4, tg_12_5, tg_12_6, zfit, zisI, sh_590, l0, l1])
  all_goals repeat' (with_reducible (first | (refine And.intro ?_ ?_) | intro _))
  all_goals try (refine tr_lab (D := 3) (t := 101) vb_X12_readLaw_101 _ ve_X12_readLaw_101 ?_; simp (maxDischargeDepth := 12) [vb_X12_readLaw_101, wB, wI, k1, kI, kR, kL, k2, pget, parg, ppush, pcat, zw_lit, zw_m1, zw_m2, zw_m3, zNC_eq, zrow, pup_app, pget_pss, pget_psx, nlg_some, nlg_none, gv_590_12, gv_590_13, gv_590_4, gv_590_6, pe, tg_12_10, tg_12_11, tg_12_12, tg_12_13, tg_12_14, tg_12_4, tg_12_5, tg_12_6, zfit, zisI, sh_590, l0, l1])
  all_goals repeat' (with_reducible (first | (refine And.intro ?_ ?_) | intro _))
  all_goals (first | omega | assumption | (exact hE1 (by assumption)) | (exact hE2 (by assumption)) | (exact ⟨_, rfl⟩) | (exact ⟨_, hN⟩) | skip)

set_option maxRecDepth 20000 in
set_option maxHeartbeats 4000000 in
theorem sg_X12_readLaw_52bF {G : zG} {us : Nat} {g : Nat → Nat → Int} (H0 : PH) (R : Option (Int × List Int)) (T : Int) (ihx : ∀ (ls : PL) (H : PH), T < H 590 11 → pget ls 0 = some (2, 590) → pget ls 1 = some (0, 1) → WT 2 g H → frm [80, 81, 82, 6012, 7012, 8012, 11012, 12012, 15012] H0 H → LSt H 0 0 → KF H R → Tr G us kd_X12_readLaw 4 (zget kd_X12_readLaw 52) 52 ls [] H (fun r H' => ((r = some (0, 1) ∧ R = some (H' 590 11, cdM H')) ∨ (r = some (0, 0) ∧ R = none)) ∧ WT 2 g H' ∧ frm [80, 81, 82, 6012, 7012, 8012, 11012, 12012, 15012] H0 H' ∧ ∃ d, LN H' d))  : ∀ (ls : PL) (H : PH), pget ls 0 = some (2, 590) → pget ls 1 = some (0, 1) → H 590 11 = T → WT 2 g H → frm [80, 81, 82, 6012, 7012, 8012, 11012, 12012, 15012] H0 H → LSt H 0 0 → KF H R → Tr G us kd_X12_readLaw 4 (zget kd_X12_readLaw 52) 52 ls [] H (fun r H' => ((r = some (0, 1) ∧ R = some (H' 590 11, cdM H')) ∨ (r = some (0, 0) ∧ R = none)) ∧ WT 2 g H' ∧ frm [80, 81, 82, 6012, 7012, 8012, 11012, 12012, 15012] H0 H' ∧ ∃ d, LN H' d) := by
  intro ls H  l0 l1 hT hW hF hL hK
  refine tr_lab (D := 3) (t := 52) vb_X12_readLaw_52 _ ve_X12_readLaw_52 ?_
  simp (maxDischargeDepth := 12) [vb_X12_readLaw_52, wB, wI, k1, kI, kR, kL, k2, pget, parg, ppush, pcat, zw_lit, zw_m1, zw_m2, zw_m3, zNC_eq, zrow, pup_app, pget_pss, pget_psx, nlg_some, nlg_none, gv_590_12, gv_590_13, gv_590_4, gv_590_6, pe, tg_12_10, tg_12_11, tg_12_12, tg_12_13, tg_12_14, tg_12_4, tg_12_5, tg_12_6, zfit, zisI, sh_590, l0, l1]
  repeat' (with_reducible (first | (refine And.intro ?_ ?_) | intro _))
  all_goals try (refine Ca_use (ca_X12_readThingF H R hW hL hK) (by omega) ?_; rintro _ _ ⟨hW2, hF2, e42, (⟨rfl, ⟨d2, hN2⟩, hRn⟩ | ⟨e11, (⟨rfl, hL2, hK2⟩ | ⟨rfl, hL2, hK2⟩)⟩)⟩; simp (maxDischargeDepth := 12) [wB, wI, k1, kI, kR, kL, k2, pget, parg, ppush, pcat, zw_lit, zw_m1, zw_m2, zw_m3, zNC_eq, zrow, pup_app, pget_pss, pget_psx, nlg_some, nlg_none, gv_590_12, gv_590_13, gv_590_4, gv_590_6, pe, tg_12_10, tg_12_11, tg_12_12, tg_12_13, tg_12_14, tg_12_4, tg_12_5, tg_12_6, zfit, zisI, sh_590, l0, l1])
  all_goals repeat' (with_reducible (first | (refine And.intro ?_ ?_) | intro _))
  all_goals try (refine tr_lab (D := 3) (t := 68) vb_X12_readLaw_68 _ ve_X12_readLaw_68 ?_; simp (maxDischargeDepth := 12) [vb_X12_readLaw_68, wB, wI, k1, kI, kR, kL, k2, pget, parg, ppush, pcat, zw_lit, zw_m1, zw_m2, zw_m3, zNC_eq, zrow, pup_app, pget_pss, pget_psx, nlg_some, nlg_none, gv_590_12, gv_590_13, gv_590_4, gv_590_6, pe, tg_12_10, tg_12_11, tg_12_12, tg_12_13, tg_12_14, tg_12_4, tg_12_5, tg_12_6, zfit, zisI, sh_590, l0, l1])
  all_goals repeat' (with_reducible (first | (refine And.intro ?_ ?_) | intro _))
  all_goals try (refine Ca_use (ca_X12_goesOnF R _ hW2 hL2 hK2) (by omega) ?_; rintro _ _ ⟨hW3, hF3, (⟨rfl, ⟨d3, hN3⟩, hE3⟩ | ⟨rfl, hL3, hK3⟩)⟩; simp (maxDischargeDepth := 12) [wB, wI, k1, kI, kR, kL, k2, pget, parg, ppush, pcat, zw_lit, zw_m1, zw_m2, zw_m3, zNC_eq, zrow, pup_app, pget_pss, pget_psx, nlg_some, nlg_none, gv_590_12, gv_590_13, gv_590_4, gv_590_6, pe, tg_12_10, tg_12_11, tg_12_12, tg_12_13, tg_12_14, tg_12_4, tg_12_5, tg_12_6, zfit, zisI, sh_590, l0, l1])
  all_goals repeat' (with_reducible (first | (refine And.intro ?_ ?_) | intro _))
  all_goals try (refine tr_lab (D := 3) (t := 79) vb_X12_readLaw_79 _ ve_X12_readLaw_79 ?_; simp (maxDischargeDepth := 12) [vb_X12_readLaw_79, wB, wI, k1, kI, kR, kL, k2, pget, parg, ppush, pcat, zw_lit, zw_m1, zw_m2, zw_m3, zNC_eq, zrow, pup_app, pget_pss, pget_psx, nlg_some, nlg_none, gv_590_12, gv_590_13, gv_590_4, gv_590_6, pe, tg_12_10, tg_12_11, tg_12_12, tg_12_13, tg_12_14, tg_12_4, tg_12_5, tg_12_6, zfit, zisI, sh_590, l0, l1])
  all_goals repeat' (with_reducible (first | (refine And.intro ?_ ?_) | intro _))
  all_goals try (refine tr_lab (D := 3) (t := 83) vb_X12_readLaw_83 _ ve_X12_readLaw_83 ?_; simp (maxDischargeDepth := 12) [vb_X12_readLaw_83, wB, wI, k1, kI, kR, kL, k2, pget, parg, ppush, pcat, zw_lit, zw_m1, zw_m2, zw_m3, zNC_eq, zrow, pup_app, pget_pss, pget_psx, nlg_some, nlg_none, gv_590_12, gv_590_13, gv_590_4, gv_590_6, pe, tg_12_10, tg_12_11, tg_12_12, tg_12_13, tg_12_14, tg_12_4, tg_12_5, tg_12_6, zfit, zisI, sh_590, l0, l1])
  all_goals repeat' (with_reducible (first | (refine And.intro ?_ ?_) | intro _))
  all_goals try (refine tr_lab (D := 3) (t := 84) vb_X12_readLaw_84 _ ve_X12_readLaw_84 ?_; simp (maxDischargeDepth := 12) [vb_X12_readLaw_84, wB, wI, k1, kI, kR, kL, k2, pget, parg, ppush, pcat, zw_lit, zw_m1, zw_m2, zw_m3, zNC_eq, zrow, pup_app, pget_pss, pget_psx, nlg_some, nlg_none, gv_590_12, gv_590_13, gv_590_4, gv_590_6, pe, tg_12_10, tg_12_11, tg_12_12, tg_12_13, tg_12_14, tg_12_4, tg_12_5, tg_12_6, zfit, zisI, sh_590, l0, l1])
  all_goals repeat' (with_reducible (first | (refine And.intro ?_ ?_) | intro _))
  all_goals try ((first | (refine sg_X12_readLaw_52aF H0 R d3 _ _ ?_ pget_pss ?_ ?_ ?_ ?_ <;> (try simp (maxDischargeDepth := 12) [pget_pss, pget_psx, nlg_some, nlg_none, pget, pup_app, l0])) | (refine ihx _ _ ?_ ?_ ?_ ?_ ?_ ?_ ?_ <;> (try simp (maxDischargeDepth := 12) [pget_pss, pget_psx, nlg_some, nlg_none, pget, pup_app, l0]))))
  all_goals (first | omega | assumption | (exact Or.inr ⟨rfl, hRn⟩) | (exact ⟨_, rfl⟩) | (exact ⟨_, hN2⟩) | (exact frm_trans hF hF2) | (exact frm_trans (frm_trans hF hF2) (frm_sub rfl hF3)) | (have e12 := hF3 590 11 (by decide) rfl; have e13 : ∀ X : PH, gv X ((590 : Nat) : Int) 11 = X 590 11 := fun X => rfl; rw [e13, e13] at e12; omega) | skip)

theorem law_52F {G : zG} {us : Nat} {g : Nat → Nat → Int} (H0 : PH) (R : Option (Int × List Int)) : ∀ (n : Nat) (ls : PL) (H : PH), 30 - H 590 11 < n → pget ls 0 = some (2, 590) → pget ls 1 = some (0, 1) → WT 2 g H → frm [80, 81, 82, 6012, 7012, 8012, 11012, 12012, 15012] H0 H → LSt H 0 0 → KF H R → Tr G us kd_X12_readLaw 4 (zget kd_X12_readLaw 52) 52 ls [] H (fun r H' => ((r = some (0, 1) ∧ R = some (H' 590 11, cdM H')) ∨ (r = some (0, 0) ∧ R = none)) ∧ WT 2 g H' ∧ frm [80, 81, 82, 6012, 7012, 8012, 11012, 12012, 15012] H0 H' ∧ ∃ d, LN H' d) := by
  intro n
  induction n with
  | zero =>
    intro ls H hn l0 l1 hW hF hL hK
    have := hL.2.2.2.2
    omega
  | succ n ih =>
    intro ls H hn l0 l1 hW hF hL hK
    exact sg_X12_readLaw_52bF H0 R (H 590 11) (fun ls H1 h => ih ls H1 (by omega)) ls H l0 l1 rfl hW hF hL hK

set_option maxRecDepth 20000 in
set_option maxHeartbeats 4000000 in
theorem ca_X12_readLawF {G : zG} {us : Nat} {lw : Int → Int} {g : Nat → Nat → Int}  (H : PH) (hW : WT 2 g H) : Ca G us 4 188 [(2, 590)] H (fun r H' => ((r = some (0, 1) ∧ lwAll (TM H) (H 590 4) = some (H' 590 11, cdM H')) ∨ (r = some (0, 0) ∧ lwAll (TM H) (H 590 4) = none)) ∧ WT 2 g H' ∧ frm [80, 81, 82, 6012, 7012, 8012, 11012, 12012, 15012] H H' ∧ ∃ d, LN H' d) := by
  have hi1 := KF_init (H := H)
  have hi0 := EK_init (H := H)
  refine ⟨_, _, _, _, _, _, vm_X12_readLaw, by simp [pcat], ?_⟩
  refine tr_lab (D := 3) (t := 0) vb_X12_readLaw_0 _ ve_X12_readLaw_0 ?_
  simp (maxDischargeDepth := 12) [vb_X12_readLaw_0, wB, wI, k1, kI, kR, kL, k2, pget, parg, ppush, pcat, zw_lit, zw_m1, zw_m2, zw_m3, zNC_eq, zrow, pup_app, pget_pss, pget_psx, nlg_some, nlg_none, gv_590_12, gv_590_13, gv_590_4, gv_590_6, pe, tg_12_10, tg_12_11, tg_12_12, tg_12_13, tg_12_14, tg_12_4, tg_12_5, tg_12_6, zfit, zisI, sh_590, sh_596, sh_597]
  repeat' (with_reducible (first | (refine And.intro ?_ ?_) | intro _))
  all_goals try (refine tr_lab (D := 3) (t := 50) vb_X12_readLaw_50 _ ve_X12_readLaw_50 ?_; simp (maxDischargeDepth := 12) [vb_X12_readLaw_50, wB, wI, k1, kI, kR, kL, k2, pget, parg, ppush, pcat, zw_lit, zw_m1, zw_m2, zw_m3, zNC_eq, zrow, pup_app, pget_pss, pget_psx, nlg_some, nlg_none, gv_590_12, gv_590_13, gv_590_4, gv_590_6, pe, tg_12_10, tg_12_11, tg_12_12, tg_12_13, tg_12_14, tg_12_4, tg_12_5, tg_12_6, zfit, zisI, sh_590, sh_596, sh_597])
  all_goals repeat' (with_reducible (first | (refine And.intro ?_ ?_) | intro _))
  all_goals try (refine tr_lab (D := 3) (t := 51) vb_X12_readLaw_51 _ ve_X12_readLaw_51 ?_; simp (maxDischargeDepth := 12) [vb_X12_readLaw_51, wB, wI, k1, kI, kR, kL, k2, pget, parg, ppush, pcat, zw_lit, zw_m1, zw_m2, zw_m3, zNC_eq, zrow, pup_app, pget_pss, pget_psx, nlg_some, nlg_none, gv_590_12, gv_590_13, gv_590_4, gv_590_6, pe, tg_12_10, tg_12_11, tg_12_12, tg_12_13, tg_12_14, tg_12_4, tg_12_5, tg_12_6, zfit, zisI, sh_590, sh_596, sh_597])
  all_goals repeat' (with_reducible (first | (refine And.intro ?_ ?_) | intro _))
  all_goals try ((first | (refine sg_X12_readLaw_52aF H _ 0 _ _ ?_ pget_pss ?_ ?_ ?_ ?_ <;> (try simp (maxDischargeDepth := 12) [pget_pss, pget_psx, nlg_some, nlg_none, pget, pup_app])) | (refine law_52F H _ 31 _ _ ?_ ?_ ?_ ?_ ?_ ?_ ?_ <;> (try simp (maxDischargeDepth := 12) [pget_pss, pget_psx, nlg_some, nlg_none, pget, pup_app]))))
  all_goals (first | omega | assumption | (exact hi1 (by omega)) | (exact hi0 (by omega)) | (exact LSt_init rfl rfl rfl rfl rfl) | (exact (LSt_init rfl rfl rfl rfl rfl).2.2.1) | ((repeat (first | assumption | (refine hF2 _ ?_) | exact frm_refl _ _ | (refine wa_595 ?_ (by omega) (by first | omega | exact zw_lo _ | exact zw_hi _) (by first | omega | exact zw_lo _ | exact zw_hi _)) | (refine wa_596 ?_ (by omega) (by first | omega | exact zw_lo _ | exact zw_hi _) (by first | omega | exact zw_lo _ | exact zw_hi _)) | (refine wa_597 ?_ (by omega) (by first | omega | exact zw_lo _ | exact zw_hi _) (by first | omega | exact zw_lo _ | exact zw_hi _)) | (refine wf_590_5 ?_ (by omega) (by omega)) | (refine wf_590_6 ?_ (by omega) (by omega)) | (refine wf_590_10 ?_ (by omega) (by omega)) | (refine wf_590_11 ?_ (by omega) (by omega)) | (refine wf_590_14 ?_ (by omega) (by omega)) | (refine fa_595 ?_ rfl) | (refine fa_596 ?_ rfl) | (refine fa_597 ?_ rfl) | (refine ff_590_5 ?_ rfl) | (refine ff_590_6 ?_ rfl) | (refine ff_590_10 ?_ rfl) | (refine ff_590_11 ?_ rfl) | (refine ff_590_14 ?_ rfl))); done) | ((repeat (first | assumption | (refine LSt_at ?_ (by omega)) | (refine LN_at ?_ (by omega)))); done) | decide | skip)

theorem aT_lawF : True := trivial

theorem ca_law_deedF {G : zG} {us : Nat} {g : Nat → Nat → Int} (H : PH) (hW : WT 2 g H) (hM : IM H) : Ca G us 1 158 [(2, 590)] H (fun r H' => r = none ∧ WT 2 g H' ∧ (∀ X : PH, frm [32, 33, 80, 81, 82, 3012, 5012, 6012, 7012, 8012, 11012, 12012, 15012] X H → frm [32, 33, 80, 81, 82, 3012, 5012, 6012, 7012, 8012, 11012, 12012, 15012] X H') ∧ KP H' ∧ (∀ d, LN H d → LN H' d) ∧ H' 590 4 = H 590 4 ∧ H' 590 11 = H 590 11 ∧ (-2147483648 ≤ H' 590 11 ∧ H' 590 11 ≤ 2147483647) ∧ ∃ n0, H' 590 10 = n0 ∧ 0 ≤ n0 ∧ n0 ≤ 64) :=
  Ca_mono (Nat.le_refl _) (fun r H' q => ⟨q.1, q.2.1, fun X hX => frm_trans hX (frm_sub rfl q.2.2.1), q.2.2.2.2, fun d h => LN_congr h (rd595 q.2.2.1) (q.2.2.1 590 10 (by decide) rfl), q.2.2.1 590 4 (by decide) rfl, q.2.2.1 590 11 (by decide) rfl, rf_590_11 q.2.1, _, rfl, (rf_590_10 q.2.1).1, (rf_590_10 q.2.1).2⟩) (ca_X12_deed H hW hM)

set_option maxRecDepth 20000 in
set_option maxHeartbeats 4000000 in
theorem lp_X12_law_44F {G : zG} {us : Nat} {g : Nat → Nat → Int} (H0 : PH) (n0 d t0 : Int) (n64 : n0 ≤ 64)   : ∀ (n : Nat) (ls : PL) (H : PH) (k : Int), (64 - k).toNat < n → pget ls 0 = some (2, 590) → pget ls 2 = some (0, k) → WT 2 g H → frm [32, 33, 80, 81, 82, 3012, 5012, 6012, 7012, 8012, 11012, 12012, 15012] H0 H → H 590 4 = 0 → KP H → LN H d → H 590 10 = n0 → H 591 11 = n0 → H 590 11 = t0 → CL H k → 0 ≤ k → k ≤ n0 → Tr G us kd_X12_law 5 (zget kd_X12_law 44) 44 ls [] H (fun r H' => r = some (0, t0) ∧ WT 2 g H' ∧ frm [32, 33, 80, 81, 82, 3012, 5012, 6012, 7012, 8012, 11012, 12012, 15012] H0 H' ∧ IM H' ∧ H' 590 4 = 0) := by
  intro n
  induction n with
  | zero => intros; omega
  | succ n ih =>
    intro ls H k hn  l0 l2 hW hF h4 hK hN hn0 e11 h11 hc kk0 kk1
    have zk : zw (k + 1) = k + 1 := zw_lit (by omega) (by omega)
    have z12 : zw (12 + k) = 12 + k := zw_lit (by omega) (by omega)
    have hin : k < 64 → -2147483648 ≤ H 595 k ∧ H 595 k ≤ 2147483647 := fun q => ra_595 hW kk0 q
    refine tr_lab (D := 4) (t := 44) vb_X12_law_44 _ ve_X12_law_44 ?_
    simp (maxDischargeDepth := 12) [vb_X12_law_44, wB, wI, k1, kI, kR, kL, k2, pget, parg, ppush, pcat, zw_lit, zw_m1, zw_m2, zw_m3, zNC_eq, zrow, pup_app, pget_pss, pget_psx, nlg_some, nlg_none, gv_590_0, gv_590_10, gv_590_11, gv_590_9, pe, tg_12_0, tg_12_10, tg_12_11, tg_12_4, tg_12_9, zfit, zisI, sh_590, sh_591, sh_595, hn0, h11, zk, z12, l0, l2]
    repeat' (with_reducible (first | (refine And.intro ?_ ?_) | intro _))
    all_goals try (refine tr_lab (D := 4) (t := 73) vb_X12_law_73 _ ve_X12_law_73 ?_; simp (maxDischargeDepth := 12) [vb_X12_law_73, wB, wI, k1, kI, kR, kL, k2, pget, parg, ppush, pcat, zw_lit, zw_m1, zw_m2, zw_m3, zNC_eq, zrow, pup_app, pget_pss, pget_psx, nlg_some, nlg_none, gv_590_0, gv_590_10, gv_590_11, gv_590_9, pe, tg_12_0, tg_12_10, tg_12_11, tg_12_4, tg_12_9, zfit, zisI, sh_590, sh_591, sh_595, hn0, h11, zk, z12, l0, l2])
    all_goals repeat' (with_reducible (first | (refine And.intro ?_ ?_) | intro _))
    all_goals try (refine ih _ _ (k + 1) ?_ ?_ ?_ ?_ ?_ ?_ ?_ ?_ ?_ ?_ ?_ ?_ ?_ ?_)
    all_goals try simp (maxDischargeDepth := 12) [pget_pss, pget_psx, nlg_some, nlg_none, pget, pup_app, l0, l2]
    all_goals (first | omega | assumption | (exact ⟨_, rfl⟩) | (rw [u591 (by omega)]; assumption) | (exact CL_next hc) | (exact CL_end hN hn0 n64 e11 (by rw [show n0 = k by omega]; exact hc) hK) | ((repeat (first | assumption | exact frm_refl _ _ | (exact hF2 _ hF) | (refine WT_wr ?_ (by omega) (by omega) (av_law (by omega) (by omega) (by omega) (by omega))) | (refine fa_591 ?_ rfl) | (refine LN_591 ?_) | (refine KP_591 ?_))); done) | skip)

set_option maxRecDepth 20000 in
set_option maxHeartbeats 4000000 in
theorem sg_X12_law_16F {G : zG} {us : Nat} {g : Nat → Nat → Int} (H0 : PH) (d t0 : Int)  : ∀ (ls : PL) (H : PH), pget ls 0 = some (2, 590) → WT 2 g H → frm [32, 33, 80, 81, 82, 3012, 5012, 6012, 7012, 8012, 11012, 12012, 15012] H0 H → H 590 4 = 0 → IM H → LN H d → H 590 11 = t0 → Tr G us kd_X12_law 5 (zget kd_X12_law 16) 16 ls [] H (fun r H' => r = some (0, t0) ∧ WT 2 g H' ∧ frm [32, 33, 80, 81, 82, 3012, 5012, 6012, 7012, 8012, 11012, 12012, 15012] H0 H' ∧ IM H' ∧ H' 590 4 = 0) := by
  intro ls H  l0 hW hF h4 hM hN h11
  refine tr_lab (D := 4) (t := 16) vb_X12_law_16 _ ve_X12_law_16 ?_
  simp (maxDischargeDepth := 12) [vb_X12_law_16, wB, wI, k1, kI, kR, kL, k2, pget, parg, ppush, pcat, zw_lit, zw_m1, zw_m2, zw_m3, zNC_eq, zrow, pup_app, pget_pss, pget_psx, nlg_some, nlg_none, gv_590_0, gv_590_10, gv_590_11, gv_590_9, pe, tg_12_0, tg_12_10, tg_12_11, tg_12_4, tg_12_9, zfit, zisI, sh_590, sh_591, l0]
  repeat' (with_reducible (first | (refine And.intro ?_ ?_) | intro _))
  all_goals try (refine Ca_use (ca_law_deedF _ (by assumption) (by assumption)) (by omega) ?_; rintro _ _ ⟨rfl, hW2, hF2, hK2, hN2, e4, e11, t11, n0, hn0, n00, n64⟩; simp (maxDischargeDepth := 12) [wB, wI, k1, kI, kR, kL, k2, pget, parg, ppush, pcat, zw_lit, zw_m1, zw_m2, zw_m3, zNC_eq, zrow, pup_app, pget_pss, pget_psx, nlg_some, nlg_none, gv_590_0, gv_590_10, gv_590_11, gv_590_9, pe, tg_12_0, tg_12_10, tg_12_11, tg_12_4, tg_12_9, zfit, zisI, sh_590, sh_591, l0])
  all_goals repeat' (with_reducible (first | (refine And.intro ?_ ?_) | intro _))
  all_goals try ((refine lp_X12_law_44F H0 n0 d t0 n64 65 _ _ 0 ?_ ?_ ?_ ?_ ?_ ?_ ?_ ?_ ?_ ?_ ?_ ?_ ?_ ?_) <;> (try simp (maxDischargeDepth := 12) [pget_pss, pget_psx, nlg_some, nlg_none, pget, pup_app, l0]))
  all_goals (first | omega | assumption | (exact fun j a b => by omega) | (exact hF2 _ hF) | (exact LN_591 (LN_591 (hN2 _ hN))) | ((repeat (first | assumption | (refine hF2 _ ?_) | exact frm_refl _ _ | (exact hF2 _ hF) | (refine WT_wr ?_ (by omega) (by omega) (av_law (by omega) (by omega) (by omega) (by omega))) | (refine fa_591 ?_ rfl) | (refine LN_591 ?_) | (refine KP_591 ?_))); done) | skip)

set_option maxRecDepth 20000 in
set_option maxHeartbeats 4000000 in
theorem ca_X12_lawF {G : zG} {us : Nat} {lw : Int → Int} {g : Nat → Nat → Int}  (H : PH) (hW : WT 2 g H) (hM : IM H) : Ca G us 5 189 [(2, 590)] H (fun r H' => r = some (0, lwN (TM H) (H 590 4)) ∧ WT 2 g H' ∧ frm [32, 33, 80, 81, 82, 3012, 5012, 6012, 7012, 8012, 11012, 12012, 15012] H H' ∧ IM H' ∧ H' 590 4 = 0) := by
  have hl := lwN_eq (T := TM H) (z := H 590 4)
  refine ⟨_, _, _, _, _, _, vm_X12_law, by simp [pcat], ?_⟩
  refine tr_lab (D := 4) (t := 0) vb_X12_law_0 _ ve_X12_law_0 ?_
  simp (maxDischargeDepth := 12) [vb_X12_law_0, wB, wI, k1, kI, kR, kL, k2, pget, parg, ppush, pcat, zw_lit, zw_m1, zw_m2, zw_m3, zNC_eq, zrow, pup_app, pget_pss, pget_psx, nlg_some, nlg_none, gv_590_0, gv_590_10, gv_590_11, gv_590_9, pe, tg_12_0, tg_12_10, tg_12_11, tg_12_4, tg_12_9, zfit, zisI, sh_590]
  repeat' (with_reducible (first | (refine And.intro ?_ ?_) | intro _))
  all_goals try (refine Ca_use (ca_X12_readLawF H hW) (by omega) ?_; rintro _ _ ⟨(⟨rfl, hR⟩ | ⟨rfl, hR⟩), hW2, hF2, d, hN2⟩; simp (maxDischargeDepth := 12) [wB, wI, k1, kI, kR, kL, k2, pget, parg, ppush, pcat, zw_lit, zw_m1, zw_m2, zw_m3, zNC_eq, zrow, pup_app, pget_pss, pget_psx, nlg_some, nlg_none, gv_590_0, gv_590_10, gv_590_11, gv_590_9, pe, tg_12_0, tg_12_10, tg_12_11, tg_12_4, tg_12_9, zfit, zisI, sh_590])
  all_goals repeat' (with_reducible (first | (refine And.intro ?_ ?_) | intro _))
  all_goals try ((rw [hl.2 _ _ hR]; refine sg_X12_law_16F H d _ _ _ ?_ ?_ ?_ ?_ ?_ ?_ ?_) <;> (try simp (maxDischargeDepth := 12) [pget_pss, pget_psx, nlg_some, nlg_none, pget, pup_app]))
  all_goals (first | omega | assumption | (exact hl.1 hR) | (exact (hl.1 hR).symm) | (rw [hl.1 hR]) | (exact ⟨_, rfl⟩) | rfl | (exact w2_590_4 hW2 (by omega) (by omega)) | (exact ff_590_4 (frm_sub rfl hF2) rfl) | (exact LN_at hN2 (by omega)) | (have hI := IM_same hW (SM_frm hF2 rfl rfl rfl rfl) hM; exact ⟨hI.1, KP_up hI.2 (Or.inr (Or.inr ⟨rfl, rfl⟩))⟩) | skip)
