/-! ===== the class reads the law: the contracts ===== -/
theorem cvb_X4_takeThing : blOK kd_X4_takeThing bm_X4_takeThing := ⟨ve_X4_takeThing_0, ve_X4_takeThing_15, ve_X4_takeThing_24, ve_X4_takeThing_79, ve_X4_takeThing_80, ve_X4_takeThing_81, ve_X4_takeThing_99, ve_X4_takeThing_117, ve_X4_takeThing_135, trivial⟩
theorem chb_X4_takeThing_at_9 : amchk ta_X4_takeThing_at_9 bm_X4_takeThing cz_X4_takeThing_at_9 cc_X4_takeThing_at_9 = true := by decide +kernel
theorem fn_X4_takeThing_at_9 : FnOK cc_X4_takeThing_at_9 Ptk (Rtk (fun T z => lwTh T z 0)) := am_okF (T := ta_X4_takeThing_at_9) (B := bm_X4_takeThing) (cs := cz_X4_takeThing_at_9) vm_X4_takeThing cvb_X4_takeThing (by decide +kernel) chb_X4_takeThing_at_9 ck_X4_takeThing_at_9 (RG := fun n => bif Nat.beq n 48 then ((fun _ _ => True), RisS, []) else bif Nat.beq n 49 then ((fun _ _ => True), RisP, []) else bif Nat.beq n 50 then ((fun _ _ => True), Radd, [4, 47]) else bif Nat.beq n 95 then ((fun _ _ => True), Rnext, []) else bif Nat.beq n 96 then ((fun _ _ => True), Rfail, [3010, 4010]) else bif Nat.beq n 97 then ((fun _ _ => True), Rskip, [3010, 4010]) else bif Nat.beq n 98 then ((fun _ _ => True), RisD, []) else bif Nat.beq n 100 then ((fun as _ => 0 ≤ ai as 1 ∧ ai as 1 ≤ 4), Rdgt, [10]) else ((fun _ _ => True), (fun _ _ _ _ => True), [999])) ⟨⟨fn_fail, rfl⟩, trivial⟩ (fun g H as hg hW ha hp hP => by
  obtain ⟨p0, p1, p2, rfl, A0, A1, A2⟩ := aargs3 ha
  have e1 := arg_sing (n := 213) A1 rfl
  subst e1
  obtain ⟨c, rfl, hc, ht⟩ := arg_ref A0
  obtain ⟨d, rfl, d1, d2, _⟩ := arg_int A2
  have ed : d = 9 := by omega
  subst ed
  obtain ⟨hP1, hP2⟩ := hP
  refine ⟨_, _, hf_X4_takeThing9 (T := ta_X4_takeThing_at_9) c ?_ H hW hP1 hP2⟩ <;> rfl)

theorem cvb_X4_takeProduct : blOK kd_X4_takeProduct bm_X4_takeProduct := ⟨ve_X4_takeProduct_0, ve_X4_takeProduct_10, ve_X4_takeProduct_67, trivial⟩
theorem fn_X4_takeProduct_at_9 : FnOK cc_X4_takeProduct_at_9 Ptk (Rtk (fun T z => pPr (lwTh T z 0) T z)) := am_okF (T := ta_X4_takeProduct_at_9) (B := bm_X4_takeProduct) (cs := cz_X4_takeProduct_at_9) vm_X4_takeProduct cvb_X4_takeProduct (by decide +kernel) ch_X4_takeProduct_at_9 ck_X4_takeProduct_at_9 (RG := fun n => bif Nat.beq n 47 then (Ptk, Rtk (fun T z => lwTh T z 0), [4, 10, 47, 3010, 4004, 4010]) else bif Nat.beq n 48 then ((fun _ _ => True), RisS, []) else bif Nat.beq n 49 then ((fun _ _ => True), RisP, []) else bif Nat.beq n 50 then ((fun _ _ => True), Radd, [4, 47]) else bif Nat.beq n 95 then ((fun _ _ => True), Rnext, []) else bif Nat.beq n 96 then ((fun _ _ => True), Rfail, [3010, 4010]) else bif Nat.beq n 97 then ((fun _ _ => True), Rskip, [3010, 4010]) else bif Nat.beq n 98 then ((fun _ _ => True), RisD, []) else bif Nat.beq n 100 then ((fun as _ => 0 ≤ ai as 1 ∧ ai as 1 ≤ 4), Rdgt, [10]) else ((fun _ _ => True), (fun _ _ _ _ => True), [999])) ⟨⟨fn_X4_takeThing_at_9, rfl⟩, trivial⟩ (fun g H as hg hW ha hp hP => by
  obtain ⟨p0, p1, p2, rfl, A0, A1, A2⟩ := aargs3 ha
  have e1 := arg_sing (n := 213) A1 rfl
  subst e1
  obtain ⟨c, rfl, hc, ht⟩ := arg_ref A0
  obtain ⟨d, rfl, d1, d2, _⟩ := arg_int A2
  have ed : d = 9 := by omega
  subst ed
  obtain ⟨hP1, hP2⟩ := hP
  refine ⟨_, _, hf_9 (hf_X4_takeProduct (T := ta_X4_takeProduct_at_9) c 9 0 ?_ ?_ ?_ ?_ H hW hP1 hP2)⟩ <;> rfl)

theorem cvb_X4_takeSum : blOK kd_X4_takeSum bm_X4_takeSum := ⟨ve_X4_takeSum_0, ve_X4_takeSum_10, ve_X4_takeSum_67, trivial⟩
theorem fn_X4_takeSum_at_9 : FnOK cc_X4_takeSum_at_9 Ptk (Rtk (fun T z => sSm (lwTh T z 0) T z)) := am_okF (T := ta_X4_takeSum_at_9) (B := bm_X4_takeSum) (cs := cz_X4_takeSum_at_9) vm_X4_takeSum cvb_X4_takeSum (by decide +kernel) ch_X4_takeSum_at_9 ck_X4_takeSum_at_9 (RG := fun n => bif Nat.beq n 46 then (Ptk, Rtk (fun T z => pPr (lwTh T z 0) T z), [4, 10, 47, 3010, 4004, 4010]) else bif Nat.beq n 48 then ((fun _ _ => True), RisS, []) else bif Nat.beq n 49 then ((fun _ _ => True), RisP, []) else bif Nat.beq n 50 then ((fun _ _ => True), Radd, [4, 47]) else bif Nat.beq n 95 then ((fun _ _ => True), Rnext, []) else bif Nat.beq n 96 then ((fun _ _ => True), Rfail, [3010, 4010]) else bif Nat.beq n 97 then ((fun _ _ => True), Rskip, [3010, 4010]) else bif Nat.beq n 98 then ((fun _ _ => True), RisD, []) else bif Nat.beq n 100 then ((fun as _ => 0 ≤ ai as 1 ∧ ai as 1 ≤ 4), Rdgt, [10]) else ((fun _ _ => True), (fun _ _ _ _ => True), [999])) ⟨⟨fn_X4_takeProduct_at_9, rfl⟩, trivial⟩ (fun g H as hg hW ha hp hP => by
  obtain ⟨p0, p1, p2, rfl, A0, A1, A2⟩ := aargs3 ha
  have e1 := arg_sing (n := 213) A1 rfl
  subst e1
  obtain ⟨c, rfl, hc, ht⟩ := arg_ref A0
  obtain ⟨d, rfl, d1, d2, _⟩ := arg_int A2
  have ed : d = 9 := by omega
  subst ed
  obtain ⟨hP1, hP2⟩ := hP
  refine ⟨_, _, hf_9 (hf_X4_takeSum (T := ta_X4_takeSum_at_9) c 9 0 ?_ ?_ ?_ ?_ H hW hP1 hP2)⟩ <;> rfl)

theorem fn_X4_takeThing_at_8 : FnOK cc_X4_takeThing_at_8 Ptk (Rtk (fun T z => lwTh T z 1)) := am_okF (T := ta_X4_takeThing_at_8) (B := bm_X4_takeThing) (cs := cz_X4_takeThing_at_8) vm_X4_takeThing cvb_X4_takeThing (by decide +kernel) ch_X4_takeThing_at_8 ck_X4_takeThing_at_8 (RG := fun n => bif Nat.beq n 45 then (Ptk, Rtk (fun T z => sSm (lwTh T z 0) T z), [4, 10, 47, 3010, 4004, 4010]) else bif Nat.beq n 48 then ((fun _ _ => True), RisS, []) else bif Nat.beq n 49 then ((fun _ _ => True), RisP, []) else bif Nat.beq n 50 then ((fun _ _ => True), Radd, [4, 47]) else bif Nat.beq n 95 then ((fun _ _ => True), Rnext, []) else bif Nat.beq n 96 then ((fun _ _ => True), Rfail, [3010, 4010]) else bif Nat.beq n 97 then ((fun _ _ => True), Rskip, [3010, 4010]) else bif Nat.beq n 98 then ((fun _ _ => True), RisD, []) else bif Nat.beq n 100 then ((fun as _ => 0 ≤ ai as 1 ∧ ai as 1 ≤ 4), Rdgt, [10]) else ((fun _ _ => True), (fun _ _ _ _ => True), [999])) ⟨⟨fn_fail, rfl⟩, ⟨fn_next, rfl⟩, ⟨fn_X4_takeSum_at_9, rfl⟩, ⟨fn_isD, rfl⟩, ⟨fn_digits, rfl⟩, ⟨fn_add, rfl⟩, ⟨fn_add, rfl⟩, ⟨fn_fail, rfl⟩, trivial⟩ (fun g H as hg hW ha hp hP => by
  obtain ⟨p0, p1, p2, rfl, A0, A1, A2⟩ := aargs3 ha
  have e1 := arg_sing (n := 213) A1 rfl
  subst e1
  obtain ⟨c, rfl, hc, ht⟩ := arg_ref A0
  obtain ⟨d, rfl, d1, d2, _⟩ := arg_int A2
  have ed : d = 8 := by omega
  subst ed
  obtain ⟨hP1, hP2⟩ := hP
  refine ⟨_, _, hf_X4_takeThing (T := ta_X4_takeThing_at_8) c 8 0 ?_ ?_ ?_ ?_ ?_ ?_ ?_ H hW hP1 (by omega) hP2⟩ <;> rfl)

theorem fn_X4_takeProduct_at_8 : FnOK cc_X4_takeProduct_at_8 Ptk (Rtk (fun T z => pPr (lwTh T z 1) T z)) := am_okF (T := ta_X4_takeProduct_at_8) (B := bm_X4_takeProduct) (cs := cz_X4_takeProduct_at_8) vm_X4_takeProduct cvb_X4_takeProduct (by decide +kernel) ch_X4_takeProduct_at_8 ck_X4_takeProduct_at_8 (RG := fun n => bif Nat.beq n 47 then (Ptk, Rtk (fun T z => lwTh T z 1), [4, 10, 47, 3010, 4004, 4010]) else bif Nat.beq n 48 then ((fun _ _ => True), RisS, []) else bif Nat.beq n 49 then ((fun _ _ => True), RisP, []) else bif Nat.beq n 50 then ((fun _ _ => True), Radd, [4, 47]) else bif Nat.beq n 95 then ((fun _ _ => True), Rnext, []) else bif Nat.beq n 96 then ((fun _ _ => True), Rfail, [3010, 4010]) else bif Nat.beq n 97 then ((fun _ _ => True), Rskip, [3010, 4010]) else bif Nat.beq n 98 then ((fun _ _ => True), RisD, []) else bif Nat.beq n 100 then ((fun as _ => 0 ≤ ai as 1 ∧ ai as 1 ≤ 4), Rdgt, [10]) else ((fun _ _ => True), (fun _ _ _ _ => True), [999])) ⟨⟨fn_X4_takeThing_at_8, rfl⟩, ⟨fn_next, rfl⟩, ⟨fn_isP, rfl⟩, ⟨fn_next, rfl⟩, ⟨fn_X4_takeThing_at_8, rfl⟩, ⟨fn_add, rfl⟩, trivial⟩ (fun g H as hg hW ha hp hP => by
  obtain ⟨p0, p1, p2, rfl, A0, A1, A2⟩ := aargs3 ha
  have e1 := arg_sing (n := 213) A1 rfl
  subst e1
  obtain ⟨c, rfl, hc, ht⟩ := arg_ref A0
  obtain ⟨d, rfl, d1, d2, _⟩ := arg_int A2
  have ed : d = 8 := by omega
  subst ed
  obtain ⟨hP1, hP2⟩ := hP
  refine ⟨_, _, hf_X4_takeProduct (T := ta_X4_takeProduct_at_8) c 8 1 ?_ ?_ ?_ ?_ H hW hP1 hP2⟩ <;> rfl)

theorem fn_X4_takeSum_at_8 : FnOK cc_X4_takeSum_at_8 Ptk (Rtk (fun T z => sSm (lwTh T z 1) T z)) := am_okF (T := ta_X4_takeSum_at_8) (B := bm_X4_takeSum) (cs := cz_X4_takeSum_at_8) vm_X4_takeSum cvb_X4_takeSum (by decide +kernel) ch_X4_takeSum_at_8 ck_X4_takeSum_at_8 (RG := fun n => bif Nat.beq n 46 then (Ptk, Rtk (fun T z => pPr (lwTh T z 1) T z), [4, 10, 47, 3010, 4004, 4010]) else bif Nat.beq n 48 then ((fun _ _ => True), RisS, []) else bif Nat.beq n 49 then ((fun _ _ => True), RisP, []) else bif Nat.beq n 50 then ((fun _ _ => True), Radd, [4, 47]) else bif Nat.beq n 95 then ((fun _ _ => True), Rnext, []) else bif Nat.beq n 96 then ((fun _ _ => True), Rfail, [3010, 4010]) else bif Nat.beq n 97 then ((fun _ _ => True), Rskip, [3010, 4010]) else bif Nat.beq n 98 then ((fun _ _ => True), RisD, []) else bif Nat.beq n 100 then ((fun as _ => 0 ≤ ai as 1 ∧ ai as 1 ≤ 4), Rdgt, [10]) else ((fun _ _ => True), (fun _ _ _ _ => True), [999])) ⟨⟨fn_X4_takeProduct_at_8, rfl⟩, ⟨fn_next, rfl⟩, ⟨fn_isS, rfl⟩, ⟨fn_next, rfl⟩, ⟨fn_X4_takeProduct_at_8, rfl⟩, ⟨fn_add, rfl⟩, trivial⟩ (fun g H as hg hW ha hp hP => by
  obtain ⟨p0, p1, p2, rfl, A0, A1, A2⟩ := aargs3 ha
  have e1 := arg_sing (n := 213) A1 rfl
  subst e1
  obtain ⟨c, rfl, hc, ht⟩ := arg_ref A0
  obtain ⟨d, rfl, d1, d2, _⟩ := arg_int A2
  have ed : d = 8 := by omega
  subst ed
  obtain ⟨hP1, hP2⟩ := hP
  refine ⟨_, _, hf_X4_takeSum (T := ta_X4_takeSum_at_8) c 8 1 ?_ ?_ ?_ ?_ H hW hP1 hP2⟩ <;> rfl)

theorem fn_X4_takeThing_at_7 : FnOK cc_X4_takeThing_at_7 Ptk (Rtk (fun T z => lwTh T z 2)) := am_okF (T := ta_X4_takeThing_at_7) (B := bm_X4_takeThing) (cs := cz_X4_takeThing_at_7) vm_X4_takeThing cvb_X4_takeThing (by decide +kernel) ch_X4_takeThing_at_7 ck_X4_takeThing_at_7 (RG := fun n => bif Nat.beq n 45 then (Ptk, Rtk (fun T z => sSm (lwTh T z 1) T z), [4, 10, 47, 3010, 4004, 4010]) else bif Nat.beq n 48 then ((fun _ _ => True), RisS, []) else bif Nat.beq n 49 then ((fun _ _ => True), RisP, []) else bif Nat.beq n 50 then ((fun _ _ => True), Radd, [4, 47]) else bif Nat.beq n 95 then ((fun _ _ => True), Rnext, []) else bif Nat.beq n 96 then ((fun _ _ => True), Rfail, [3010, 4010]) else bif Nat.beq n 97 then ((fun _ _ => True), Rskip, [3010, 4010]) else bif Nat.beq n 98 then ((fun _ _ => True), RisD, []) else bif Nat.beq n 100 then ((fun as _ => 0 ≤ ai as 1 ∧ ai as 1 ≤ 4), Rdgt, [10]) else ((fun _ _ => True), (fun _ _ _ _ => True), [999])) ⟨⟨fn_fail, rfl⟩, ⟨fn_next, rfl⟩, ⟨fn_X4_takeSum_at_8, rfl⟩, ⟨fn_skip, rfl⟩, ⟨fn_isD, rfl⟩, ⟨fn_digits, rfl⟩, ⟨fn_add, rfl⟩, ⟨fn_add, rfl⟩, ⟨fn_fail, rfl⟩, trivial⟩ (fun g H as hg hW ha hp hP => by
  obtain ⟨p0, p1, p2, rfl, A0, A1, A2⟩ := aargs3 ha
  have e1 := arg_sing (n := 213) A1 rfl
  subst e1
  obtain ⟨c, rfl, hc, ht⟩ := arg_ref A0
  obtain ⟨d, rfl, d1, d2, _⟩ := arg_int A2
  have ed : d = 7 := by omega
  subst ed
  obtain ⟨hP1, hP2⟩ := hP
  refine ⟨_, _, hf_X4_takeThing (T := ta_X4_takeThing_at_7) c 7 1 ?_ ?_ ?_ ?_ ?_ ?_ ?_ H hW hP1 (by omega) hP2⟩ <;> rfl)

theorem fn_X4_takeProduct_at_7 : FnOK cc_X4_takeProduct_at_7 Ptk (Rtk (fun T z => pPr (lwTh T z 2) T z)) := am_okF (T := ta_X4_takeProduct_at_7) (B := bm_X4_takeProduct) (cs := cz_X4_takeProduct_at_7) vm_X4_takeProduct cvb_X4_takeProduct (by decide +kernel) ch_X4_takeProduct_at_7 ck_X4_takeProduct_at_7 (RG := fun n => bif Nat.beq n 47 then (Ptk, Rtk (fun T z => lwTh T z 2), [4, 10, 47, 3010, 4004, 4010]) else bif Nat.beq n 48 then ((fun _ _ => True), RisS, []) else bif Nat.beq n 49 then ((fun _ _ => True), RisP, []) else bif Nat.beq n 50 then ((fun _ _ => True), Radd, [4, 47]) else bif Nat.beq n 95 then ((fun _ _ => True), Rnext, []) else bif Nat.beq n 96 then ((fun _ _ => True), Rfail, [3010, 4010]) else bif Nat.beq n 97 then ((fun _ _ => True), Rskip, [3010, 4010]) else bif Nat.beq n 98 then ((fun _ _ => True), RisD, []) else bif Nat.beq n 100 then ((fun as _ => 0 ≤ ai as 1 ∧ ai as 1 ≤ 4), Rdgt, [10]) else ((fun _ _ => True), (fun _ _ _ _ => True), [999])) ⟨⟨fn_X4_takeThing_at_7, rfl⟩, ⟨fn_next, rfl⟩, ⟨fn_isP, rfl⟩, ⟨fn_next, rfl⟩, ⟨fn_X4_takeThing_at_7, rfl⟩, ⟨fn_add, rfl⟩, trivial⟩ (fun g H as hg hW ha hp hP => by
  obtain ⟨p0, p1, p2, rfl, A0, A1, A2⟩ := aargs3 ha
  have e1 := arg_sing (n := 213) A1 rfl
  subst e1
  obtain ⟨c, rfl, hc, ht⟩ := arg_ref A0
  obtain ⟨d, rfl, d1, d2, _⟩ := arg_int A2
  have ed : d = 7 := by omega
  subst ed
  obtain ⟨hP1, hP2⟩ := hP
  refine ⟨_, _, hf_X4_takeProduct (T := ta_X4_takeProduct_at_7) c 7 2 ?_ ?_ ?_ ?_ H hW hP1 hP2⟩ <;> rfl)

theorem fn_X4_takeSum_at_7 : FnOK cc_X4_takeSum_at_7 Ptk (Rtk (fun T z => sSm (lwTh T z 2) T z)) := am_okF (T := ta_X4_takeSum_at_7) (B := bm_X4_takeSum) (cs := cz_X4_takeSum_at_7) vm_X4_takeSum cvb_X4_takeSum (by decide +kernel) ch_X4_takeSum_at_7 ck_X4_takeSum_at_7 (RG := fun n => bif Nat.beq n 46 then (Ptk, Rtk (fun T z => pPr (lwTh T z 2) T z), [4, 10, 47, 3010, 4004, 4010]) else bif Nat.beq n 48 then ((fun _ _ => True), RisS, []) else bif Nat.beq n 49 then ((fun _ _ => True), RisP, []) else bif Nat.beq n 50 then ((fun _ _ => True), Radd, [4, 47]) else bif Nat.beq n 95 then ((fun _ _ => True), Rnext, []) else bif Nat.beq n 96 then ((fun _ _ => True), Rfail, [3010, 4010]) else bif Nat.beq n 97 then ((fun _ _ => True), Rskip, [3010, 4010]) else bif Nat.beq n 98 then ((fun _ _ => True), RisD, []) else bif Nat.beq n 100 then ((fun as _ => 0 ≤ ai as 1 ∧ ai as 1 ≤ 4), Rdgt, [10]) else ((fun _ _ => True), (fun _ _ _ _ => True), [999])) ⟨⟨fn_X4_takeProduct_at_7, rfl⟩, ⟨fn_next, rfl⟩, ⟨fn_isS, rfl⟩, ⟨fn_next, rfl⟩, ⟨fn_X4_takeProduct_at_7, rfl⟩, ⟨fn_add, rfl⟩, trivial⟩ (fun g H as hg hW ha hp hP => by
  obtain ⟨p0, p1, p2, rfl, A0, A1, A2⟩ := aargs3 ha
  have e1 := arg_sing (n := 213) A1 rfl
  subst e1
  obtain ⟨c, rfl, hc, ht⟩ := arg_ref A0
  obtain ⟨d, rfl, d1, d2, _⟩ := arg_int A2
  have ed : d = 7 := by omega
  subst ed
  obtain ⟨hP1, hP2⟩ := hP
  refine ⟨_, _, hf_X4_takeSum (T := ta_X4_takeSum_at_7) c 7 2 ?_ ?_ ?_ ?_ H hW hP1 hP2⟩ <;> rfl)

theorem fn_X4_takeThing_at_6 : FnOK cc_X4_takeThing_at_6 Ptk (Rtk (fun T z => lwTh T z 3)) := am_okF (T := ta_X4_takeThing_at_6) (B := bm_X4_takeThing) (cs := cz_X4_takeThing_at_6) vm_X4_takeThing cvb_X4_takeThing (by decide +kernel) ch_X4_takeThing_at_6 ck_X4_takeThing_at_6 (RG := fun n => bif Nat.beq n 45 then (Ptk, Rtk (fun T z => sSm (lwTh T z 2) T z), [4, 10, 47, 3010, 4004, 4010]) else bif Nat.beq n 48 then ((fun _ _ => True), RisS, []) else bif Nat.beq n 49 then ((fun _ _ => True), RisP, []) else bif Nat.beq n 50 then ((fun _ _ => True), Radd, [4, 47]) else bif Nat.beq n 95 then ((fun _ _ => True), Rnext, []) else bif Nat.beq n 96 then ((fun _ _ => True), Rfail, [3010, 4010]) else bif Nat.beq n 97 then ((fun _ _ => True), Rskip, [3010, 4010]) else bif Nat.beq n 98 then ((fun _ _ => True), RisD, []) else bif Nat.beq n 100 then ((fun as _ => 0 ≤ ai as 1 ∧ ai as 1 ≤ 4), Rdgt, [10]) else ((fun _ _ => True), (fun _ _ _ _ => True), [999])) ⟨⟨fn_fail, rfl⟩, ⟨fn_next, rfl⟩, ⟨fn_X4_takeSum_at_7, rfl⟩, ⟨fn_skip, rfl⟩, ⟨fn_isD, rfl⟩, ⟨fn_digits, rfl⟩, ⟨fn_add, rfl⟩, ⟨fn_add, rfl⟩, ⟨fn_fail, rfl⟩, trivial⟩ (fun g H as hg hW ha hp hP => by
  obtain ⟨p0, p1, p2, rfl, A0, A1, A2⟩ := aargs3 ha
  have e1 := arg_sing (n := 213) A1 rfl
  subst e1
  obtain ⟨c, rfl, hc, ht⟩ := arg_ref A0
  obtain ⟨d, rfl, d1, d2, _⟩ := arg_int A2
  have ed : d = 6 := by omega
  subst ed
  obtain ⟨hP1, hP2⟩ := hP
  refine ⟨_, _, hf_X4_takeThing (T := ta_X4_takeThing_at_6) c 6 2 ?_ ?_ ?_ ?_ ?_ ?_ ?_ H hW hP1 (by omega) hP2⟩ <;> rfl)

theorem fn_X4_takeProduct_at_6 : FnOK cc_X4_takeProduct_at_6 Ptk (Rtk (fun T z => pPr (lwTh T z 3) T z)) := am_okF (T := ta_X4_takeProduct_at_6) (B := bm_X4_takeProduct) (cs := cz_X4_takeProduct_at_6) vm_X4_takeProduct cvb_X4_takeProduct (by decide +kernel) ch_X4_takeProduct_at_6 ck_X4_takeProduct_at_6 (RG := fun n => bif Nat.beq n 47 then (Ptk, Rtk (fun T z => lwTh T z 3), [4, 10, 47, 3010, 4004, 4010]) else bif Nat.beq n 48 then ((fun _ _ => True), RisS, []) else bif Nat.beq n 49 then ((fun _ _ => True), RisP, []) else bif Nat.beq n 50 then ((fun _ _ => True), Radd, [4, 47]) else bif Nat.beq n 95 then ((fun _ _ => True), Rnext, []) else bif Nat.beq n 96 then ((fun _ _ => True), Rfail, [3010, 4010]) else bif Nat.beq n 97 then ((fun _ _ => True), Rskip, [3010, 4010]) else bif Nat.beq n 98 then ((fun _ _ => True), RisD, []) else bif Nat.beq n 100 then ((fun as _ => 0 ≤ ai as 1 ∧ ai as 1 ≤ 4), Rdgt, [10]) else ((fun _ _ => True), (fun _ _ _ _ => True), [999])) ⟨⟨fn_X4_takeThing_at_6, rfl⟩, ⟨fn_next, rfl⟩, ⟨fn_isP, rfl⟩, ⟨fn_next, rfl⟩, ⟨fn_X4_takeThing_at_6, rfl⟩, ⟨fn_add, rfl⟩, trivial⟩ (fun g H as hg hW ha hp hP => by
  obtain ⟨p0, p1, p2, rfl, A0, A1, A2⟩ := aargs3 ha
  have e1 := arg_sing (n := 213) A1 rfl
  subst e1
  obtain ⟨c, rfl, hc, ht⟩ := arg_ref A0
  obtain ⟨d, rfl, d1, d2, _⟩ := arg_int A2
  have ed : d = 6 := by omega
  subst ed
  obtain ⟨hP1, hP2⟩ := hP
  refine ⟨_, _, hf_X4_takeProduct (T := ta_X4_takeProduct_at_6) c 6 3 ?_ ?_ ?_ ?_ H hW hP1 hP2⟩ <;> rfl)

theorem fn_X4_takeSum_at_6 : FnOK cc_X4_takeSum_at_6 Ptk (Rtk (fun T z => sSm (lwTh T z 3) T z)) := am_okF (T := ta_X4_takeSum_at_6) (B := bm_X4_takeSum) (cs := cz_X4_takeSum_at_6) vm_X4_takeSum cvb_X4_takeSum (by decide +kernel) ch_X4_takeSum_at_6 ck_X4_takeSum_at_6 (RG := fun n => bif Nat.beq n 46 then (Ptk, Rtk (fun T z => pPr (lwTh T z 3) T z), [4, 10, 47, 3010, 4004, 4010]) else bif Nat.beq n 48 then ((fun _ _ => True), RisS, []) else bif Nat.beq n 49 then ((fun _ _ => True), RisP, []) else bif Nat.beq n 50 then ((fun _ _ => True), Radd, [4, 47]) else bif Nat.beq n 95 then ((fun _ _ => True), Rnext, []) else bif Nat.beq n 96 then ((fun _ _ => True), Rfail, [3010, 4010]) else bif Nat.beq n 97 then ((fun _ _ => True), Rskip, [3010, 4010]) else bif Nat.beq n 98 then ((fun _ _ => True), RisD, []) else bif Nat.beq n 100 then ((fun as _ => 0 ≤ ai as 1 ∧ ai as 1 ≤ 4), Rdgt, [10]) else ((fun _ _ => True), (fun _ _ _ _ => True), [999])) ⟨⟨fn_X4_takeProduct_at_6, rfl⟩, ⟨fn_next, rfl⟩, ⟨fn_isS, rfl⟩, ⟨fn_next, rfl⟩, ⟨fn_X4_takeProduct_at_6, rfl⟩, ⟨fn_add, rfl⟩, trivial⟩ (fun g H as hg hW ha hp hP => by
  obtain ⟨p0, p1, p2, rfl, A0, A1, A2⟩ := aargs3 ha
  have e1 := arg_sing (n := 213) A1 rfl
  subst e1
  obtain ⟨c, rfl, hc, ht⟩ := arg_ref A0
  obtain ⟨d, rfl, d1, d2, _⟩ := arg_int A2
  have ed : d = 6 := by omega
  subst ed
  obtain ⟨hP1, hP2⟩ := hP
  refine ⟨_, _, hf_X4_takeSum (T := ta_X4_takeSum_at_6) c 6 3 ?_ ?_ ?_ ?_ H hW hP1 hP2⟩ <;> rfl)

theorem fn_X4_takeThing_at_5 : FnOK cc_X4_takeThing_at_5 Ptk (Rtk (fun T z => lwTh T z 4)) := am_okF (T := ta_X4_takeThing_at_5) (B := bm_X4_takeThing) (cs := cz_X4_takeThing_at_5) vm_X4_takeThing cvb_X4_takeThing (by decide +kernel) ch_X4_takeThing_at_5 ck_X4_takeThing_at_5 (RG := fun n => bif Nat.beq n 45 then (Ptk, Rtk (fun T z => sSm (lwTh T z 3) T z), [4, 10, 47, 3010, 4004, 4010]) else bif Nat.beq n 48 then ((fun _ _ => True), RisS, []) else bif Nat.beq n 49 then ((fun _ _ => True), RisP, []) else bif Nat.beq n 50 then ((fun _ _ => True), Radd, [4, 47]) else bif Nat.beq n 95 then ((fun _ _ => True), Rnext, []) else bif Nat.beq n 96 then ((fun _ _ => True), Rfail, [3010, 4010]) else bif Nat.beq n 97 then ((fun _ _ => True), Rskip, [3010, 4010]) else bif Nat.beq n 98 then ((fun _ _ => True), RisD, []) else bif Nat.beq n 100 then ((fun as _ => 0 ≤ ai as 1 ∧ ai as 1 ≤ 4), Rdgt, [10]) else ((fun _ _ => True), (fun _ _ _ _ => True), [999])) ⟨⟨fn_fail, rfl⟩, ⟨fn_next, rfl⟩, ⟨fn_X4_takeSum_at_6, rfl⟩, ⟨fn_skip, rfl⟩, ⟨fn_isD, rfl⟩, ⟨fn_digits, rfl⟩, ⟨fn_add, rfl⟩, ⟨fn_add, rfl⟩, ⟨fn_fail, rfl⟩, trivial⟩ (fun g H as hg hW ha hp hP => by
  obtain ⟨p0, p1, p2, rfl, A0, A1, A2⟩ := aargs3 ha
  have e1 := arg_sing (n := 213) A1 rfl
  subst e1
  obtain ⟨c, rfl, hc, ht⟩ := arg_ref A0
  obtain ⟨d, rfl, d1, d2, _⟩ := arg_int A2
  have ed : d = 5 := by omega
  subst ed
  obtain ⟨hP1, hP2⟩ := hP
  refine ⟨_, _, hf_X4_takeThing (T := ta_X4_takeThing_at_5) c 5 3 ?_ ?_ ?_ ?_ ?_ ?_ ?_ H hW hP1 (by omega) hP2⟩ <;> rfl)

theorem fn_X4_takeProduct_at_5 : FnOK cc_X4_takeProduct_at_5 Ptk (Rtk (fun T z => pPr (lwTh T z 4) T z)) := am_okF (T := ta_X4_takeProduct_at_5) (B := bm_X4_takeProduct) (cs := cz_X4_takeProduct_at_5) vm_X4_takeProduct cvb_X4_takeProduct (by decide +kernel) ch_X4_takeProduct_at_5 ck_X4_takeProduct_at_5 (RG := fun n => bif Nat.beq n 47 then (Ptk, Rtk (fun T z => lwTh T z 4), [4, 10, 47, 3010, 4004, 4010]) else bif Nat.beq n 48 then ((fun _ _ => True), RisS, []) else bif Nat.beq n 49 then ((fun _ _ => True), RisP, []) else bif Nat.beq n 50 then ((fun _ _ => True), Radd, [4, 47]) else bif Nat.beq n 95 then ((fun _ _ => True), Rnext, []) else bif Nat.beq n 96 then ((fun _ _ => True), Rfail, [3010, 4010]) else bif Nat.beq n 97 then ((fun _ _ => True), Rskip, [3010, 4010]) else bif Nat.beq n 98 then ((fun _ _ => True), RisD, []) else bif Nat.beq n 100 then ((fun as _ => 0 ≤ ai as 1 ∧ ai as 1 ≤ 4), Rdgt, [10]) else ((fun _ _ => True), (fun _ _ _ _ => True), [999])) ⟨⟨fn_X4_takeThing_at_5, rfl⟩, ⟨fn_next, rfl⟩, ⟨fn_isP, rfl⟩, ⟨fn_next, rfl⟩, ⟨fn_X4_takeThing_at_5, rfl⟩, ⟨fn_add, rfl⟩, trivial⟩ (fun g H as hg hW ha hp hP => by
  obtain ⟨p0, p1, p2, rfl, A0, A1, A2⟩ := aargs3 ha
  have e1 := arg_sing (n := 213) A1 rfl
  subst e1
  obtain ⟨c, rfl, hc, ht⟩ := arg_ref A0
  obtain ⟨d, rfl, d1, d2, _⟩ := arg_int A2
  have ed : d = 5 := by omega
  subst ed
  obtain ⟨hP1, hP2⟩ := hP
  refine ⟨_, _, hf_X4_takeProduct (T := ta_X4_takeProduct_at_5) c 5 4 ?_ ?_ ?_ ?_ H hW hP1 hP2⟩ <;> rfl)

theorem fn_X4_takeSum_at_5 : FnOK cc_X4_takeSum_at_5 Ptk (Rtk (fun T z => sSm (lwTh T z 4) T z)) := am_okF (T := ta_X4_takeSum_at_5) (B := bm_X4_takeSum) (cs := cz_X4_takeSum_at_5) vm_X4_takeSum cvb_X4_takeSum (by decide +kernel) ch_X4_takeSum_at_5 ck_X4_takeSum_at_5 (RG := fun n => bif Nat.beq n 46 then (Ptk, Rtk (fun T z => pPr (lwTh T z 4) T z), [4, 10, 47, 3010, 4004, 4010]) else bif Nat.beq n 48 then ((fun _ _ => True), RisS, []) else bif Nat.beq n 49 then ((fun _ _ => True), RisP, []) else bif Nat.beq n 50 then ((fun _ _ => True), Radd, [4, 47]) else bif Nat.beq n 95 then ((fun _ _ => True), Rnext, []) else bif Nat.beq n 96 then ((fun _ _ => True), Rfail, [3010, 4010]) else bif Nat.beq n 97 then ((fun _ _ => True), Rskip, [3010, 4010]) else bif Nat.beq n 98 then ((fun _ _ => True), RisD, []) else bif Nat.beq n 100 then ((fun as _ => 0 ≤ ai as 1 ∧ ai as 1 ≤ 4), Rdgt, [10]) else ((fun _ _ => True), (fun _ _ _ _ => True), [999])) ⟨⟨fn_X4_takeProduct_at_5, rfl⟩, ⟨fn_next, rfl⟩, ⟨fn_isS, rfl⟩, ⟨fn_next, rfl⟩, ⟨fn_X4_takeProduct_at_5, rfl⟩, ⟨fn_add, rfl⟩, trivial⟩ (fun g H as hg hW ha hp hP => by
  obtain ⟨p0, p1, p2, rfl, A0, A1, A2⟩ := aargs3 ha
  have e1 := arg_sing (n := 213) A1 rfl
  subst e1
  obtain ⟨c, rfl, hc, ht⟩ := arg_ref A0
  obtain ⟨d, rfl, d1, d2, _⟩ := arg_int A2
  have ed : d = 5 := by omega
  subst ed
  obtain ⟨hP1, hP2⟩ := hP
  refine ⟨_, _, hf_X4_takeSum (T := ta_X4_takeSum_at_5) c 5 4 ?_ ?_ ?_ ?_ H hW hP1 hP2⟩ <;> rfl)

theorem fn_X4_takeThing_at_4 : FnOK cc_X4_takeThing_at_4 Ptk (Rtk (fun T z => lwTh T z 5)) := am_okF (T := ta_X4_takeThing_at_4) (B := bm_X4_takeThing) (cs := cz_X4_takeThing_at_4) vm_X4_takeThing cvb_X4_takeThing (by decide +kernel) ch_X4_takeThing_at_4 ck_X4_takeThing_at_4 (RG := fun n => bif Nat.beq n 45 then (Ptk, Rtk (fun T z => sSm (lwTh T z 4) T z), [4, 10, 47, 3010, 4004, 4010]) else bif Nat.beq n 48 then ((fun _ _ => True), RisS, []) else bif Nat.beq n 49 then ((fun _ _ => True), RisP, []) else bif Nat.beq n 50 then ((fun _ _ => True), Radd, [4, 47]) else bif Nat.beq n 95 then ((fun _ _ => True), Rnext, []) else bif Nat.beq n 96 then ((fun _ _ => True), Rfail, [3010, 4010]) else bif Nat.beq n 97 then ((fun _ _ => True), Rskip, [3010, 4010]) else bif Nat.beq n 98 then ((fun _ _ => True), RisD, []) else bif Nat.beq n 100 then ((fun as _ => 0 ≤ ai as 1 ∧ ai as 1 ≤ 4), Rdgt, [10]) else ((fun _ _ => True), (fun _ _ _ _ => True), [999])) ⟨⟨fn_fail, rfl⟩, ⟨fn_next, rfl⟩, ⟨fn_X4_takeSum_at_5, rfl⟩, ⟨fn_skip, rfl⟩, ⟨fn_isD, rfl⟩, ⟨fn_digits, rfl⟩, ⟨fn_add, rfl⟩, ⟨fn_add, rfl⟩, ⟨fn_fail, rfl⟩, trivial⟩ (fun g H as hg hW ha hp hP => by
  obtain ⟨p0, p1, p2, rfl, A0, A1, A2⟩ := aargs3 ha
  have e1 := arg_sing (n := 213) A1 rfl
  subst e1
  obtain ⟨c, rfl, hc, ht⟩ := arg_ref A0
  obtain ⟨d, rfl, d1, d2, _⟩ := arg_int A2
  have ed : d = 4 := by omega
  subst ed
  obtain ⟨hP1, hP2⟩ := hP
  refine ⟨_, _, hf_X4_takeThing (T := ta_X4_takeThing_at_4) c 4 4 ?_ ?_ ?_ ?_ ?_ ?_ ?_ H hW hP1 (by omega) hP2⟩ <;> rfl)

theorem fn_X4_takeProduct_at_4 : FnOK cc_X4_takeProduct_at_4 Ptk (Rtk (fun T z => pPr (lwTh T z 5) T z)) := am_okF (T := ta_X4_takeProduct_at_4) (B := bm_X4_takeProduct) (cs := cz_X4_takeProduct_at_4) vm_X4_takeProduct cvb_X4_takeProduct (by decide +kernel) ch_X4_takeProduct_at_4 ck_X4_takeProduct_at_4 (RG := fun n => bif Nat.beq n 47 then (Ptk, Rtk (fun T z => lwTh T z 5), [4, 10, 47, 3010, 4004, 4010]) else bif Nat.beq n 48 then ((fun _ _ => True), RisS, []) else bif Nat.beq n 49 then ((fun _ _ => True), RisP, []) else bif Nat.beq n 50 then ((fun _ _ => True), Radd, [4, 47]) else bif Nat.beq n 95 then ((fun _ _ => True), Rnext, []) else bif Nat.beq n 96 then ((fun _ _ => True), Rfail, [3010, 4010]) else bif Nat.beq n 97 then ((fun _ _ => True), Rskip, [3010, 4010]) else bif Nat.beq n 98 then ((fun _ _ => True), RisD, []) else bif Nat.beq n 100 then ((fun as _ => 0 ≤ ai as 1 ∧ ai as 1 ≤ 4), Rdgt, [10]) else ((fun _ _ => True), (fun _ _ _ _ => True), [999])) ⟨⟨fn_X4_takeThing_at_4, rfl⟩, ⟨fn_next, rfl⟩, ⟨fn_isP, rfl⟩, ⟨fn_next, rfl⟩, ⟨fn_X4_takeThing_at_4, rfl⟩, ⟨fn_add, rfl⟩, trivial⟩ (fun g H as hg hW ha hp hP => by
  obtain ⟨p0, p1, p2, rfl, A0, A1, A2⟩ := aargs3 ha
  have e1 := arg_sing (n := 213) A1 rfl
  subst e1
  obtain ⟨c, rfl, hc, ht⟩ := arg_ref A0
  obtain ⟨d, rfl, d1, d2, _⟩ := arg_int A2
  have ed : d = 4 := by omega
  subst ed
  obtain ⟨hP1, hP2⟩ := hP
  refine ⟨_, _, hf_X4_takeProduct (T := ta_X4_takeProduct_at_4) c 4 5 ?_ ?_ ?_ ?_ H hW hP1 hP2⟩ <;> rfl)

theorem fn_X4_takeSum_at_4 : FnOK cc_X4_takeSum_at_4 Ptk (Rtk (fun T z => sSm (lwTh T z 5) T z)) := am_okF (T := ta_X4_takeSum_at_4) (B := bm_X4_takeSum) (cs := cz_X4_takeSum_at_4) vm_X4_takeSum cvb_X4_takeSum (by decide +kernel) ch_X4_takeSum_at_4 ck_X4_takeSum_at_4 (RG := fun n => bif Nat.beq n 46 then (Ptk, Rtk (fun T z => pPr (lwTh T z 5) T z), [4, 10, 47, 3010, 4004, 4010]) else bif Nat.beq n 48 then ((fun _ _ => True), RisS, []) else bif Nat.beq n 49 then ((fun _ _ => True), RisP, []) else bif Nat.beq n 50 then ((fun _ _ => True), Radd, [4, 47]) else bif Nat.beq n 95 then ((fun _ _ => True), Rnext, []) else bif Nat.beq n 96 then ((fun _ _ => True), Rfail, [3010, 4010]) else bif Nat.beq n 97 then ((fun _ _ => True), Rskip, [3010, 4010]) else bif Nat.beq n 98 then ((fun _ _ => True), RisD, []) else bif Nat.beq n 100 then ((fun as _ => 0 ≤ ai as 1 ∧ ai as 1 ≤ 4), Rdgt, [10]) else ((fun _ _ => True), (fun _ _ _ _ => True), [999])) ⟨⟨fn_X4_takeProduct_at_4, rfl⟩, ⟨fn_next, rfl⟩, ⟨fn_isS, rfl⟩, ⟨fn_next, rfl⟩, ⟨fn_X4_takeProduct_at_4, rfl⟩, ⟨fn_add, rfl⟩, trivial⟩ (fun g H as hg hW ha hp hP => by
  obtain ⟨p0, p1, p2, rfl, A0, A1, A2⟩ := aargs3 ha
  have e1 := arg_sing (n := 213) A1 rfl
  subst e1
  obtain ⟨c, rfl, hc, ht⟩ := arg_ref A0
  obtain ⟨d, rfl, d1, d2, _⟩ := arg_int A2
  have ed : d = 4 := by omega
  subst ed
  obtain ⟨hP1, hP2⟩ := hP
  refine ⟨_, _, hf_X4_takeSum (T := ta_X4_takeSum_at_4) c 4 5 ?_ ?_ ?_ ?_ H hW hP1 hP2⟩ <;> rfl)

theorem fn_X4_takeThing_at_3 : FnOK cc_X4_takeThing_at_3 Ptk (Rtk (fun T z => lwTh T z 6)) := am_okF (T := ta_X4_takeThing_at_3) (B := bm_X4_takeThing) (cs := cz_X4_takeThing_at_3) vm_X4_takeThing cvb_X4_takeThing (by decide +kernel) ch_X4_takeThing_at_3 ck_X4_takeThing_at_3 (RG := fun n => bif Nat.beq n 45 then (Ptk, Rtk (fun T z => sSm (lwTh T z 5) T z), [4, 10, 47, 3010, 4004, 4010]) else bif Nat.beq n 48 then ((fun _ _ => True), RisS, []) else bif Nat.beq n 49 then ((fun _ _ => True), RisP, []) else bif Nat.beq n 50 then ((fun _ _ => True), Radd, [4, 47]) else bif Nat.beq n 95 then ((fun _ _ => True), Rnext, []) else bif Nat.beq n 96 then ((fun _ _ => True), Rfail, [3010, 4010]) else bif Nat.beq n 97 then ((fun _ _ => True), Rskip, [3010, 4010]) else bif Nat.beq n 98 then ((fun _ _ => True), RisD, []) else bif Nat.beq n 100 then ((fun as _ => 0 ≤ ai as 1 ∧ ai as 1 ≤ 4), Rdgt, [10]) else ((fun _ _ => True), (fun _ _ _ _ => True), [999])) ⟨⟨fn_fail, rfl⟩, ⟨fn_next, rfl⟩, ⟨fn_X4_takeSum_at_4, rfl⟩, ⟨fn_skip, rfl⟩, ⟨fn_isD, rfl⟩, ⟨fn_digits, rfl⟩, ⟨fn_add, rfl⟩, ⟨fn_add, rfl⟩, ⟨fn_fail, rfl⟩, trivial⟩ (fun g H as hg hW ha hp hP => by
  obtain ⟨p0, p1, p2, rfl, A0, A1, A2⟩ := aargs3 ha
  have e1 := arg_sing (n := 213) A1 rfl
  subst e1
  obtain ⟨c, rfl, hc, ht⟩ := arg_ref A0
  obtain ⟨d, rfl, d1, d2, _⟩ := arg_int A2
  have ed : d = 3 := by omega
  subst ed
  obtain ⟨hP1, hP2⟩ := hP
  refine ⟨_, _, hf_X4_takeThing (T := ta_X4_takeThing_at_3) c 3 5 ?_ ?_ ?_ ?_ ?_ ?_ ?_ H hW hP1 (by omega) hP2⟩ <;> rfl)

theorem fn_X4_takeProduct_at_3 : FnOK cc_X4_takeProduct_at_3 Ptk (Rtk (fun T z => pPr (lwTh T z 6) T z)) := am_okF (T := ta_X4_takeProduct_at_3) (B := bm_X4_takeProduct) (cs := cz_X4_takeProduct_at_3) vm_X4_takeProduct cvb_X4_takeProduct (by decide +kernel) ch_X4_takeProduct_at_3 ck_X4_takeProduct_at_3 (RG := fun n => bif Nat.beq n 47 then (Ptk, Rtk (fun T z => lwTh T z 6), [4, 10, 47, 3010, 4004, 4010]) else bif Nat.beq n 48 then ((fun _ _ => True), RisS, []) else bif Nat.beq n 49 then ((fun _ _ => True), RisP, []) else bif Nat.beq n 50 then ((fun _ _ => True), Radd, [4, 47]) else bif Nat.beq n 95 then ((fun _ _ => True), Rnext, []) else bif Nat.beq n 96 then ((fun _ _ => True), Rfail, [3010, 4010]) else bif Nat.beq n 97 then ((fun _ _ => True), Rskip, [3010, 4010]) else bif Nat.beq n 98 then ((fun _ _ => True), RisD, []) else bif Nat.beq n 100 then ((fun as _ => 0 ≤ ai as 1 ∧ ai as 1 ≤ 4), Rdgt, [10]) else ((fun _ _ => True), (fun _ _ _ _ => True), [999])) ⟨⟨fn_X4_takeThing_at_3, rfl⟩, ⟨fn_next, rfl⟩, ⟨fn_isP, rfl⟩, ⟨fn_next, rfl⟩, ⟨fn_X4_takeThing_at_3, rfl⟩, ⟨fn_add, rfl⟩, trivial⟩ (fun g H as hg hW ha hp hP => by
  obtain ⟨p0, p1, p2, rfl, A0, A1, A2⟩ := aargs3 ha
  have e1 := arg_sing (n := 213) A1 rfl
  subst e1
  obtain ⟨c, rfl, hc, ht⟩ := arg_ref A0
  obtain ⟨d, rfl, d1, d2, _⟩ := arg_int A2
  have ed : d = 3 := by omega
  subst ed
  obtain ⟨hP1, hP2⟩ := hP
  refine ⟨_, _, hf_X4_takeProduct (T := ta_X4_takeProduct_at_3) c 3 6 ?_ ?_ ?_ ?_ H hW hP1 hP2⟩ <;> rfl)

theorem fn_X4_takeSum_at_3 : FnOK cc_X4_takeSum_at_3 Ptk (Rtk (fun T z => sSm (lwTh T z 6) T z)) := am_okF (T := ta_X4_takeSum_at_3) (B := bm_X4_takeSum) (cs := cz_X4_takeSum_at_3) vm_X4_takeSum cvb_X4_takeSum (by decide +kernel) ch_X4_takeSum_at_3 ck_X4_takeSum_at_3 (RG := fun n => bif Nat.beq n 46 then (Ptk, Rtk (fun T z => pPr (lwTh T z 6) T z), [4, 10, 47, 3010, 4004, 4010]) else bif Nat.beq n 48 then ((fun _ _ => True), RisS, []) else bif Nat.beq n 49 then ((fun _ _ => True), RisP, []) else bif Nat.beq n 50 then ((fun _ _ => True), Radd, [4, 47]) else bif Nat.beq n 95 then ((fun _ _ => True), Rnext, []) else bif Nat.beq n 96 then ((fun _ _ => True), Rfail, [3010, 4010]) else bif Nat.beq n 97 then ((fun _ _ => True), Rskip, [3010, 4010]) else bif Nat.beq n 98 then ((fun _ _ => True), RisD, []) else bif Nat.beq n 100 then ((fun as _ => 0 ≤ ai as 1 ∧ ai as 1 ≤ 4), Rdgt, [10]) else ((fun _ _ => True), (fun _ _ _ _ => True), [999])) ⟨⟨fn_X4_takeProduct_at_3, rfl⟩, ⟨fn_next, rfl⟩, ⟨fn_isS, rfl⟩, ⟨fn_next, rfl⟩, ⟨fn_X4_takeProduct_at_3, rfl⟩, ⟨fn_add, rfl⟩, trivial⟩ (fun g H as hg hW ha hp hP => by
  obtain ⟨p0, p1, p2, rfl, A0, A1, A2⟩ := aargs3 ha
  have e1 := arg_sing (n := 213) A1 rfl
  subst e1
  obtain ⟨c, rfl, hc, ht⟩ := arg_ref A0
  obtain ⟨d, rfl, d1, d2, _⟩ := arg_int A2
  have ed : d = 3 := by omega
  subst ed
  obtain ⟨hP1, hP2⟩ := hP
  refine ⟨_, _, hf_X4_takeSum (T := ta_X4_takeSum_at_3) c 3 6 ?_ ?_ ?_ ?_ H hW hP1 hP2⟩ <;> rfl)

theorem fn_X4_takeThing_at_2 : FnOK cc_X4_takeThing_at_2 Ptk (Rtk (fun T z => lwTh T z 7)) := am_okF (T := ta_X4_takeThing_at_2) (B := bm_X4_takeThing) (cs := cz_X4_takeThing_at_2) vm_X4_takeThing cvb_X4_takeThing (by decide +kernel) ch_X4_takeThing_at_2 ck_X4_takeThing_at_2 (RG := fun n => bif Nat.beq n 45 then (Ptk, Rtk (fun T z => sSm (lwTh T z 6) T z), [4, 10, 47, 3010, 4004, 4010]) else bif Nat.beq n 48 then ((fun _ _ => True), RisS, []) else bif Nat.beq n 49 then ((fun _ _ => True), RisP, []) else bif Nat.beq n 50 then ((fun _ _ => True), Radd, [4, 47]) else bif Nat.beq n 95 then ((fun _ _ => True), Rnext, []) else bif Nat.beq n 96 then ((fun _ _ => True), Rfail, [3010, 4010]) else bif Nat.beq n 97 then ((fun _ _ => True), Rskip, [3010, 4010]) else bif Nat.beq n 98 then ((fun _ _ => True), RisD, []) else bif Nat.beq n 100 then ((fun as _ => 0 ≤ ai as 1 ∧ ai as 1 ≤ 4), Rdgt, [10]) else ((fun _ _ => True), (fun _ _ _ _ => True), [999])) ⟨⟨fn_fail, rfl⟩, ⟨fn_next, rfl⟩, ⟨fn_X4_takeSum_at_3, rfl⟩, ⟨fn_skip, rfl⟩, ⟨fn_isD, rfl⟩, ⟨fn_digits, rfl⟩, ⟨fn_add, rfl⟩, ⟨fn_add, rfl⟩, ⟨fn_fail, rfl⟩, trivial⟩ (fun g H as hg hW ha hp hP => by
  obtain ⟨p0, p1, p2, rfl, A0, A1, A2⟩ := aargs3 ha
  have e1 := arg_sing (n := 213) A1 rfl
  subst e1
  obtain ⟨c, rfl, hc, ht⟩ := arg_ref A0
  obtain ⟨d, rfl, d1, d2, _⟩ := arg_int A2
  have ed : d = 2 := by omega
  subst ed
  obtain ⟨hP1, hP2⟩ := hP
  refine ⟨_, _, hf_X4_takeThing (T := ta_X4_takeThing_at_2) c 2 6 ?_ ?_ ?_ ?_ ?_ ?_ ?_ H hW hP1 (by omega) hP2⟩ <;> rfl)

theorem fn_X4_takeProduct_at_2 : FnOK cc_X4_takeProduct_at_2 Ptk (Rtk (fun T z => pPr (lwTh T z 7) T z)) := am_okF (T := ta_X4_takeProduct_at_2) (B := bm_X4_takeProduct) (cs := cz_X4_takeProduct_at_2) vm_X4_takeProduct cvb_X4_takeProduct (by decide +kernel) ch_X4_takeProduct_at_2 ck_X4_takeProduct_at_2 (RG := fun n => bif Nat.beq n 47 then (Ptk, Rtk (fun T z => lwTh T z 7), [4, 10, 47, 3010, 4004, 4010]) else bif Nat.beq n 48 then ((fun _ _ => True), RisS, []) else bif Nat.beq n 49 then ((fun _ _ => True), RisP, []) else bif Nat.beq n 50 then ((fun _ _ => True), Radd, [4, 47]) else bif Nat.beq n 95 then ((fun _ _ => True), Rnext, []) else bif Nat.beq n 96 then ((fun _ _ => True), Rfail, [3010, 4010]) else bif Nat.beq n 97 then ((fun _ _ => True), Rskip, [3010, 4010]) else bif Nat.beq n 98 then ((fun _ _ => True), RisD, []) else bif Nat.beq n 100 then ((fun as _ => 0 ≤ ai as 1 ∧ ai as 1 ≤ 4), Rdgt, [10]) else ((fun _ _ => True), (fun _ _ _ _ => True), [999])) ⟨⟨fn_X4_takeThing_at_2, rfl⟩, ⟨fn_next, rfl⟩, ⟨fn_isP, rfl⟩, ⟨fn_next, rfl⟩, ⟨fn_X4_takeThing_at_2, rfl⟩, ⟨fn_add, rfl⟩, trivial⟩ (fun g H as hg hW ha hp hP => by
  obtain ⟨p0, p1, p2, rfl, A0, A1, A2⟩ := aargs3 ha
  have e1 := arg_sing (n := 213) A1 rfl
  subst e1
  obtain ⟨c, rfl, hc, ht⟩ := arg_ref A0
  obtain ⟨d, rfl, d1, d2, _⟩ := arg_int A2
  have ed : d = 2 := by omega
  subst ed
  obtain ⟨hP1, hP2⟩ := hP
  refine ⟨_, _, hf_X4_takeProduct (T := ta_X4_takeProduct_at_2) c 2 7 ?_ ?_ ?_ ?_ H hW hP1 hP2⟩ <;> rfl)

theorem fn_X4_takeSum_at_2 : FnOK cc_X4_takeSum_at_2 Ptk (Rtk (fun T z => sSm (lwTh T z 7) T z)) := am_okF (T := ta_X4_takeSum_at_2) (B := bm_X4_takeSum) (cs := cz_X4_takeSum_at_2) vm_X4_takeSum cvb_X4_takeSum (by decide +kernel) ch_X4_takeSum_at_2 ck_X4_takeSum_at_2 (RG := fun n => bif Nat.beq n 46 then (Ptk, Rtk (fun T z => pPr (lwTh T z 7) T z), [4, 10, 47, 3010, 4004, 4010]) else bif Nat.beq n 48 then ((fun _ _ => True), RisS, []) else bif Nat.beq n 49 then ((fun _ _ => True), RisP, []) else bif Nat.beq n 50 then ((fun _ _ => True), Radd, [4, 47]) else bif Nat.beq n 95 then ((fun _ _ => True), Rnext, []) else bif Nat.beq n 96 then ((fun _ _ => True), Rfail, [3010, 4010]) else bif Nat.beq n 97 then ((fun _ _ => True), Rskip, [3010, 4010]) else bif Nat.beq n 98 then ((fun _ _ => True), RisD, []) else bif Nat.beq n 100 then ((fun as _ => 0 ≤ ai as 1 ∧ ai as 1 ≤ 4), Rdgt, [10]) else ((fun _ _ => True), (fun _ _ _ _ => True), [999])) ⟨⟨fn_X4_takeProduct_at_2, rfl⟩, ⟨fn_next, rfl⟩, ⟨fn_isS, rfl⟩, ⟨fn_next, rfl⟩, ⟨fn_X4_takeProduct_at_2, rfl⟩, ⟨fn_add, rfl⟩, trivial⟩ (fun g H as hg hW ha hp hP => by
  obtain ⟨p0, p1, p2, rfl, A0, A1, A2⟩ := aargs3 ha
  have e1 := arg_sing (n := 213) A1 rfl
  subst e1
  obtain ⟨c, rfl, hc, ht⟩ := arg_ref A0
  obtain ⟨d, rfl, d1, d2, _⟩ := arg_int A2
  have ed : d = 2 := by omega
  subst ed
  obtain ⟨hP1, hP2⟩ := hP
  refine ⟨_, _, hf_X4_takeSum (T := ta_X4_takeSum_at_2) c 2 7 ?_ ?_ ?_ ?_ H hW hP1 hP2⟩ <;> rfl)

theorem fn_X4_takeThing_at_1 : FnOK cc_X4_takeThing_at_1 Ptk (Rtk (fun T z => lwTh T z 8)) := am_okF (T := ta_X4_takeThing_at_1) (B := bm_X4_takeThing) (cs := cz_X4_takeThing_at_1) vm_X4_takeThing cvb_X4_takeThing (by decide +kernel) ch_X4_takeThing_at_1 ck_X4_takeThing_at_1 (RG := fun n => bif Nat.beq n 45 then (Ptk, Rtk (fun T z => sSm (lwTh T z 7) T z), [4, 10, 47, 3010, 4004, 4010]) else bif Nat.beq n 48 then ((fun _ _ => True), RisS, []) else bif Nat.beq n 49 then ((fun _ _ => True), RisP, []) else bif Nat.beq n 50 then ((fun _ _ => True), Radd, [4, 47]) else bif Nat.beq n 95 then ((fun _ _ => True), Rnext, []) else bif Nat.beq n 96 then ((fun _ _ => True), Rfail, [3010, 4010]) else bif Nat.beq n 97 then ((fun _ _ => True), Rskip, [3010, 4010]) else bif Nat.beq n 98 then ((fun _ _ => True), RisD, []) else bif Nat.beq n 100 then ((fun as _ => 0 ≤ ai as 1 ∧ ai as 1 ≤ 4), Rdgt, [10]) else ((fun _ _ => True), (fun _ _ _ _ => True), [999])) ⟨⟨fn_fail, rfl⟩, ⟨fn_next, rfl⟩, ⟨fn_X4_takeSum_at_2, rfl⟩, ⟨fn_skip, rfl⟩, ⟨fn_isD, rfl⟩, ⟨fn_digits, rfl⟩, ⟨fn_add, rfl⟩, ⟨fn_add, rfl⟩, ⟨fn_fail, rfl⟩, trivial⟩ (fun g H as hg hW ha hp hP => by
  obtain ⟨p0, p1, p2, rfl, A0, A1, A2⟩ := aargs3 ha
  have e1 := arg_sing (n := 213) A1 rfl
  subst e1
  obtain ⟨c, rfl, hc, ht⟩ := arg_ref A0
  obtain ⟨d, rfl, d1, d2, _⟩ := arg_int A2
  have ed : d = 1 := by omega
  subst ed
  obtain ⟨hP1, hP2⟩ := hP
  refine ⟨_, _, hf_X4_takeThing (T := ta_X4_takeThing_at_1) c 1 7 ?_ ?_ ?_ ?_ ?_ ?_ ?_ H hW hP1 (by omega) hP2⟩ <;> rfl)

theorem fn_X4_takeProduct_at_1 : FnOK cc_X4_takeProduct_at_1 Ptk (Rtk (fun T z => pPr (lwTh T z 8) T z)) := am_okF (T := ta_X4_takeProduct_at_1) (B := bm_X4_takeProduct) (cs := cz_X4_takeProduct_at_1) vm_X4_takeProduct cvb_X4_takeProduct (by decide +kernel) ch_X4_takeProduct_at_1 ck_X4_takeProduct_at_1 (RG := fun n => bif Nat.beq n 47 then (Ptk, Rtk (fun T z => lwTh T z 8), [4, 10, 47, 3010, 4004, 4010]) else bif Nat.beq n 48 then ((fun _ _ => True), RisS, []) else bif Nat.beq n 49 then ((fun _ _ => True), RisP, []) else bif Nat.beq n 50 then ((fun _ _ => True), Radd, [4, 47]) else bif Nat.beq n 95 then ((fun _ _ => True), Rnext, []) else bif Nat.beq n 96 then ((fun _ _ => True), Rfail, [3010, 4010]) else bif Nat.beq n 97 then ((fun _ _ => True), Rskip, [3010, 4010]) else bif Nat.beq n 98 then ((fun _ _ => True), RisD, []) else bif Nat.beq n 100 then ((fun as _ => 0 ≤ ai as 1 ∧ ai as 1 ≤ 4), Rdgt, [10]) else ((fun _ _ => True), (fun _ _ _ _ => True), [999])) ⟨⟨fn_X4_takeThing_at_1, rfl⟩, ⟨fn_next, rfl⟩, ⟨fn_isP, rfl⟩, ⟨fn_next, rfl⟩, ⟨fn_X4_takeThing_at_1, rfl⟩, ⟨fn_add, rfl⟩, trivial⟩ (fun g H as hg hW ha hp hP => by
  obtain ⟨p0, p1, p2, rfl, A0, A1, A2⟩ := aargs3 ha
  have e1 := arg_sing (n := 213) A1 rfl
  subst e1
  obtain ⟨c, rfl, hc, ht⟩ := arg_ref A0
  obtain ⟨d, rfl, d1, d2, _⟩ := arg_int A2
  have ed : d = 1 := by omega
  subst ed
  obtain ⟨hP1, hP2⟩ := hP
  refine ⟨_, _, hf_X4_takeProduct (T := ta_X4_takeProduct_at_1) c 1 8 ?_ ?_ ?_ ?_ H hW hP1 hP2⟩ <;> rfl)

theorem fn_X4_takeSum_at_1 : FnOK cc_X4_takeSum_at_1 Ptk (Rtk (fun T z => sSm (lwTh T z 8) T z)) := am_okF (T := ta_X4_takeSum_at_1) (B := bm_X4_takeSum) (cs := cz_X4_takeSum_at_1) vm_X4_takeSum cvb_X4_takeSum (by decide +kernel) ch_X4_takeSum_at_1 ck_X4_takeSum_at_1 (RG := fun n => bif Nat.beq n 46 then (Ptk, Rtk (fun T z => pPr (lwTh T z 8) T z), [4, 10, 47, 3010, 4004, 4010]) else bif Nat.beq n 48 then ((fun _ _ => True), RisS, []) else bif Nat.beq n 49 then ((fun _ _ => True), RisP, []) else bif Nat.beq n 50 then ((fun _ _ => True), Radd, [4, 47]) else bif Nat.beq n 95 then ((fun _ _ => True), Rnext, []) else bif Nat.beq n 96 then ((fun _ _ => True), Rfail, [3010, 4010]) else bif Nat.beq n 97 then ((fun _ _ => True), Rskip, [3010, 4010]) else bif Nat.beq n 98 then ((fun _ _ => True), RisD, []) else bif Nat.beq n 100 then ((fun as _ => 0 ≤ ai as 1 ∧ ai as 1 ≤ 4), Rdgt, [10]) else ((fun _ _ => True), (fun _ _ _ _ => True), [999])) ⟨⟨fn_X4_takeProduct_at_1, rfl⟩, ⟨fn_next, rfl⟩, ⟨fn_isS, rfl⟩, ⟨fn_next, rfl⟩, ⟨fn_X4_takeProduct_at_1, rfl⟩, ⟨fn_add, rfl⟩, trivial⟩ (fun g H as hg hW ha hp hP => by
  obtain ⟨p0, p1, p2, rfl, A0, A1, A2⟩ := aargs3 ha
  have e1 := arg_sing (n := 213) A1 rfl
  subst e1
  obtain ⟨c, rfl, hc, ht⟩ := arg_ref A0
  obtain ⟨d, rfl, d1, d2, _⟩ := arg_int A2
  have ed : d = 1 := by omega
  subst ed
  obtain ⟨hP1, hP2⟩ := hP
  refine ⟨_, _, hf_X4_takeSum (T := ta_X4_takeSum_at_1) c 1 8 ?_ ?_ ?_ ?_ H hW hP1 hP2⟩ <;> rfl)

def Rfrom : pR := fun as H r H' => (lwAll (H 214) (H 213 1) = none ∧ r = some (0, -1)) ∨ (lwAll (H 214) (H 213 1) = some (H' (ai as 0) 3, cdC H' (ai as 0)) ∧ r = some (0, H' (ai as 0) 3))

theorem cvb_X4_takeFrom : blOK kd_X4_takeFrom bm_X4_takeFrom := ⟨ve_X4_takeFrom_0, ve_X4_takeFrom_23, ve_X4_takeFrom_34, ve_X4_takeFrom_56, trivial⟩
theorem fn_X4_takeFrom : FnOK cc_X4_takeFrom (fun as _ => LC (ai as 0)) Rfrom := am_okF (T := ta_X4_takeFrom) (B := bm_X4_takeFrom) (cs := cz_X4_takeFrom) vm_X4_takeFrom cvb_X4_takeFrom (by decide +kernel) ch_X4_takeFrom ck_X4_takeFrom (RG := fun n => bif Nat.beq n 45 then (Ptk, Rtk (fun T z => sSm (lwTh T z 8) T z), [4, 10, 47, 3010, 4004, 4010]) else bif Nat.beq n 48 then ((fun _ _ => True), RisS, []) else bif Nat.beq n 49 then ((fun _ _ => True), RisP, []) else bif Nat.beq n 50 then ((fun _ _ => True), Radd, [4, 47]) else bif Nat.beq n 94 then ((fun _ _ => True), Rrew, [3010, 4010]) else bif Nat.beq n 95 then ((fun _ _ => True), Rnext, []) else bif Nat.beq n 96 then ((fun _ _ => True), Rfail, [3010, 4010]) else bif Nat.beq n 97 then ((fun _ _ => True), Rskip, [3010, 4010]) else bif Nat.beq n 98 then ((fun _ _ => True), RisD, []) else bif Nat.beq n 100 then ((fun as _ => 0 ≤ ai as 1 ∧ ai as 1 ≤ 4), Rdgt, [10]) else ((fun _ _ => True), (fun _ _ _ _ => True), [999])) ⟨⟨fn_rewind, rfl⟩, ⟨fn_X4_takeSum_at_1, rfl⟩, ⟨fn_fail, rfl⟩, trivial⟩ (fun g H as hg hW ha hp hP => by
  obtain ⟨p0, p1, rfl, A0, A1⟩ := aargs2 ha
  have e1 := arg_sing (n := 213) A1 rfl
  subst e1
  obtain ⟨c, rfl, hc, ht⟩ := arg_ref A0
  refine ⟨_, _, hf_X4_takeFrom (T := ta_X4_takeFrom) c ?_ ?_ ?_ H hW hP⟩ <;> rfl)
