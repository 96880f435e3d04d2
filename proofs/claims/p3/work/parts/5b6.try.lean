/-! ===== the class reads the law: the contracts ===== -/
theorem cvb_X4_takeThing : blOK kd_X4_takeThing bm_X4_takeThing := ⟨ve_X4_takeThing_0, ve_X4_takeThing_15, ve_X4_takeThing_24, ve_X4_takeThing_79, ve_X4_takeThing_80, ve_X4_takeThing_81, ve_X4_takeThing_99, ve_X4_takeThing_117, ve_X4_takeThing_135, trivial⟩
theorem chb_X4_takeThing_at_9 : amchk ta_X4_takeThing_at_9 bm_X4_takeThing cz_X4_takeThing_at_9 cc_X4_takeThing_at_9 = true := by decide +kernel
theorem fn_X4_takeThing_at_9 : FnOK cc_X4_takeThing_at_9 Ptk (Rtk (fun T z => lwTh T z 0)) := am_okF (T := ta_X4_takeThing_at_9) (B := bm_X4_takeThing) (cs := cz_X4_takeThing_at_9) vm_X4_takeThing cvb_X4_takeThing (by decide +kernel) chb_X4_takeThing_at_9 ck_X4_takeThing_at_9 (RG := fun n => bif Nat.beq n 48 then ((fun _ _ => True), RisS, []) else bif Nat.beq n 49 then ((fun _ _ => True), RisP, []) else bif Nat.beq n 50 then ((fun _ _ => True), Radd, [4, 47]) else bif Nat.beq n 95 then ((fun _ _ => True), Rnext, []) else bif Nat.beq n 96 then ((fun _ _ => True), Rfail, [3010, 4010]) else bif Nat.beq n 97 then ((fun _ _ => True), Rskip, [3010, 4010]) else bif Nat.beq n 98 then ((fun _ _ => True), RisD, []) else bif Nat.beq n 100 then ((fun as _ => 0 ≤ ai as 1 ∧ ai as 1 ≤ 4), Rdgt, [10]) else ((fun _ _ => True), (fun _ _ _ _ => True), [999])) ⟨⟨fn_fail, rfl⟩, trivial⟩ (fun g H as hg hW ha hp hP => by
  obtain ⟨p0, p1, p2, rfl, A0, A1, A2⟩ := aargs3 ha
  have e1 := arg_sing (n := 213) A1 rfl
  subst e1
  obtain ⟨c, rfl, hc, ht⟩ := arg_ref A0
  obtain ⟨d, rfl, d1, d2, _⟩ := arg_int A2
  have ed : d = 9 := by omega
  subst ed
  obtain ⟨hP1, hP2⟩ := hP
  refine ⟨_, _, hf_X4_takeThing9 (T := ta_X4_takeThing_at_9) c ?_ H hW hP1 hP2⟩ <;> rfl)

