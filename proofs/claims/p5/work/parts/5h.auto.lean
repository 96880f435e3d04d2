/-! ===== contracts, levels [10, 11, 12, 13, 14, 15, 16, 17, 18, 19, 20, 21, 22, 23, 24, 25, 26, 27, 28, 29] ===== -/
def cc_X4_takeSum_at_7 : aC := (45, 10, [(2, 0, 0, 4), (2, 0, 0, 10), (0, 7, 7, 0)], some (0, 0, 1, 1), [], 0, [4, 10, 47, 3010, 4004, 4010], [], [], [])
def ta_X4_takeSum_at_7 : List aL := [(0, ([(0, ((2, 0, 0, 4), (0, 0, 0), (0, 0), [])), (1, ((2, 0, 0, 10), (0, 0, 0), (0, 0), [])), (2, ((0, 7, 7, 0), (0, 0, 0), (0, 0), []))], [], []), 63, [(4, 0)]),
  (10, ([(0, ((2, 0, 0, 4), (0, 0, 0), (0, 0), [])), (1, ((2, 0, 0, 10), (0, 0, 0), (0, 0), [])), (2, ((0, 7, 7, 0), (0, 0, 0), (0, 0), [])), (3, ((0, 0, 1, 1), (0, 0, 0), (0, 0), [])), (4, ((0, 0, 30, 1), (0, 0, 0), (0, 0), []))], [], []), 61, [(4, -2)]),
  (67, ([(0, ((2, 0, 0, 4), (0, 0, 0), (0, 0), [])), (1, ((2, 0, 0, 10), (0, 0, 0), (0, 0), [])), (2, ((0, 7, 7, 0), (0, 0, 0), (0, 0), [])), (3, ((0, 0, 1, 1), (0, 0, 0), (0, 0), [])), (4, ((0, 0, 30, 1), (0, 0, 0), (0, 0), []))], [], []), 0, [(4, 0)])]
def bl_X4_takeSum_at_7 : List aB := [(0, vb_X4_takeSum_0, some 10), (10, vb_X4_takeSum_10, some 67), (67, vb_X4_takeSum_67, none)]
def cz_X4_takeSum_at_7 : List (Nat × aC) := [(3, cc_X4_takeProduct_at_7), (22, cc_X10_next), (25, cc_X4_isSumSign), (32, cc_X10_next), (50, cc_X4_takeProduct_at_7), (58, cc_X4_add)]
theorem ck_X4_takeSum_at_7 : csOK cz_X4_takeSum_at_7 := ⟨ct_X4_takeProduct_at_7, ct_X10_next, ct_X4_isSumSign, ct_X10_next, ct_X4_takeProduct_at_7, ct_X4_add, trivial⟩
theorem cv_X4_takeSum_at_7 : blOK kd_X4_takeSum bl_X4_takeSum_at_7 := ⟨ve_X4_takeSum_0, ve_X4_takeSum_10, ve_X4_takeSum_67, trivial⟩
theorem ch_X4_takeSum_at_7 : amchk ta_X4_takeSum_at_7 bl_X4_takeSum_at_7 cz_X4_takeSum_at_7 cc_X4_takeSum_at_7 = true := by decide +kernel
theorem ct_X4_takeSum_at_7 : CtOK cc_X4_takeSum_at_7 := am_ok' (T := ta_X4_takeSum_at_7) (B := bl_X4_takeSum_at_7) (cs := cz_X4_takeSum_at_7) vm_X4_takeSum cv_X4_takeSum_at_7 (by decide +kernel) ch_X4_takeSum_at_7 ck_X4_takeSum_at_7
def cc_X12_tally : aC := (218, 10, [(2, 0, 0, 12), (0, -2147483648, 2147483647, 1), (0, -2147483648, 2147483647, 1)], some (0, -2147483648, 2147483647, 1), [], 0, [83, 84, 85, 86, 87, 88, 89, 90, 91, 92, 93, 94, 18012, 19012, 20012, 27012, 32012, 33012], [], [], [])
def ta_X12_tally : List aL := [(0, ([(0, ((2, 0, 0, 12), (0, 0, 0), (0, 0), [])), (1, ((0, -2147483648, 2147483647, 1), (0, 0, 0), (0, 0), [])), (2, ((0, -2147483648, 2147483647, 1), (0, 0, 0), (0, 0), []))], [], []), 11, []),
  (116, ([(0, ((2, 0, 0, 12), (0, 0, 0), (0, 0), [])), (1, ((0, 0, 11, 1), (0, 0, 0), (0, 0), [])), (2, ((0, 0, 8, 1), (0, 0, 0), (0, 0), []))], [], []), 6, []),
  (133, ([(0, ((2, 0, 0, 12), (0, 0, 0), (0, 0), [])), (1, ((0, 0, 11, 1), (0, 0, 0), (0, 0), [])), (2, ((0, 0, 8, 1), (0, 0, 0), (0, 0), []))], [], []), 7, []),
  (140, ([(0, ((2, 0, 0, 12), (0, 0, 0), (0, 0), [])), (1, ((0, 0, 11, 1), (0, 0, 0), (0, 0), [])), (2, ((0, 0, 8, 1), (0, 0, 0), (0, 0), []))], [], []), 8, []),
  (147, ([(0, ((2, 0, 0, 12), (0, 0, 0), (0, 0), [])), (1, ((0, 0, 11, 1), (0, 0, 0), (0, 0), [])), (2, ((0, 0, 8, 1), (0, 0, 0), (0, 0), []))], [], []), 1, []),
  (18, ([(0, ((2, 0, 0, 12), (0, 0, 0), (0, 0), [])), (1, ((0, -2147483648, 2147483647, 1), (0, 0, 0), (0, 0), [])), (2, ((0, -2147483648, 2147483647, 1), (0, 0, 0), (0, 0), []))], [], []), 0, []),
  (20, ([(0, ((2, 0, 0, 12), (0, 0, 0), (0, 0), [])), (1, ((0, 0, 11, 1), (0, 0, 0), (0, 0), [])), (2, ((0, 0, 8, 1), (0, 0, 0), (0, 0), []))], [], []), 10, []),
  (72, ([(0, ((2, 0, 0, 12), (0, 0, 0), (0, 0), [])), (1, ((0, 0, 11, 1), (0, 0, 0), (0, 0), [])), (2, ((0, 0, 8, 1), (0, 0, 0), (0, 0), []))], [], []), 9, []),
  (79, ([(0, ((2, 0, 0, 12), (0, 0, 0), (0, 0), [])), (1, ((0, 0, 11, 1), (0, 0, 0), (0, 0), [])), (2, ((0, 0, 8, 1), (0, 0, 0), (0, 0), []))], [], []), 2, []),
  (86, ([(0, ((2, 0, 0, 12), (0, 0, 0), (0, 0), [])), (1, ((0, 0, 11, 1), (0, 0, 0), (0, 0), [])), (2, ((0, 0, 8, 1), (0, 0, 0), (0, 0), []))], [], []), 3, []),
  (93, ([(0, ((2, 0, 0, 12), (0, 0, 0), (0, 0), [])), (1, ((0, 0, 11, 1), (0, 0, 0), (0, 0), [])), (2, ((0, 0, 8, 1), (0, 0, 0), (0, 0), []))], [], []), 4, []),
  (99, ([(0, ((2, 0, 0, 12), (0, 0, 0), (0, 0), [])), (1, ((0, 0, 11, 1), (0, 0, 0), (0, 0), [])), (2, ((0, 0, 8, 1), (0, 0, 0), (0, 0), []))], [], []), 5, [])]
def bl_X12_tally : List aB := [(0, vb_X12_tally_0, some 18), (18, vb_X12_tally_18, some 20), (20, vb_X12_tally_20, some 72), (72, vb_X12_tally_72, some 79), (79, vb_X12_tally_79, some 86), (86, vb_X12_tally_86, some 93), (93, vb_X12_tally_93, some 99), (99, vb_X12_tally_99, some 116), (116, vb_X12_tally_116, some 133), (133, vb_X12_tally_133, some 140), (140, vb_X12_tally_140, some 147), (147, vb_X12_tally_147, none)]
def cz_X12_tally : List (Nat × aC) := [(2, cc_X12_isBill), (12, (cc_X12_isIn (0) (0) 0 (8) (8) 0)), (21, cc_X12_layMatched), (95, cc_X12_due), (102, cc_X12_due), (112, (cc_X12_most (0) (0) 0 (-2147483648) (2147483647) 1)), (125, cc_X12_due), (129, (cc_X12_most (0) (0) 0 (-2147483648) (2147483647) 1)), (149, cc_X12_matchedTo)]
theorem ck_X12_tally : csOK cz_X12_tally := ⟨ct_X12_isBill, (ct_X12_isIn (0) (0) 0 (8) (8) 0), ct_X12_layMatched, ct_X12_due, ct_X12_due, (ct_X12_most (0) (0) 0 (-2147483648) (2147483647) 1), ct_X12_due, (ct_X12_most (0) (0) 0 (-2147483648) (2147483647) 1), ct_X12_matchedTo, trivial⟩
theorem cv_X12_tally : blOK kd_X12_tally bl_X12_tally := ⟨ve_X12_tally_0, ve_X12_tally_18, ve_X12_tally_20, ve_X12_tally_72, ve_X12_tally_79, ve_X12_tally_86, ve_X12_tally_93, ve_X12_tally_99, ve_X12_tally_116, ve_X12_tally_133, ve_X12_tally_140, ve_X12_tally_147, trivial⟩
theorem ch_X12_tally : amchk ta_X12_tally bl_X12_tally cz_X12_tally cc_X12_tally = true := by decide +kernel
theorem ct_X12_tally : CtOK cc_X12_tally := am_ok' (T := ta_X12_tally) (B := bl_X12_tally) (cs := cz_X12_tally) vm_X12_tally cv_X12_tally (by decide +kernel) ch_X12_tally ck_X12_tally
def cc_X12_heap : aC := (219, 10, [(2, 0, 0, 12), (0, -2147483648, 2147483647, 1), (0, -2147483648, 2147483647, 1)], some (0, -2147483648, 2147483647, 1), [], 0, [83, 84, 85, 86, 87, 88, 89, 90, 91, 92, 93, 94, 18012, 19012, 20012, 27012, 32012, 33012], [], [], [])
def ta_X12_heap : List aL := [(0, ([(0, ((2, 0, 0, 12), (0, 0, 0), (0, 0), [])), (1, ((0, -2147483648, 2147483647, 1), (0, 0, 0), (0, 0), [])), (2, ((0, -2147483648, 2147483647, 1), (0, 0, 0), (0, 0), []))], [], []), 7, []),
  (11, ([(0, ((2, 0, 0, 12), (0, 0, 0), (0, 0), [])), (1, ((0, -2147483648, 2147483647, 1), (0, 0, 0), (0, 0), [])), (2, ((0, 0, 4, 1), (0, 0, 0), (0, 0), []))], [], []), 6, []),
  (31, ([(0, ((2, 0, 0, 12), (0, 0, 0), (0, 0), [])), (1, ((0, 0, 59, 1), (0, 0, 0), (0, 0), [])), (2, ((0, 0, 4, 1), (0, 0, 0), (0, 0), []))], [], []), 5, []),
  (49, ([(0, ((2, 0, 0, 12), (0, 0, 0), (0, 0), [])), (1, ((0, 0, 59, 1), (0, 0, 0), (0, 0), [])), (2, ((0, 1, 4, 1), (0, 0, 0), (0, 0), [])), (3, ((0, 12, 71, 1), (0, 0, 0), (0, 0), []))], [], []), 4, []),
  (63, ([(0, ((2, 0, 0, 12), (0, 0, 0), (0, 0), [])), (1, ((0, 0, 59, 1), (0, 0, 0), (0, 0), [])), (2, ((0, 2, 4, 1), (0, 0, 0), (0, 0), [])), (3, ((0, 12, 71, 1), (0, 0, 0), (0, 0), []))], [], []), 3, []),
  (77, ([(0, ((2, 0, 0, 12), (0, 0, 0), (0, 0), [])), (1, ((0, 0, 59, 1), (0, 0, 0), (0, 0), [])), (2, ((0, 3, 4, 1), (0, 0, 0), (0, 0), [])), (3, ((0, 12, 71, 1), (0, 0, 0), (0, 0), []))], [], []), 2, []),
  (91, ([(0, ((2, 0, 0, 12), (0, 0, 0), (0, 0), [])), (1, ((0, 0, 59, 1), (0, 0, 0), (0, 0), [])), (2, ((0, 4, 4, 1), (0, 0, 0), (0, 0), [])), (3, ((0, 12, 71, 1), (0, 0, 0), (0, 0), []))], [], []), 1, []),
  (97, ([(0, ((2, 0, 0, 12), (0, 0, 0), (0, 0), [])), (1, ((0, 0, 59, 1), (0, 0, 0), (0, 0), [])), (2, ((0, 0, 4, 1), (0, 0, 0), (0, 0), [])), (3, ((0, 12, 71, 1), (0, 0, 0), (0, 0), []))], [((0, -2147483648, 2147483647, 1), (0, 0, 0), (0, 0), [])], []), 0, [])]
def bl_X12_heap : List aB := [(0, vb_X12_heap_0, some 11), (11, vb_X12_heap_11, some 31), (31, vb_X12_heap_31, some 49), (49, vb_X12_heap_49, some 63), (63, vb_X12_heap_63, some 77), (77, vb_X12_heap_77, some 91), (91, vb_X12_heap_91, some 97), (97, vb_X12_heap_97, none)]
def cz_X12_heap : List (Nat × aC) := [(3, (cc_X12_isIn (0) (0) 0 (4) (4) 0)), (12, cc_X12_layMatched), (23, (cc_X12_isIn (0) (0) 0 (-1) (59) 1))]
theorem ck_X12_heap : csOK cz_X12_heap := ⟨(ct_X12_isIn (0) (0) 0 (4) (4) 0), ct_X12_layMatched, (ct_X12_isIn (0) (0) 0 (-1) (59) 1), trivial⟩
theorem cv_X12_heap : blOK kd_X12_heap bl_X12_heap := ⟨ve_X12_heap_0, ve_X12_heap_11, ve_X12_heap_31, ve_X12_heap_49, ve_X12_heap_63, ve_X12_heap_77, ve_X12_heap_91, ve_X12_heap_97, trivial⟩
theorem ch_X12_heap : amchk ta_X12_heap bl_X12_heap cz_X12_heap cc_X12_heap = true := by decide +kernel
theorem ct_X12_heap : CtOK cc_X12_heap := am_ok' (T := ta_X12_heap) (B := bl_X12_heap) (cs := cz_X12_heap) vm_X12_heap cv_X12_heap (by decide +kernel) ch_X12_heap ck_X12_heap
def cc_X12_brought : aC := (220, 10, [(2, 0, 0, 12), (0, -2147483648, 2147483647, 1), (0, -2147483648, 2147483647, 1)], some (0, -2147483648, 2147483647, 1), [], 0, [83, 84, 85, 86, 87, 88, 89, 90, 91, 92, 93, 94, 18012, 19012, 20012, 27012, 32012, 33012], [], [], [])
def ta_X12_brought : List aL := [(0, ([(0, ((2, 0, 0, 12), (0, 0, 0), (0, 0), [])), (1, ((0, -2147483648, 2147483647, 1), (0, 0, 0), (0, 0), [])), (2, ((0, -2147483648, 2147483647, 1), (0, 0, 0), (0, 0), []))], [], []), 2, []),
  (44, ([(0, ((2, 0, 0, 12), (0, 0, 0), (0, 0), [])), (1, ((0, -2147483648, 2147483647, 1), (0, 0, 0), (0, 0), [])), (2, ((0, -2147483648, 2147483647, 1), (0, 0, 0), (0, 0), []))], [], []), 1, []),
  (45, ([(0, ((2, 0, 0, 12), (0, 0, 0), (0, 0), [])), (1, ((0, -2147483648, 2147483647, 1), (0, 0, 0), (0, 0), [])), (2, ((0, -2147483648, 2147483647, 1), (0, 0, 0), (0, 0), []))], [((0, -2147483648, 2147483647, 1), (0, 0, 0), (0, 0), [])], []), 0, [])]
def bl_X12_brought : List aB := [(0, vb_X12_brought_0, some 44), (44, vb_X12_brought_44, some 45), (45, vb_X12_brought_45, none)]
def cz_X12_brought : List (Nat × aC) := [(1, cc_X12_layMatched), (6, cc_X12_isBill), (16, (cc_X12_isIn (0) (0) 0 (71) (71) 0)), (24, cc_X12_isSource)]
theorem ck_X12_brought : csOK cz_X12_brought := ⟨ct_X12_layMatched, ct_X12_isBill, (ct_X12_isIn (0) (0) 0 (71) (71) 0), ct_X12_isSource, trivial⟩
theorem cv_X12_brought : blOK kd_X12_brought bl_X12_brought := ⟨ve_X12_brought_0, ve_X12_brought_44, ve_X12_brought_45, trivial⟩
theorem ch_X12_brought : amchk ta_X12_brought bl_X12_brought cz_X12_brought cc_X12_brought = true := by decide +kernel
theorem ct_X12_brought : CtOK cc_X12_brought := am_ok' (T := ta_X12_brought) (B := bl_X12_brought) (cs := cz_X12_brought) vm_X12_brought cv_X12_brought (by decide +kernel) ch_X12_brought ck_X12_brought
def cc_X12_matched : aC := (221, 10, [(2, 0, 0, 12), (0, -2147483648, 2147483647, 1)], some (0, -2147483648, 2147483647, 1), [], 0, [83, 84, 85, 86, 87, 88, 89, 90, 91, 92, 93, 94, 18012, 19012, 20012, 27012, 32012, 33012], [], [], [])
def ta_X12_matched : List aL := [(0, ([(0, ((2, 0, 0, 12), (0, 0, 0), (0, 0), [])), (1, ((0, -2147483648, 2147483647, 1), (0, 0, 0), (0, 0), []))], [], []), 3, []),
  (11, ([(0, ((2, 0, 0, 12), (0, 0, 0), (0, 0), [])), (1, ((0, 0, 1, 1), (0, 0, 0), (0, 0), []))], [], []), 2, []),
  (26, ([(0, ((2, 0, 0, 12), (0, 0, 0), (0, 0), [])), (1, ((0, 1, 1, 1), (0, 0, 0), (0, 0), []))], [], []), 1, []),
  (30, ([(0, ((2, 0, 0, 12), (0, 0, 0), (0, 0), [])), (1, ((0, 0, 1, 1), (0, 0, 0), (0, 0), []))], [((0, -2147483648, 2147483647, 1), (0, 0, 0), (0, 0), [])], []), 0, [])]
def bl_X12_matched : List aB := [(0, vb_X12_matched_0, some 11), (11, vb_X12_matched_11, some 26), (26, vb_X12_matched_26, some 30), (30, vb_X12_matched_30, none)]
def cz_X12_matched : List (Nat × aC) := [(3, (cc_X12_isIn (0) (0) 0 (1) (1) 0)), (12, cc_X12_layMatched)]
theorem ck_X12_matched : csOK cz_X12_matched := ⟨(ct_X12_isIn (0) (0) 0 (1) (1) 0), ct_X12_layMatched, trivial⟩
theorem cv_X12_matched : blOK kd_X12_matched bl_X12_matched := ⟨ve_X12_matched_0, ve_X12_matched_11, ve_X12_matched_26, ve_X12_matched_30, trivial⟩
theorem ch_X12_matched : amchk ta_X12_matched bl_X12_matched cz_X12_matched cc_X12_matched = true := by decide +kernel
theorem ct_X12_matched : CtOK cc_X12_matched := am_ok' (T := ta_X12_matched) (B := bl_X12_matched) (cs := cz_X12_matched) vm_X12_matched cv_X12_matched (by decide +kernel) ch_X12_matched ck_X12_matched
def cc_X12_best : aC := (225, 10, [(2, 0, 0, 12), (0, -2147483648, 2147483647, 1)], some (0, -2147483648, 2147483647, 1), [], 0, [12, 83, 84, 85, 86, 87, 88, 89, 90, 91, 92, 93, 94, 95, 96], [], [], [])
def ta_X12_best : List aL := [(0, ([(0, ((2, 0, 0, 12), (0, 0, 0), (0, 0), [])), (1, ((0, -2147483648, 2147483647, 1), (0, 0, 0), (0, 0), []))], [], []), 3, []),
  (11, ([(0, ((2, 0, 0, 12), (0, 0, 0), (0, 0), [])), (1, ((0, 0, 1, 1), (0, 0, 0), (0, 0), []))], [], []), 2, []),
  (26, ([(0, ((2, 0, 0, 12), (0, 0, 0), (0, 0), [])), (1, ((0, 1, 1, 1), (0, 0, 0), (0, 0), []))], [], []), 1, []),
  (30, ([(0, ((2, 0, 0, 12), (0, 0, 0), (0, 0), [])), (1, ((0, 0, 1, 1), (0, 0, 0), (0, 0), []))], [((0, -2147483648, 2147483647, 1), (0, 0, 0), (0, 0), [])], []), 0, [])]
def bl_X12_best : List aB := [(0, vb_X12_best_0, some 11), (11, vb_X12_best_11, some 26), (26, vb_X12_best_26, some 30), (30, vb_X12_best_30, none)]
def cz_X12_best : List (Nat × aC) := [(3, (cc_X12_isIn (0) (0) 0 (1) (1) 0)), (12, cc_X12_layBest)]
theorem ck_X12_best : csOK cz_X12_best := ⟨(ct_X12_isIn (0) (0) 0 (1) (1) 0), ct_X12_layBest, trivial⟩
theorem cv_X12_best : blOK kd_X12_best bl_X12_best := ⟨ve_X12_best_0, ve_X12_best_11, ve_X12_best_26, ve_X12_best_30, trivial⟩
theorem ch_X12_best : amchk ta_X12_best bl_X12_best cz_X12_best cc_X12_best = true := by decide +kernel
theorem ct_X12_best : CtOK cc_X12_best := am_ok' (T := ta_X12_best) (B := bl_X12_best) (cs := cz_X12_best) vm_X12_best cv_X12_best (by decide +kernel) ch_X12_best ck_X12_best
def cc_X12_paid : aC := (234, 10, [(2, 0, 0, 12), (0, -2147483648, 2147483647, 1)], some (0, -2147483648, 2147483647, 1), [], 0, [83, 84, 85, 86, 87, 88, 89, 90, 91, 92, 93, 94, 18012, 19012, 20012, 27012, 32012, 33012], [], [], [])
def ta_X12_paid : List aL := [(0, ([(0, ((2, 0, 0, 12), (0, 0, 0), (0, 0), [])), (1, ((0, -2147483648, 2147483647, 1), (0, 0, 0), (0, 0), []))], [], []), 29, [(3, 0)]),
  (16, ([(0, ((2, 0, 0, 12), (0, 0, 0), (0, 0), [])), (1, ((0, -1, 11, 1), (0, 0, 0), (0, 0), []))], [], []), 28, [(3, 0)]),
  (31, ([(0, ((2, 0, 0, 12), (0, 0, 0), (0, 0), [])), (1, ((0, -1, -1, 1), (0, 0, 0), (0, 0), []))], [], []), 27, [(3, 0)]),
  (35, ([(0, ((2, 0, 0, 12), (0, 0, 0), (0, 0), [])), (1, ((0, -1, -1, 1), (0, 0, 0), (0, 0), [])), (2, ((0, -2147483648, 2147483647, 1), (0, 0, 0), (0, 0), [])), (3, ((0, 0, 12, 1), (0, 0, 0), (0, 0), []))], [], []), 25, [(3, -2)]),
  (59, ([(0, ((2, 0, 0, 12), (0, 0, 0), (0, 0), [])), (1, ((0, -1, -1, 1), (0, 0, 0), (0, 0), [])), (2, ((0, -2147483648, 2147483647, 1), (0, 0, 0), (0, 0), [])), (3, ((0, 0, 12, 1), (0, 0, 0), (0, 0), []))], [], [((2, 591, 0), 0, 12)]), 0, [(3, 0)])]
def bl_X12_paid : List aB := [(0, vb_X12_paid_0, some 16), (16, vb_X12_paid_16, some 31), (31, vb_X12_paid_31, some 35), (35, vb_X12_paid_35, some 59), (59, vb_X12_paid_59, none)]
def cz_X12_paid : List (Nat × aC) := [(7, cc_X12_isBill), (17, cc_X12_layMatched), (27, cc_X12_paidFor), (48, cc_X12_paidFor)]
theorem ck_X12_paid : csOK cz_X12_paid := ⟨ct_X12_isBill, ct_X12_layMatched, ct_X12_paidFor, ct_X12_paidFor, trivial⟩
theorem cv_X12_paid : blOK kd_X12_paid bl_X12_paid := ⟨ve_X12_paid_0, ve_X12_paid_16, ve_X12_paid_31, ve_X12_paid_35, ve_X12_paid_59, trivial⟩
theorem ch_X12_paid : amchk ta_X12_paid bl_X12_paid cz_X12_paid cc_X12_paid = true := by decide +kernel
theorem ct_X12_paid : CtOK cc_X12_paid := am_ok' (T := ta_X12_paid) (B := bl_X12_paid) (cs := cz_X12_paid) vm_X12_paid cv_X12_paid (by decide +kernel) ch_X12_paid ck_X12_paid
def cc_X12_shedOf : aC := (251, 10, [(2, 0, 0, 12), (0, 0, 11, 1)], some (0, 0, 2147483647, 1), [], 0, [83, 84, 85, 86, 87, 88, 89, 90, 91, 92, 93, 94, 18012, 19012, 20012, 27012, 32012, 33012], [], [], [])
def ta_X12_shedOf : List aL := [(0, ([(0, ((2, 0, 0, 12), (0, 0, 0), (0, 0), [])), (1, ((0, 0, 11, 1), (0, 0, 0), (0, 0), []))], [], []), 0, [])]
def bl_X12_shedOf : List aB := [(0, vb_X12_shedOf_0, none)]
def cz_X12_shedOf : List (Nat × aC) := [(1, cc_X12_layMatched), (13, cc_X12_due), (16, (cc_X12_lesser (-2147483648) (2147483647) 1 (0) (2147483647) 1)), (21, cc_X12_matchedTo), (30, cc_X12_billAt), (38, (cc_X12_most (0) (0) 0 (-2147483648) (2147483647) 1))]
theorem ck_X12_shedOf : csOK cz_X12_shedOf := ⟨ct_X12_layMatched, ct_X12_due, (ct_X12_lesser (-2147483648) (2147483647) 1 (0) (2147483647) 1), ct_X12_matchedTo, ct_X12_billAt, (ct_X12_most (0) (0) 0 (-2147483648) (2147483647) 1), trivial⟩
theorem cv_X12_shedOf : blOK kd_X12_shedOf bl_X12_shedOf := ⟨ve_X12_shedOf_0, trivial⟩
theorem ch_X12_shedOf : amchk ta_X12_shedOf bl_X12_shedOf cz_X12_shedOf cc_X12_shedOf = true := by decide +kernel
theorem ct_X12_shedOf : CtOK cc_X12_shedOf := am_ok' (T := ta_X12_shedOf) (B := bl_X12_shedOf) (cs := cz_X12_shedOf) vm_X12_shedOf cv_X12_shedOf (by decide +kernel) ch_X12_shedOf ck_X12_shedOf
def cc_X4_takeThing_at_6 : aC := (47, 11, [(2, 0, 0, 4), (2, 0, 0, 10), (0, 6, 6, 0)], some (0, 0, 1, 1), [], 0, [4, 10, 47, 3010, 4004, 4010], [], [], [])
def ta_X4_takeThing_at_6 : List aL := [(0, ([(0, ((2, 0, 0, 4), (0, 0, 0), (0, 0), [])), (1, ((2, 0, 0, 10), (0, 0, 0), (0, 0), [])), (2, ((0, 6, 6, 0), (0, 0, 0), (0, 0), []))], [], []), 8, []),
  (117, ([(0, ((2, 0, 0, 4), (0, 0, 0), (0, 0), [])), (1, ((2, 0, 0, 10), (0, 0, 0), (0, 0), [])), (2, ((0, 6, 6, 0), (0, 0, 0), (0, 0), [])), (3, ((0, 99, 115, 1), (0, 0, 0), (0, 0), [(0, 2147483647, ((2, 213, 2), 0, 599))]))], [], [((2, 213, 2), 0, 599)]), 1, []),
  (135, ([(0, ((2, 0, 0, 4), (0, 0, 0), (0, 0), [])), (1, ((2, 0, 0, 10), (0, 0, 0), (0, 0), [])), (2, ((0, 6, 6, 0), (0, 0, 0), (0, 0), [])), (3, ((0, -2147483648, 2147483647, 1), (0, 0, 0), (0, 0), [(0, 2147483647, ((2, 213, 2), 0, 599))]))], [], []), 2, []),
  (15, ([(0, ((2, 0, 0, 4), (0, 0, 0), (0, 0), [])), (1, ((2, 0, 0, 10), (0, 0, 0), (0, 0), [])), (2, ((0, 6, 6, 0), (0, 0, 0), (0, 0), []))], [], []), 0, []),
  (24, ([(0, ((2, 0, 0, 4), (0, 0, 0), (0, 0), [])), (1, ((2, 0, 0, 10), (0, 0, 0), (0, 0), [])), (2, ((0, 6, 6, 0), (0, 0, 0), (0, 0), []))], [], []), 7, []),
  (79, ([(0, ((2, 0, 0, 4), (0, 0, 0), (0, 0), [])), (1, ((2, 0, 0, 10), (0, 0, 0), (0, 0), [])), (2, ((0, 6, 6, 0), (0, 0, 0), (0, 0), [])), (3, ((0, 40, 40, 1), (0, 0, 0), (0, 0), []))], [], []), 6, []),
  (80, ([(0, ((2, 0, 0, 4), (0, 0, 0), (0, 0), [])), (1, ((2, 0, 0, 10), (0, 0, 0), (0, 0), [])), (2, ((0, 6, 6, 0), (0, 0, 0), (0, 0), [])), (3, ((0, 40, 40, 1), (0, 0, 0), (0, 0), []))], [((0, 0, 1, 1), (0, 0, 0), (0, 0), [])], []), 5, []),
  (81, ([(0, ((2, 0, 0, 4), (0, 0, 0), (0, 0), [])), (1, ((2, 0, 0, 10), (0, 0, 0), (0, 0), [])), (2, ((0, 6, 6, 0), (0, 0, 0), (0, 0), [])), (3, ((0, -2147483648, 2147483647, 1), (0, 0, 0), (0, 0), [(0, 2147483647, ((2, 213, 2), 0, 599))]))], [], []), 4, []),
  (99, ([(0, ((2, 0, 0, 4), (0, 0, 0), (0, 0), [])), (1, ((2, 0, 0, 10), (0, 0, 0), (0, 0), [])), (2, ((0, 6, 6, 0), (0, 0, 0), (0, 0), [])), (3, ((0, -2147483648, 2147483647, 1), (0, 0, 0), (0, 0), [(0, 2147483647, ((2, 213, 2), 0, 599))]))], [], []), 3, [])]
def bl_X4_takeThing_at_6 : List aB := [(0, vb_X4_takeThing_0, some 15), (15, vb_X4_takeThing_15, some 24), (24, vb_X4_takeThing_24, some 79), (79, vb_X4_takeThing_79, some 80), (80, vb_X4_takeThing_80, some 81), (81, vb_X4_takeThing_81, some 99), (99, vb_X4_takeThing_99, some 117), (117, vb_X4_takeThing_117, some 135), (135, vb_X4_takeThing_135, none)]
def cz_X4_takeThing_at_6 : List (Nat × aC) := [(20, cc_X10_fail), (35, cc_X10_next), (60, cc_X4_takeSum_at_7), (69, cc_X10_skip), (82, cc_X10_isDigit), (91, cc_X10_digits), (94, cc_X4_add), (130, cc_X4_add), (140, cc_X10_fail)]
theorem ck_X4_takeThing_at_6 : csOK cz_X4_takeThing_at_6 := ⟨ct_X10_fail, ct_X10_next, ct_X4_takeSum_at_7, ct_X10_skip, ct_X10_isDigit, ct_X10_digits, ct_X4_add, ct_X4_add, ct_X10_fail, trivial⟩
theorem cv_X4_takeThing_at_6 : blOK kd_X4_takeThing bl_X4_takeThing_at_6 := ⟨ve_X4_takeThing_0, ve_X4_takeThing_15, ve_X4_takeThing_24, ve_X4_takeThing_79, ve_X4_takeThing_80, ve_X4_takeThing_81, ve_X4_takeThing_99, ve_X4_takeThing_117, ve_X4_takeThing_135, trivial⟩
theorem ch_X4_takeThing_at_6 : amchk ta_X4_takeThing_at_6 bl_X4_takeThing_at_6 cz_X4_takeThing_at_6 cc_X4_takeThing_at_6 = true := by decide +kernel
theorem ct_X4_takeThing_at_6 : CtOK cc_X4_takeThing_at_6 := am_ok' (T := ta_X4_takeThing_at_6) (B := bl_X4_takeThing_at_6) (cs := cz_X4_takeThing_at_6) vm_X4_takeThing cv_X4_takeThing_at_6 (by decide +kernel) ch_X4_takeThing_at_6 ck_X4_takeThing_at_6
def cc_X12_shed : aC := (252, 11, [(2, 0, 0, 12), (0, -2147483648, 2147483647, 1)], some (0, -1, 2147483647, 1), [], 0, [83, 84, 85, 86, 87, 88, 89, 90, 91, 92, 93, 94, 18012, 19012, 20012, 27012, 32012, 33012], [], [], [])
def ta_X12_shed : List aL := [(0, ([(0, ((2, 0, 0, 12), (0, 0, 0), (0, 0), [])), (1, ((0, -2147483648, 2147483647, 1), (0, 0, 0), (0, 0), []))], [], []), 2, []),
  (16, ([(0, ((2, 0, 0, 12), (0, 0, 0), (0, 0), [])), (1, ((0, -2147483648, 2147483647, 1), (0, 0, 0), (0, 0), []))], [], []), 1, []),
  (17, ([(0, ((2, 0, 0, 12), (0, 0, 0), (0, 0), [])), (1, ((0, -2147483648, 2147483647, 1), (0, 0, 0), (0, 0), []))], [((0, -1, 2147483647, 1), (0, 0, 0), (0, 0), [])], []), 0, [])]
def bl_X12_shed : List aB := [(0, vb_X12_shed_0, some 16), (16, vb_X12_shed_16, some 17), (17, vb_X12_shed_17, none)]
def cz_X12_shed : List (Nat × aC) := [(2, cc_X12_isBill), (10, cc_X12_shedOf)]
theorem ck_X12_shed : csOK cz_X12_shed := ⟨ct_X12_isBill, ct_X12_shedOf, trivial⟩
theorem cv_X12_shed : blOK kd_X12_shed bl_X12_shed := ⟨ve_X12_shed_0, ve_X12_shed_16, ve_X12_shed_17, trivial⟩
theorem ch_X12_shed : amchk ta_X12_shed bl_X12_shed cz_X12_shed cc_X12_shed = true := by decide +kernel
theorem ct_X12_shed : CtOK cc_X12_shed := am_ok' (T := ta_X12_shed) (B := bl_X12_shed) (cs := cz_X12_shed) vm_X12_shed cv_X12_shed (by decide +kernel) ch_X12_shed ck_X12_shed
def cc_X4_takeProduct_at_6 : aC := (46, 12, [(2, 0, 0, 4), (2, 0, 0, 10), (0, 6, 6, 0)], some (0, 0, 1, 1), [], 0, [4, 10, 47, 3010, 4004, 4010], [], [], [])
def ta_X4_takeProduct_at_6 : List aL := [(0, ([(0, ((2, 0, 0, 4), (0, 0, 0), (0, 0), [])), (1, ((2, 0, 0, 10), (0, 0, 0), (0, 0), [])), (2, ((0, 6, 6, 0), (0, 0, 0), (0, 0), []))], [], []), 63, [(4, 0)]),
  (10, ([(0, ((2, 0, 0, 4), (0, 0, 0), (0, 0), [])), (1, ((2, 0, 0, 10), (0, 0, 0), (0, 0), [])), (2, ((0, 6, 6, 0), (0, 0, 0), (0, 0), [])), (3, ((0, 0, 1, 1), (0, 0, 0), (0, 0), [])), (4, ((0, 0, 30, 1), (0, 0, 0), (0, 0), []))], [], []), 61, [(4, -2)]),
  (67, ([(0, ((2, 0, 0, 4), (0, 0, 0), (0, 0), [])), (1, ((2, 0, 0, 10), (0, 0, 0), (0, 0), [])), (2, ((0, 6, 6, 0), (0, 0, 0), (0, 0), [])), (3, ((0, 0, 1, 1), (0, 0, 0), (0, 0), [])), (4, ((0, 0, 30, 1), (0, 0, 0), (0, 0), []))], [], []), 0, [(4, 0)])]
def bl_X4_takeProduct_at_6 : List aB := [(0, vb_X4_takeProduct_0, some 10), (10, vb_X4_takeProduct_10, some 67), (67, vb_X4_takeProduct_67, none)]
def cz_X4_takeProduct_at_6 : List (Nat × aC) := [(3, cc_X4_takeThing_at_6), (22, cc_X10_next), (25, cc_X4_isProductSign), (32, cc_X10_next), (50, cc_X4_takeThing_at_6), (58, cc_X4_add)]
theorem ck_X4_takeProduct_at_6 : csOK cz_X4_takeProduct_at_6 := ⟨ct_X4_takeThing_at_6, ct_X10_next, ct_X4_isProductSign, ct_X10_next, ct_X4_takeThing_at_6, ct_X4_add, trivial⟩
theorem cv_X4_takeProduct_at_6 : blOK kd_X4_takeProduct bl_X4_takeProduct_at_6 := ⟨ve_X4_takeProduct_0, ve_X4_takeProduct_10, ve_X4_takeProduct_67, trivial⟩
theorem ch_X4_takeProduct_at_6 : amchk ta_X4_takeProduct_at_6 bl_X4_takeProduct_at_6 cz_X4_takeProduct_at_6 cc_X4_takeProduct_at_6 = true := by decide +kernel
theorem ct_X4_takeProduct_at_6 : CtOK cc_X4_takeProduct_at_6 := am_ok' (T := ta_X4_takeProduct_at_6) (B := bl_X4_takeProduct_at_6) (cs := cz_X4_takeProduct_at_6) vm_X4_takeProduct cv_X4_takeProduct_at_6 (by decide +kernel) ch_X4_takeProduct_at_6 ck_X4_takeProduct_at_6
def cc_X4_takeSum_at_6 : aC := (45, 13, [(2, 0, 0, 4), (2, 0, 0, 10), (0, 6, 6, 0)], some (0, 0, 1, 1), [], 0, [4, 10, 47, 3010, 4004, 4010], [], [], [])
def ta_X4_takeSum_at_6 : List aL := [(0, ([(0, ((2, 0, 0, 4), (0, 0, 0), (0, 0), [])), (1, ((2, 0, 0, 10), (0, 0, 0), (0, 0), [])), (2, ((0, 6, 6, 0), (0, 0, 0), (0, 0), []))], [], []), 63, [(4, 0)]),
  (10, ([(0, ((2, 0, 0, 4), (0, 0, 0), (0, 0), [])), (1, ((2, 0, 0, 10), (0, 0, 0), (0, 0), [])), (2, ((0, 6, 6, 0), (0, 0, 0), (0, 0), [])), (3, ((0, 0, 1, 1), (0, 0, 0), (0, 0), [])), (4, ((0, 0, 30, 1), (0, 0, 0), (0, 0), []))], [], []), 61, [(4, -2)]),
  (67, ([(0, ((2, 0, 0, 4), (0, 0, 0), (0, 0), [])), (1, ((2, 0, 0, 10), (0, 0, 0), (0, 0), [])), (2, ((0, 6, 6, 0), (0, 0, 0), (0, 0), [])), (3, ((0, 0, 1, 1), (0, 0, 0), (0, 0), [])), (4, ((0, 0, 30, 1), (0, 0, 0), (0, 0), []))], [], []), 0, [(4, 0)])]
def bl_X4_takeSum_at_6 : List aB := [(0, vb_X4_takeSum_0, some 10), (10, vb_X4_takeSum_10, some 67), (67, vb_X4_takeSum_67, none)]
def cz_X4_takeSum_at_6 : List (Nat × aC) := [(3, cc_X4_takeProduct_at_6), (22, cc_X10_next), (25, cc_X4_isSumSign), (32, cc_X10_next), (50, cc_X4_takeProduct_at_6), (58, cc_X4_add)]
theorem ck_X4_takeSum_at_6 : csOK cz_X4_takeSum_at_6 := ⟨ct_X4_takeProduct_at_6, ct_X10_next, ct_X4_isSumSign, ct_X10_next, ct_X4_takeProduct_at_6, ct_X4_add, trivial⟩
theorem cv_X4_takeSum_at_6 : blOK kd_X4_takeSum bl_X4_takeSum_at_6 := ⟨ve_X4_takeSum_0, ve_X4_takeSum_10, ve_X4_takeSum_67, trivial⟩
theorem ch_X4_takeSum_at_6 : amchk ta_X4_takeSum_at_6 bl_X4_takeSum_at_6 cz_X4_takeSum_at_6 cc_X4_takeSum_at_6 = true := by decide +kernel
theorem ct_X4_takeSum_at_6 : CtOK cc_X4_takeSum_at_6 := am_ok' (T := ta_X4_takeSum_at_6) (B := bl_X4_takeSum_at_6) (cs := cz_X4_takeSum_at_6) vm_X4_takeSum cv_X4_takeSum_at_6 (by decide +kernel) ch_X4_takeSum_at_6 ck_X4_takeSum_at_6
def cc_X4_takeThing_at_5 : aC := (47, 14, [(2, 0, 0, 4), (2, 0, 0, 10), (0, 5, 5, 0)], some (0, 0, 1, 1), [], 0, [4, 10, 47, 3010, 4004, 4010], [], [], [])
def ta_X4_takeThing_at_5 : List aL := [(0, ([(0, ((2, 0, 0, 4), (0, 0, 0), (0, 0), [])), (1, ((2, 0, 0, 10), (0, 0, 0), (0, 0), [])), (2, ((0, 5, 5, 0), (0, 0, 0), (0, 0), []))], [], []), 8, []),
  (117, ([(0, ((2, 0, 0, 4), (0, 0, 0), (0, 0), [])), (1, ((2, 0, 0, 10), (0, 0, 0), (0, 0), [])), (2, ((0, 5, 5, 0), (0, 0, 0), (0, 0), [])), (3, ((0, 99, 115, 1), (0, 0, 0), (0, 0), [(0, 2147483647, ((2, 213, 2), 0, 599))]))], [], [((2, 213, 2), 0, 599)]), 1, []),
  (135, ([(0, ((2, 0, 0, 4), (0, 0, 0), (0, 0), [])), (1, ((2, 0, 0, 10), (0, 0, 0), (0, 0), [])), (2, ((0, 5, 5, 0), (0, 0, 0), (0, 0), [])), (3, ((0, -2147483648, 2147483647, 1), (0, 0, 0), (0, 0), [(0, 2147483647, ((2, 213, 2), 0, 599))]))], [], []), 2, []),
  (15, ([(0, ((2, 0, 0, 4), (0, 0, 0), (0, 0), [])), (1, ((2, 0, 0, 10), (0, 0, 0), (0, 0), [])), (2, ((0, 5, 5, 0), (0, 0, 0), (0, 0), []))], [], []), 0, []),
  (24, ([(0, ((2, 0, 0, 4), (0, 0, 0), (0, 0), [])), (1, ((2, 0, 0, 10), (0, 0, 0), (0, 0), [])), (2, ((0, 5, 5, 0), (0, 0, 0), (0, 0), []))], [], []), 7, []),
  (79, ([(0, ((2, 0, 0, 4), (0, 0, 0), (0, 0), [])), (1, ((2, 0, 0, 10), (0, 0, 0), (0, 0), [])), (2, ((0, 5, 5, 0), (0, 0, 0), (0, 0), [])), (3, ((0, 40, 40, 1), (0, 0, 0), (0, 0), []))], [], []), 6, []),
  (80, ([(0, ((2, 0, 0, 4), (0, 0, 0), (0, 0), [])), (1, ((2, 0, 0, 10), (0, 0, 0), (0, 0), [])), (2, ((0, 5, 5, 0), (0, 0, 0), (0, 0), [])), (3, ((0, 40, 40, 1), (0, 0, 0), (0, 0), []))], [((0, 0, 1, 1), (0, 0, 0), (0, 0), [])], []), 5, []),
  (81, ([(0, ((2, 0, 0, 4), (0, 0, 0), (0, 0), [])), (1, ((2, 0, 0, 10), (0, 0, 0), (0, 0), [])), (2, ((0, 5, 5, 0), (0, 0, 0), (0, 0), [])), (3, ((0, -2147483648, 2147483647, 1), (0, 0, 0), (0, 0), [(0, 2147483647, ((2, 213, 2), 0, 599))]))], [], []), 4, []),
  (99, ([(0, ((2, 0, 0, 4), (0, 0, 0), (0, 0), [])), (1, ((2, 0, 0, 10), (0, 0, 0), (0, 0), [])), (2, ((0, 5, 5, 0), (0, 0, 0), (0, 0), [])), (3, ((0, -2147483648, 2147483647, 1), (0, 0, 0), (0, 0), [(0, 2147483647, ((2, 213, 2), 0, 599))]))], [], []), 3, [])]
def bl_X4_takeThing_at_5 : List aB := [(0, vb_X4_takeThing_0, some 15), (15, vb_X4_takeThing_15, some 24), (24, vb_X4_takeThing_24, some 79), (79, vb_X4_takeThing_79, some 80), (80, vb_X4_takeThing_80, some 81), (81, vb_X4_takeThing_81, some 99), (99, vb_X4_takeThing_99, some 117), (117, vb_X4_takeThing_117, some 135), (135, vb_X4_takeThing_135, none)]
def cz_X4_takeThing_at_5 : List (Nat × aC) := [(20, cc_X10_fail), (35, cc_X10_next), (60, cc_X4_takeSum_at_6), (69, cc_X10_skip), (82, cc_X10_isDigit), (91, cc_X10_digits), (94, cc_X4_add), (130, cc_X4_add), (140, cc_X10_fail)]
theorem ck_X4_takeThing_at_5 : csOK cz_X4_takeThing_at_5 := ⟨ct_X10_fail, ct_X10_next, ct_X4_takeSum_at_6, ct_X10_skip, ct_X10_isDigit, ct_X10_digits, ct_X4_add, ct_X4_add, ct_X10_fail, trivial⟩
theorem cv_X4_takeThing_at_5 : blOK kd_X4_takeThing bl_X4_takeThing_at_5 := ⟨ve_X4_takeThing_0, ve_X4_takeThing_15, ve_X4_takeThing_24, ve_X4_takeThing_79, ve_X4_takeThing_80, ve_X4_takeThing_81, ve_X4_takeThing_99, ve_X4_takeThing_117, ve_X4_takeThing_135, trivial⟩
theorem ch_X4_takeThing_at_5 : amchk ta_X4_takeThing_at_5 bl_X4_takeThing_at_5 cz_X4_takeThing_at_5 cc_X4_takeThing_at_5 = true := by decide +kernel
theorem ct_X4_takeThing_at_5 : CtOK cc_X4_takeThing_at_5 := am_ok' (T := ta_X4_takeThing_at_5) (B := bl_X4_takeThing_at_5) (cs := cz_X4_takeThing_at_5) vm_X4_takeThing cv_X4_takeThing_at_5 (by decide +kernel) ch_X4_takeThing_at_5 ck_X4_takeThing_at_5
def cc_X4_takeProduct_at_5 : aC := (46, 15, [(2, 0, 0, 4), (2, 0, 0, 10), (0, 5, 5, 0)], some (0, 0, 1, 1), [], 0, [4, 10, 47, 3010, 4004, 4010], [], [], [])
def ta_X4_takeProduct_at_5 : List aL := [(0, ([(0, ((2, 0, 0, 4), (0, 0, 0), (0, 0), [])), (1, ((2, 0, 0, 10), (0, 0, 0), (0, 0), [])), (2, ((0, 5, 5, 0), (0, 0, 0), (0, 0), []))], [], []), 63, [(4, 0)]),
  (10, ([(0, ((2, 0, 0, 4), (0, 0, 0), (0, 0), [])), (1, ((2, 0, 0, 10), (0, 0, 0), (0, 0), [])), (2, ((0, 5, 5, 0), (0, 0, 0), (0, 0), [])), (3, ((0, 0, 1, 1), (0, 0, 0), (0, 0), [])), (4, ((0, 0, 30, 1), (0, 0, 0), (0, 0), []))], [], []), 61, [(4, -2)]),
  (67, ([(0, ((2, 0, 0, 4), (0, 0, 0), (0, 0), [])), (1, ((2, 0, 0, 10), (0, 0, 0), (0, 0), [])), (2, ((0, 5, 5, 0), (0, 0, 0), (0, 0), [])), (3, ((0, 0, 1, 1), (0, 0, 0), (0, 0), [])), (4, ((0, 0, 30, 1), (0, 0, 0), (0, 0), []))], [], []), 0, [(4, 0)])]
def bl_X4_takeProduct_at_5 : List aB := [(0, vb_X4_takeProduct_0, some 10), (10, vb_X4_takeProduct_10, some 67), (67, vb_X4_takeProduct_67, none)]
def cz_X4_takeProduct_at_5 : List (Nat × aC) := [(3, cc_X4_takeThing_at_5), (22, cc_X10_next), (25, cc_X4_isProductSign), (32, cc_X10_next), (50, cc_X4_takeThing_at_5), (58, cc_X4_add)]
theorem ck_X4_takeProduct_at_5 : csOK cz_X4_takeProduct_at_5 := ⟨ct_X4_takeThing_at_5, ct_X10_next, ct_X4_isProductSign, ct_X10_next, ct_X4_takeThing_at_5, ct_X4_add, trivial⟩
theorem cv_X4_takeProduct_at_5 : blOK kd_X4_takeProduct bl_X4_takeProduct_at_5 := ⟨ve_X4_takeProduct_0, ve_X4_takeProduct_10, ve_X4_takeProduct_67, trivial⟩
theorem ch_X4_takeProduct_at_5 : amchk ta_X4_takeProduct_at_5 bl_X4_takeProduct_at_5 cz_X4_takeProduct_at_5 cc_X4_takeProduct_at_5 = true := by decide +kernel
theorem ct_X4_takeProduct_at_5 : CtOK cc_X4_takeProduct_at_5 := am_ok' (T := ta_X4_takeProduct_at_5) (B := bl_X4_takeProduct_at_5) (cs := cz_X4_takeProduct_at_5) vm_X4_takeProduct cv_X4_takeProduct_at_5 (by decide +kernel) ch_X4_takeProduct_at_5 ck_X4_takeProduct_at_5
def cc_X4_takeSum_at_5 : aC := (45, 16, [(2, 0, 0, 4), (2, 0, 0, 10), (0, 5, 5, 0)], some (0, 0, 1, 1), [], 0, [4, 10, 47, 3010, 4004, 4010], [], [], [])
def ta_X4_takeSum_at_5 : List aL := [(0, ([(0, ((2, 0, 0, 4), (0, 0, 0), (0, 0), [])), (1, ((2, 0, 0, 10), (0, 0, 0), (0, 0), [])), (2, ((0, 5, 5, 0), (0, 0, 0), (0, 0), []))], [], []), 63, [(4, 0)]),
  (10, ([(0, ((2, 0, 0, 4), (0, 0, 0), (0, 0), [])), (1, ((2, 0, 0, 10), (0, 0, 0), (0, 0), [])), (2, ((0, 5, 5, 0), (0, 0, 0), (0, 0), [])), (3, ((0, 0, 1, 1), (0, 0, 0), (0, 0), [])), (4, ((0, 0, 30, 1), (0, 0, 0), (0, 0), []))], [], []), 61, [(4, -2)]),
  (67, ([(0, ((2, 0, 0, 4), (0, 0, 0), (0, 0), [])), (1, ((2, 0, 0, 10), (0, 0, 0), (0, 0), [])), (2, ((0, 5, 5, 0), (0, 0, 0), (0, 0), [])), (3, ((0, 0, 1, 1), (0, 0, 0), (0, 0), [])), (4, ((0, 0, 30, 1), (0, 0, 0), (0, 0), []))], [], []), 0, [(4, 0)])]
def bl_X4_takeSum_at_5 : List aB := [(0, vb_X4_takeSum_0, some 10), (10, vb_X4_takeSum_10, some 67), (67, vb_X4_takeSum_67, none)]
def cz_X4_takeSum_at_5 : List (Nat × aC) := [(3, cc_X4_takeProduct_at_5), (22, cc_X10_next), (25, cc_X4_isSumSign), (32, cc_X10_next), (50, cc_X4_takeProduct_at_5), (58, cc_X4_add)]
theorem ck_X4_takeSum_at_5 : csOK cz_X4_takeSum_at_5 := ⟨ct_X4_takeProduct_at_5, ct_X10_next, ct_X4_isSumSign, ct_X10_next, ct_X4_takeProduct_at_5, ct_X4_add, trivial⟩
theorem cv_X4_takeSum_at_5 : blOK kd_X4_takeSum bl_X4_takeSum_at_5 := ⟨ve_X4_takeSum_0, ve_X4_takeSum_10, ve_X4_takeSum_67, trivial⟩
theorem ch_X4_takeSum_at_5 : amchk ta_X4_takeSum_at_5 bl_X4_takeSum_at_5 cz_X4_takeSum_at_5 cc_X4_takeSum_at_5 = true := by decide +kernel
theorem ct_X4_takeSum_at_5 : CtOK cc_X4_takeSum_at_5 := am_ok' (T := ta_X4_takeSum_at_5) (B := bl_X4_takeSum_at_5) (cs := cz_X4_takeSum_at_5) vm_X4_takeSum cv_X4_takeSum_at_5 (by decide +kernel) ch_X4_takeSum_at_5 ck_X4_takeSum_at_5
def cc_X4_takeThing_at_4 : aC := (47, 17, [(2, 0, 0, 4), (2, 0, 0, 10), (0, 4, 4, 0)], some (0, 0, 1, 1), [], 0, [4, 10, 47, 3010, 4004, 4010], [], [], [])
def ta_X4_takeThing_at_4 : List aL := [(0, ([(0, ((2, 0, 0, 4), (0, 0, 0), (0, 0), [])), (1, ((2, 0, 0, 10), (0, 0, 0), (0, 0), [])), (2, ((0, 4, 4, 0), (0, 0, 0), (0, 0), []))], [], []), 8, []),
  (117, ([(0, ((2, 0, 0, 4), (0, 0, 0), (0, 0), [])), (1, ((2, 0, 0, 10), (0, 0, 0), (0, 0), [])), (2, ((0, 4, 4, 0), (0, 0, 0), (0, 0), [])), (3, ((0, 99, 115, 1), (0, 0, 0), (0, 0), [(0, 2147483647, ((2, 213, 2), 0, 599))]))], [], [((2, 213, 2), 0, 599)]), 1, []),
  (135, ([(0, ((2, 0, 0, 4), (0, 0, 0), (0, 0), [])), (1, ((2, 0, 0, 10), (0, 0, 0), (0, 0), [])), (2, ((0, 4, 4, 0), (0, 0, 0), (0, 0), [])), (3, ((0, -2147483648, 2147483647, 1), (0, 0, 0), (0, 0), [(0, 2147483647, ((2, 213, 2), 0, 599))]))], [], []), 2, []),
  (15, ([(0, ((2, 0, 0, 4), (0, 0, 0), (0, 0), [])), (1, ((2, 0, 0, 10), (0, 0, 0), (0, 0), [])), (2, ((0, 4, 4, 0), (0, 0, 0), (0, 0), []))], [], []), 0, []),
  (24, ([(0, ((2, 0, 0, 4), (0, 0, 0), (0, 0), [])), (1, ((2, 0, 0, 10), (0, 0, 0), (0, 0), [])), (2, ((0, 4, 4, 0), (0, 0, 0), (0, 0), []))], [], []), 7, []),
  (79, ([(0, ((2, 0, 0, 4), (0, 0, 0), (0, 0), [])), (1, ((2, 0, 0, 10), (0, 0, 0), (0, 0), [])), (2, ((0, 4, 4, 0), (0, 0, 0), (0, 0), [])), (3, ((0, 40, 40, 1), (0, 0, 0), (0, 0), []))], [], []), 6, []),
  (80, ([(0, ((2, 0, 0, 4), (0, 0, 0), (0, 0), [])), (1, ((2, 0, 0, 10), (0, 0, 0), (0, 0), [])), (2, ((0, 4, 4, 0), (0, 0, 0), (0, 0), [])), (3, ((0, 40, 40, 1), (0, 0, 0), (0, 0), []))], [((0, 0, 1, 1), (0, 0, 0), (0, 0), [])], []), 5, []),
  (81, ([(0, ((2, 0, 0, 4), (0, 0, 0), (0, 0), [])), (1, ((2, 0, 0, 10), (0, 0, 0), (0, 0), [])), (2, ((0, 4, 4, 0), (0, 0, 0), (0, 0), [])), (3, ((0, -2147483648, 2147483647, 1), (0, 0, 0), (0, 0), [(0, 2147483647, ((2, 213, 2), 0, 599))]))], [], []), 4, []),
  (99, ([(0, ((2, 0, 0, 4), (0, 0, 0), (0, 0), [])), (1, ((2, 0, 0, 10), (0, 0, 0), (0, 0), [])), (2, ((0, 4, 4, 0), (0, 0, 0), (0, 0), [])), (3, ((0, -2147483648, 2147483647, 1), (0, 0, 0), (0, 0), [(0, 2147483647, ((2, 213, 2), 0, 599))]))], [], []), 3, [])]
def bl_X4_takeThing_at_4 : List aB := [(0, vb_X4_takeThing_0, some 15), (15, vb_X4_takeThing_15, some 24), (24, vb_X4_takeThing_24, some 79), (79, vb_X4_takeThing_79, some 80), (80, vb_X4_takeThing_80, some 81), (81, vb_X4_takeThing_81, some 99), (99, vb_X4_takeThing_99, some 117), (117, vb_X4_takeThing_117, some 135), (135, vb_X4_takeThing_135, none)]
def cz_X4_takeThing_at_4 : List (Nat × aC) := [(20, cc_X10_fail), (35, cc_X10_next), (60, cc_X4_takeSum_at_5), (69, cc_X10_skip), (82, cc_X10_isDigit), (91, cc_X10_digits), (94, cc_X4_add), (130, cc_X4_add), (140, cc_X10_fail)]
theorem ck_X4_takeThing_at_4 : csOK cz_X4_takeThing_at_4 := ⟨ct_X10_fail, ct_X10_next, ct_X4_takeSum_at_5, ct_X10_skip, ct_X10_isDigit, ct_X10_digits, ct_X4_add, ct_X4_add, ct_X10_fail, trivial⟩
theorem cv_X4_takeThing_at_4 : blOK kd_X4_takeThing bl_X4_takeThing_at_4 := ⟨ve_X4_takeThing_0, ve_X4_takeThing_15, ve_X4_takeThing_24, ve_X4_takeThing_79, ve_X4_takeThing_80, ve_X4_takeThing_81, ve_X4_takeThing_99, ve_X4_takeThing_117, ve_X4_takeThing_135, trivial⟩
theorem ch_X4_takeThing_at_4 : amchk ta_X4_takeThing_at_4 bl_X4_takeThing_at_4 cz_X4_takeThing_at_4 cc_X4_takeThing_at_4 = true := by decide +kernel
theorem ct_X4_takeThing_at_4 : CtOK cc_X4_takeThing_at_4 := am_ok' (T := ta_X4_takeThing_at_4) (B := bl_X4_takeThing_at_4) (cs := cz_X4_takeThing_at_4) vm_X4_takeThing cv_X4_takeThing_at_4 (by decide +kernel) ch_X4_takeThing_at_4 ck_X4_takeThing_at_4
def cc_X4_takeProduct_at_4 : aC := (46, 18, [(2, 0, 0, 4), (2, 0, 0, 10), (0, 4, 4, 0)], some (0, 0, 1, 1), [], 0, [4, 10, 47, 3010, 4004, 4010], [], [], [])
def ta_X4_takeProduct_at_4 : List aL := [(0, ([(0, ((2, 0, 0, 4), (0, 0, 0), (0, 0), [])), (1, ((2, 0, 0, 10), (0, 0, 0), (0, 0), [])), (2, ((0, 4, 4, 0), (0, 0, 0), (0, 0), []))], [], []), 63, [(4, 0)]),
  (10, ([(0, ((2, 0, 0, 4), (0, 0, 0), (0, 0), [])), (1, ((2, 0, 0, 10), (0, 0, 0), (0, 0), [])), (2, ((0, 4, 4, 0), (0, 0, 0), (0, 0), [])), (3, ((0, 0, 1, 1), (0, 0, 0), (0, 0), [])), (4, ((0, 0, 30, 1), (0, 0, 0), (0, 0), []))], [], []), 61, [(4, -2)]),
  (67, ([(0, ((2, 0, 0, 4), (0, 0, 0), (0, 0), [])), (1, ((2, 0, 0, 10), (0, 0, 0), (0, 0), [])), (2, ((0, 4, 4, 0), (0, 0, 0), (0, 0), [])), (3, ((0, 0, 1, 1), (0, 0, 0), (0, 0), [])), (4, ((0, 0, 30, 1), (0, 0, 0), (0, 0), []))], [], []), 0, [(4, 0)])]
def bl_X4_takeProduct_at_4 : List aB := [(0, vb_X4_takeProduct_0, some 10), (10, vb_X4_takeProduct_10, some 67), (67, vb_X4_takeProduct_67, none)]
def cz_X4_takeProduct_at_4 : List (Nat × aC) := [(3, cc_X4_takeThing_at_4), (22, cc_X10_next), (25, cc_X4_isProductSign), (32, cc_X10_next), (50, cc_X4_takeThing_at_4), (58, cc_X4_add)]
theorem ck_X4_takeProduct_at_4 : csOK cz_X4_takeProduct_at_4 := ⟨ct_X4_takeThing_at_4, ct_X10_next, ct_X4_isProductSign, ct_X10_next, ct_X4_takeThing_at_4, ct_X4_add, trivial⟩
theorem cv_X4_takeProduct_at_4 : blOK kd_X4_takeProduct bl_X4_takeProduct_at_4 := ⟨ve_X4_takeProduct_0, ve_X4_takeProduct_10, ve_X4_takeProduct_67, trivial⟩
theorem ch_X4_takeProduct_at_4 : amchk ta_X4_takeProduct_at_4 bl_X4_takeProduct_at_4 cz_X4_takeProduct_at_4 cc_X4_takeProduct_at_4 = true := by decide +kernel
theorem ct_X4_takeProduct_at_4 : CtOK cc_X4_takeProduct_at_4 := am_ok' (T := ta_X4_takeProduct_at_4) (B := bl_X4_takeProduct_at_4) (cs := cz_X4_takeProduct_at_4) vm_X4_takeProduct cv_X4_takeProduct_at_4 (by decide +kernel) ch_X4_takeProduct_at_4 ck_X4_takeProduct_at_4
def cc_X4_takeSum_at_4 : aC := (45, 19, [(2, 0, 0, 4), (2, 0, 0, 10), (0, 4, 4, 0)], some (0, 0, 1, 1), [], 0, [4, 10, 47, 3010, 4004, 4010], [], [], [])
def ta_X4_takeSum_at_4 : List aL := [(0, ([(0, ((2, 0, 0, 4), (0, 0, 0), (0, 0), [])), (1, ((2, 0, 0, 10), (0, 0, 0), (0, 0), [])), (2, ((0, 4, 4, 0), (0, 0, 0), (0, 0), []))], [], []), 63, [(4, 0)]),
  (10, ([(0, ((2, 0, 0, 4), (0, 0, 0), (0, 0), [])), (1, ((2, 0, 0, 10), (0, 0, 0), (0, 0), [])), (2, ((0, 4, 4, 0), (0, 0, 0), (0, 0), [])), (3, ((0, 0, 1, 1), (0, 0, 0), (0, 0), [])), (4, ((0, 0, 30, 1), (0, 0, 0), (0, 0), []))], [], []), 61, [(4, -2)]),
  (67, ([(0, ((2, 0, 0, 4), (0, 0, 0), (0, 0), [])), (1, ((2, 0, 0, 10), (0, 0, 0), (0, 0), [])), (2, ((0, 4, 4, 0), (0, 0, 0), (0, 0), [])), (3, ((0, 0, 1, 1), (0, 0, 0), (0, 0), [])), (4, ((0, 0, 30, 1), (0, 0, 0), (0, 0), []))], [], []), 0, [(4, 0)])]
def bl_X4_takeSum_at_4 : List aB := [(0, vb_X4_takeSum_0, some 10), (10, vb_X4_takeSum_10, some 67), (67, vb_X4_takeSum_67, none)]
def cz_X4_takeSum_at_4 : List (Nat × aC) := [(3, cc_X4_takeProduct_at_4), (22, cc_X10_next), (25, cc_X4_isSumSign), (32, cc_X10_next), (50, cc_X4_takeProduct_at_4), (58, cc_X4_add)]
theorem ck_X4_takeSum_at_4 : csOK cz_X4_takeSum_at_4 := ⟨ct_X4_takeProduct_at_4, ct_X10_next, ct_X4_isSumSign, ct_X10_next, ct_X4_takeProduct_at_4, ct_X4_add, trivial⟩
theorem cv_X4_takeSum_at_4 : blOK kd_X4_takeSum bl_X4_takeSum_at_4 := ⟨ve_X4_takeSum_0, ve_X4_takeSum_10, ve_X4_takeSum_67, trivial⟩
theorem ch_X4_takeSum_at_4 : amchk ta_X4_takeSum_at_4 bl_X4_takeSum_at_4 cz_X4_takeSum_at_4 cc_X4_takeSum_at_4 = true := by decide +kernel
theorem ct_X4_takeSum_at_4 : CtOK cc_X4_takeSum_at_4 := am_ok' (T := ta_X4_takeSum_at_4) (B := bl_X4_takeSum_at_4) (cs := cz_X4_takeSum_at_4) vm_X4_takeSum cv_X4_takeSum_at_4 (by decide +kernel) ch_X4_takeSum_at_4 ck_X4_takeSum_at_4
def cc_X4_takeThing_at_3 : aC := (47, 20, [(2, 0, 0, 4), (2, 0, 0, 10), (0, 3, 3, 0)], some (0, 0, 1, 1), [], 0, [4, 10, 47, 3010, 4004, 4010], [], [], [])
def ta_X4_takeThing_at_3 : List aL := [(0, ([(0, ((2, 0, 0, 4), (0, 0, 0), (0, 0), [])), (1, ((2, 0, 0, 10), (0, 0, 0), (0, 0), [])), (2, ((0, 3, 3, 0), (0, 0, 0), (0, 0), []))], [], []), 8, []),
  (117, ([(0, ((2, 0, 0, 4), (0, 0, 0), (0, 0), [])), (1, ((2, 0, 0, 10), (0, 0, 0), (0, 0), [])), (2, ((0, 3, 3, 0), (0, 0, 0), (0, 0), [])), (3, ((0, 99, 115, 1), (0, 0, 0), (0, 0), [(0, 2147483647, ((2, 213, 2), 0, 599))]))], [], [((2, 213, 2), 0, 599)]), 1, []),
  (135, ([(0, ((2, 0, 0, 4), (0, 0, 0), (0, 0), [])), (1, ((2, 0, 0, 10), (0, 0, 0), (0, 0), [])), (2, ((0, 3, 3, 0), (0, 0, 0), (0, 0), [])), (3, ((0, -2147483648, 2147483647, 1), (0, 0, 0), (0, 0), [(0, 2147483647, ((2, 213, 2), 0, 599))]))], [], []), 2, []),
  (15, ([(0, ((2, 0, 0, 4), (0, 0, 0), (0, 0), [])), (1, ((2, 0, 0, 10), (0, 0, 0), (0, 0), [])), (2, ((0, 3, 3, 0), (0, 0, 0), (0, 0), []))], [], []), 0, []),
  (24, ([(0, ((2, 0, 0, 4), (0, 0, 0), (0, 0), [])), (1, ((2, 0, 0, 10), (0, 0, 0), (0, 0), [])), (2, ((0, 3, 3, 0), (0, 0, 0), (0, 0), []))], [], []), 7, []),
  (79, ([(0, ((2, 0, 0, 4), (0, 0, 0), (0, 0), [])), (1, ((2, 0, 0, 10), (0, 0, 0), (0, 0), [])), (2, ((0, 3, 3, 0), (0, 0, 0), (0, 0), [])), (3, ((0, 40, 40, 1), (0, 0, 0), (0, 0), []))], [], []), 6, []),
  (80, ([(0, ((2, 0, 0, 4), (0, 0, 0), (0, 0), [])), (1, ((2, 0, 0, 10), (0, 0, 0), (0, 0), [])), (2, ((0, 3, 3, 0), (0, 0, 0), (0, 0), [])), (3, ((0, 40, 40, 1), (0, 0, 0), (0, 0), []))], [((0, 0, 1, 1), (0, 0, 0), (0, 0), [])], []), 5, []),
  (81, ([(0, ((2, 0, 0, 4), (0, 0, 0), (0, 0), [])), (1, ((2, 0, 0, 10), (0, 0, 0), (0, 0), [])), (2, ((0, 3, 3, 0), (0, 0, 0), (0, 0), [])), (3, ((0, -2147483648, 2147483647, 1), (0, 0, 0), (0, 0), [(0, 2147483647, ((2, 213, 2), 0, 599))]))], [], []), 4, []),
  (99, ([(0, ((2, 0, 0, 4), (0, 0, 0), (0, 0), [])), (1, ((2, 0, 0, 10), (0, 0, 0), (0, 0), [])), (2, ((0, 3, 3, 0), (0, 0, 0), (0, 0), [])), (3, ((0, -2147483648, 2147483647, 1), (0, 0, 0), (0, 0), [(0, 2147483647, ((2, 213, 2), 0, 599))]))], [], []), 3, [])]
def bl_X4_takeThing_at_3 : List aB := [(0, vb_X4_takeThing_0, some 15), (15, vb_X4_takeThing_15, some 24), (24, vb_X4_takeThing_24, some 79), (79, vb_X4_takeThing_79, some 80), (80, vb_X4_takeThing_80, some 81), (81, vb_X4_takeThing_81, some 99), (99, vb_X4_takeThing_99, some 117), (117, vb_X4_takeThing_117, some 135), (135, vb_X4_takeThing_135, none)]
def cz_X4_takeThing_at_3 : List (Nat × aC) := [(20, cc_X10_fail), (35, cc_X10_next), (60, cc_X4_takeSum_at_4), (69, cc_X10_skip), (82, cc_X10_isDigit), (91, cc_X10_digits), (94, cc_X4_add), (130, cc_X4_add), (140, cc_X10_fail)]
theorem ck_X4_takeThing_at_3 : csOK cz_X4_takeThing_at_3 := ⟨ct_X10_fail, ct_X10_next, ct_X4_takeSum_at_4, ct_X10_skip, ct_X10_isDigit, ct_X10_digits, ct_X4_add, ct_X4_add, ct_X10_fail, trivial⟩
theorem cv_X4_takeThing_at_3 : blOK kd_X4_takeThing bl_X4_takeThing_at_3 := ⟨ve_X4_takeThing_0, ve_X4_takeThing_15, ve_X4_takeThing_24, ve_X4_takeThing_79, ve_X4_takeThing_80, ve_X4_takeThing_81, ve_X4_takeThing_99, ve_X4_takeThing_117, ve_X4_takeThing_135, trivial⟩
theorem ch_X4_takeThing_at_3 : amchk ta_X4_takeThing_at_3 bl_X4_takeThing_at_3 cz_X4_takeThing_at_3 cc_X4_takeThing_at_3 = true := by decide +kernel
theorem ct_X4_takeThing_at_3 : CtOK cc_X4_takeThing_at_3 := am_ok' (T := ta_X4_takeThing_at_3) (B := bl_X4_takeThing_at_3) (cs := cz_X4_takeThing_at_3) vm_X4_takeThing cv_X4_takeThing_at_3 (by decide +kernel) ch_X4_takeThing_at_3 ck_X4_takeThing_at_3
def cc_X4_takeProduct_at_3 : aC := (46, 21, [(2, 0, 0, 4), (2, 0, 0, 10), (0, 3, 3, 0)], some (0, 0, 1, 1), [], 0, [4, 10, 47, 3010, 4004, 4010], [], [], [])
def ta_X4_takeProduct_at_3 : List aL := [(0, ([(0, ((2, 0, 0, 4), (0, 0, 0), (0, 0), [])), (1, ((2, 0, 0, 10), (0, 0, 0), (0, 0), [])), (2, ((0, 3, 3, 0), (0, 0, 0), (0, 0), []))], [], []), 63, [(4, 0)]),
  (10, ([(0, ((2, 0, 0, 4), (0, 0, 0), (0, 0), [])), (1, ((2, 0, 0, 10), (0, 0, 0), (0, 0), [])), (2, ((0, 3, 3, 0), (0, 0, 0), (0, 0), [])), (3, ((0, 0, 1, 1), (0, 0, 0), (0, 0), [])), (4, ((0, 0, 30, 1), (0, 0, 0), (0, 0), []))], [], []), 61, [(4, -2)]),
  (67, ([(0, ((2, 0, 0, 4), (0, 0, 0), (0, 0), [])), (1, ((2, 0, 0, 10), (0, 0, 0), (0, 0), [])), (2, ((0, 3, 3, 0), (0, 0, 0), (0, 0), [])), (3, ((0, 0, 1, 1), (0, 0, 0), (0, 0), [])), (4, ((0, 0, 30, 1), (0, 0, 0), (0, 0), []))], [], []), 0, [(4, 0)])]
def bl_X4_takeProduct_at_3 : List aB := [(0, vb_X4_takeProduct_0, some 10), (10, vb_X4_takeProduct_10, some 67), (67, vb_X4_takeProduct_67, none)]
def cz_X4_takeProduct_at_3 : List (Nat × aC) := [(3, cc_X4_takeThing_at_3), (22, cc_X10_next), (25, cc_X4_isProductSign), (32, cc_X10_next), (50, cc_X4_takeThing_at_3), (58, cc_X4_add)]
theorem ck_X4_takeProduct_at_3 : csOK cz_X4_takeProduct_at_3 := ⟨ct_X4_takeThing_at_3, ct_X10_next, ct_X4_isProductSign, ct_X10_next, ct_X4_takeThing_at_3, ct_X4_add, trivial⟩
theorem cv_X4_takeProduct_at_3 : blOK kd_X4_takeProduct bl_X4_takeProduct_at_3 := ⟨ve_X4_takeProduct_0, ve_X4_takeProduct_10, ve_X4_takeProduct_67, trivial⟩
theorem ch_X4_takeProduct_at_3 : amchk ta_X4_takeProduct_at_3 bl_X4_takeProduct_at_3 cz_X4_takeProduct_at_3 cc_X4_takeProduct_at_3 = true := by decide +kernel
theorem ct_X4_takeProduct_at_3 : CtOK cc_X4_takeProduct_at_3 := am_ok' (T := ta_X4_takeProduct_at_3) (B := bl_X4_takeProduct_at_3) (cs := cz_X4_takeProduct_at_3) vm_X4_takeProduct cv_X4_takeProduct_at_3 (by decide +kernel) ch_X4_takeProduct_at_3 ck_X4_takeProduct_at_3
def cc_X4_takeSum_at_3 : aC := (45, 22, [(2, 0, 0, 4), (2, 0, 0, 10), (0, 3, 3, 0)], some (0, 0, 1, 1), [], 0, [4, 10, 47, 3010, 4004, 4010], [], [], [])
def ta_X4_takeSum_at_3 : List aL := [(0, ([(0, ((2, 0, 0, 4), (0, 0, 0), (0, 0), [])), (1, ((2, 0, 0, 10), (0, 0, 0), (0, 0), [])), (2, ((0, 3, 3, 0), (0, 0, 0), (0, 0), []))], [], []), 63, [(4, 0)]),
  (10, ([(0, ((2, 0, 0, 4), (0, 0, 0), (0, 0), [])), (1, ((2, 0, 0, 10), (0, 0, 0), (0, 0), [])), (2, ((0, 3, 3, 0), (0, 0, 0), (0, 0), [])), (3, ((0, 0, 1, 1), (0, 0, 0), (0, 0), [])), (4, ((0, 0, 30, 1), (0, 0, 0), (0, 0), []))], [], []), 61, [(4, -2)]),
  (67, ([(0, ((2, 0, 0, 4), (0, 0, 0), (0, 0), [])), (1, ((2, 0, 0, 10), (0, 0, 0), (0, 0), [])), (2, ((0, 3, 3, 0), (0, 0, 0), (0, 0), [])), (3, ((0, 0, 1, 1), (0, 0, 0), (0, 0), [])), (4, ((0, 0, 30, 1), (0, 0, 0), (0, 0), []))], [], []), 0, [(4, 0)])]
def bl_X4_takeSum_at_3 : List aB := [(0, vb_X4_takeSum_0, some 10), (10, vb_X4_takeSum_10, some 67), (67, vb_X4_takeSum_67, none)]
def cz_X4_takeSum_at_3 : List (Nat × aC) := [(3, cc_X4_takeProduct_at_3), (22, cc_X10_next), (25, cc_X4_isSumSign), (32, cc_X10_next), (50, cc_X4_takeProduct_at_3), (58, cc_X4_add)]
theorem ck_X4_takeSum_at_3 : csOK cz_X4_takeSum_at_3 := ⟨ct_X4_takeProduct_at_3, ct_X10_next, ct_X4_isSumSign, ct_X10_next, ct_X4_takeProduct_at_3, ct_X4_add, trivial⟩
theorem cv_X4_takeSum_at_3 : blOK kd_X4_takeSum bl_X4_takeSum_at_3 := ⟨ve_X4_takeSum_0, ve_X4_takeSum_10, ve_X4_takeSum_67, trivial⟩
theorem ch_X4_takeSum_at_3 : amchk ta_X4_takeSum_at_3 bl_X4_takeSum_at_3 cz_X4_takeSum_at_3 cc_X4_takeSum_at_3 = true := by decide +kernel
theorem ct_X4_takeSum_at_3 : CtOK cc_X4_takeSum_at_3 := am_ok' (T := ta_X4_takeSum_at_3) (B := bl_X4_takeSum_at_3) (cs := cz_X4_takeSum_at_3) vm_X4_takeSum cv_X4_takeSum_at_3 (by decide +kernel) ch_X4_takeSum_at_3 ck_X4_takeSum_at_3
def cc_X4_takeThing_at_2 : aC := (47, 23, [(2, 0, 0, 4), (2, 0, 0, 10), (0, 2, 2, 0)], some (0, 0, 1, 1), [], 0, [4, 10, 47, 3010, 4004, 4010], [], [], [])
def ta_X4_takeThing_at_2 : List aL := [(0, ([(0, ((2, 0, 0, 4), (0, 0, 0), (0, 0), [])), (1, ((2, 0, 0, 10), (0, 0, 0), (0, 0), [])), (2, ((0, 2, 2, 0), (0, 0, 0), (0, 0), []))], [], []), 8, []),
  (117, ([(0, ((2, 0, 0, 4), (0, 0, 0), (0, 0), [])), (1, ((2, 0, 0, 10), (0, 0, 0), (0, 0), [])), (2, ((0, 2, 2, 0), (0, 0, 0), (0, 0), [])), (3, ((0, 99, 115, 1), (0, 0, 0), (0, 0), [(0, 2147483647, ((2, 213, 2), 0, 599))]))], [], [((2, 213, 2), 0, 599)]), 1, []),
  (135, ([(0, ((2, 0, 0, 4), (0, 0, 0), (0, 0), [])), (1, ((2, 0, 0, 10), (0, 0, 0), (0, 0), [])), (2, ((0, 2, 2, 0), (0, 0, 0), (0, 0), [])), (3, ((0, -2147483648, 2147483647, 1), (0, 0, 0), (0, 0), [(0, 2147483647, ((2, 213, 2), 0, 599))]))], [], []), 2, []),
  (15, ([(0, ((2, 0, 0, 4), (0, 0, 0), (0, 0), [])), (1, ((2, 0, 0, 10), (0, 0, 0), (0, 0), [])), (2, ((0, 2, 2, 0), (0, 0, 0), (0, 0), []))], [], []), 0, []),
  (24, ([(0, ((2, 0, 0, 4), (0, 0, 0), (0, 0), [])), (1, ((2, 0, 0, 10), (0, 0, 0), (0, 0), [])), (2, ((0, 2, 2, 0), (0, 0, 0), (0, 0), []))], [], []), 7, []),
  (79, ([(0, ((2, 0, 0, 4), (0, 0, 0), (0, 0), [])), (1, ((2, 0, 0, 10), (0, 0, 0), (0, 0), [])), (2, ((0, 2, 2, 0), (0, 0, 0), (0, 0), [])), (3, ((0, 40, 40, 1), (0, 0, 0), (0, 0), []))], [], []), 6, []),
  (80, ([(0, ((2, 0, 0, 4), (0, 0, 0), (0, 0), [])), (1, ((2, 0, 0, 10), (0, 0, 0), (0, 0), [])), (2, ((0, 2, 2, 0), (0, 0, 0), (0, 0), [])), (3, ((0, 40, 40, 1), (0, 0, 0), (0, 0), []))], [((0, 0, 1, 1), (0, 0, 0), (0, 0), [])], []), 5, []),
  (81, ([(0, ((2, 0, 0, 4), (0, 0, 0), (0, 0), [])), (1, ((2, 0, 0, 10), (0, 0, 0), (0, 0), [])), (2, ((0, 2, 2, 0), (0, 0, 0), (0, 0), [])), (3, ((0, -2147483648, 2147483647, 1), (0, 0, 0), (0, 0), [(0, 2147483647, ((2, 213, 2), 0, 599))]))], [], []), 4, []),
  (99, ([(0, ((2, 0, 0, 4), (0, 0, 0), (0, 0), [])), (1, ((2, 0, 0, 10), (0, 0, 0), (0, 0), [])), (2, ((0, 2, 2, 0), (0, 0, 0), (0, 0), [])), (3, ((0, -2147483648, 2147483647, 1), (0, 0, 0), (0, 0), [(0, 2147483647, ((2, 213, 2), 0, 599))]))], [], []), 3, [])]
def bl_X4_takeThing_at_2 : List aB := [(0, vb_X4_takeThing_0, some 15), (15, vb_X4_takeThing_15, some 24), (24, vb_X4_takeThing_24, some 79), (79, vb_X4_takeThing_79, some 80), (80, vb_X4_takeThing_80, some 81), (81, vb_X4_takeThing_81, some 99), (99, vb_X4_takeThing_99, some 117), (117, vb_X4_takeThing_117, some 135), (135, vb_X4_takeThing_135, none)]
def cz_X4_takeThing_at_2 : List (Nat × aC) := [(20, cc_X10_fail), (35, cc_X10_next), (60, cc_X4_takeSum_at_3), (69, cc_X10_skip), (82, cc_X10_isDigit), (91, cc_X10_digits), (94, cc_X4_add), (130, cc_X4_add), (140, cc_X10_fail)]
theorem ck_X4_takeThing_at_2 : csOK cz_X4_takeThing_at_2 := ⟨ct_X10_fail, ct_X10_next, ct_X4_takeSum_at_3, ct_X10_skip, ct_X10_isDigit, ct_X10_digits, ct_X4_add, ct_X4_add, ct_X10_fail, trivial⟩
theorem cv_X4_takeThing_at_2 : blOK kd_X4_takeThing bl_X4_takeThing_at_2 := ⟨ve_X4_takeThing_0, ve_X4_takeThing_15, ve_X4_takeThing_24, ve_X4_takeThing_79, ve_X4_takeThing_80, ve_X4_takeThing_81, ve_X4_takeThing_99, ve_X4_takeThing_117, ve_X4_takeThing_135, trivial⟩
theorem ch_X4_takeThing_at_2 : amchk ta_X4_takeThing_at_2 bl_X4_takeThing_at_2 cz_X4_takeThing_at_2 cc_X4_takeThing_at_2 = true := by decide +kernel
theorem ct_X4_takeThing_at_2 : CtOK cc_X4_takeThing_at_2 := am_ok' (T := ta_X4_takeThing_at_2) (B := bl_X4_takeThing_at_2) (cs := cz_X4_takeThing_at_2) vm_X4_takeThing cv_X4_takeThing_at_2 (by decide +kernel) ch_X4_takeThing_at_2 ck_X4_takeThing_at_2
def cc_X4_takeProduct_at_2 : aC := (46, 24, [(2, 0, 0, 4), (2, 0, 0, 10), (0, 2, 2, 0)], some (0, 0, 1, 1), [], 0, [4, 10, 47, 3010, 4004, 4010], [], [], [])
def ta_X4_takeProduct_at_2 : List aL := [(0, ([(0, ((2, 0, 0, 4), (0, 0, 0), (0, 0), [])), (1, ((2, 0, 0, 10), (0, 0, 0), (0, 0), [])), (2, ((0, 2, 2, 0), (0, 0, 0), (0, 0), []))], [], []), 63, [(4, 0)]),
  (10, ([(0, ((2, 0, 0, 4), (0, 0, 0), (0, 0), [])), (1, ((2, 0, 0, 10), (0, 0, 0), (0, 0), [])), (2, ((0, 2, 2, 0), (0, 0, 0), (0, 0), [])), (3, ((0, 0, 1, 1), (0, 0, 0), (0, 0), [])), (4, ((0, 0, 30, 1), (0, 0, 0), (0, 0), []))], [], []), 61, [(4, -2)]),
  (67, ([(0, ((2, 0, 0, 4), (0, 0, 0), (0, 0), [])), (1, ((2, 0, 0, 10), (0, 0, 0), (0, 0), [])), (2, ((0, 2, 2, 0), (0, 0, 0), (0, 0), [])), (3, ((0, 0, 1, 1), (0, 0, 0), (0, 0), [])), (4, ((0, 0, 30, 1), (0, 0, 0), (0, 0), []))], [], []), 0, [(4, 0)])]
def bl_X4_takeProduct_at_2 : List aB := [(0, vb_X4_takeProduct_0, some 10), (10, vb_X4_takeProduct_10, some 67), (67, vb_X4_takeProduct_67, none)]
def cz_X4_takeProduct_at_2 : List (Nat × aC) := [(3, cc_X4_takeThing_at_2), (22, cc_X10_next), (25, cc_X4_isProductSign), (32, cc_X10_next), (50, cc_X4_takeThing_at_2), (58, cc_X4_add)]
theorem ck_X4_takeProduct_at_2 : csOK cz_X4_takeProduct_at_2 := ⟨ct_X4_takeThing_at_2, ct_X10_next, ct_X4_isProductSign, ct_X10_next, ct_X4_takeThing_at_2, ct_X4_add, trivial⟩
theorem cv_X4_takeProduct_at_2 : blOK kd_X4_takeProduct bl_X4_takeProduct_at_2 := ⟨ve_X4_takeProduct_0, ve_X4_takeProduct_10, ve_X4_takeProduct_67, trivial⟩
theorem ch_X4_takeProduct_at_2 : amchk ta_X4_takeProduct_at_2 bl_X4_takeProduct_at_2 cz_X4_takeProduct_at_2 cc_X4_takeProduct_at_2 = true := by decide +kernel
theorem ct_X4_takeProduct_at_2 : CtOK cc_X4_takeProduct_at_2 := am_ok' (T := ta_X4_takeProduct_at_2) (B := bl_X4_takeProduct_at_2) (cs := cz_X4_takeProduct_at_2) vm_X4_takeProduct cv_X4_takeProduct_at_2 (by decide +kernel) ch_X4_takeProduct_at_2 ck_X4_takeProduct_at_2
def cc_X4_takeSum_at_2 : aC := (45, 25, [(2, 0, 0, 4), (2, 0, 0, 10), (0, 2, 2, 0)], some (0, 0, 1, 1), [], 0, [4, 10, 47, 3010, 4004, 4010], [], [], [])
def ta_X4_takeSum_at_2 : List aL := [(0, ([(0, ((2, 0, 0, 4), (0, 0, 0), (0, 0), [])), (1, ((2, 0, 0, 10), (0, 0, 0), (0, 0), [])), (2, ((0, 2, 2, 0), (0, 0, 0), (0, 0), []))], [], []), 63, [(4, 0)]),
  (10, ([(0, ((2, 0, 0, 4), (0, 0, 0), (0, 0), [])), (1, ((2, 0, 0, 10), (0, 0, 0), (0, 0), [])), (2, ((0, 2, 2, 0), (0, 0, 0), (0, 0), [])), (3, ((0, 0, 1, 1), (0, 0, 0), (0, 0), [])), (4, ((0, 0, 30, 1), (0, 0, 0), (0, 0), []))], [], []), 61, [(4, -2)]),
  (67, ([(0, ((2, 0, 0, 4), (0, 0, 0), (0, 0), [])), (1, ((2, 0, 0, 10), (0, 0, 0), (0, 0), [])), (2, ((0, 2, 2, 0), (0, 0, 0), (0, 0), [])), (3, ((0, 0, 1, 1), (0, 0, 0), (0, 0), [])), (4, ((0, 0, 30, 1), (0, 0, 0), (0, 0), []))], [], []), 0, [(4, 0)])]
def bl_X4_takeSum_at_2 : List aB := [(0, vb_X4_takeSum_0, some 10), (10, vb_X4_takeSum_10, some 67), (67, vb_X4_takeSum_67, none)]
def cz_X4_takeSum_at_2 : List (Nat × aC) := [(3, cc_X4_takeProduct_at_2), (22, cc_X10_next), (25, cc_X4_isSumSign), (32, cc_X10_next), (50, cc_X4_takeProduct_at_2), (58, cc_X4_add)]
theorem ck_X4_takeSum_at_2 : csOK cz_X4_takeSum_at_2 := ⟨ct_X4_takeProduct_at_2, ct_X10_next, ct_X4_isSumSign, ct_X10_next, ct_X4_takeProduct_at_2, ct_X4_add, trivial⟩
theorem cv_X4_takeSum_at_2 : blOK kd_X4_takeSum bl_X4_takeSum_at_2 := ⟨ve_X4_takeSum_0, ve_X4_takeSum_10, ve_X4_takeSum_67, trivial⟩
theorem ch_X4_takeSum_at_2 : amchk ta_X4_takeSum_at_2 bl_X4_takeSum_at_2 cz_X4_takeSum_at_2 cc_X4_takeSum_at_2 = true := by decide +kernel
theorem ct_X4_takeSum_at_2 : CtOK cc_X4_takeSum_at_2 := am_ok' (T := ta_X4_takeSum_at_2) (B := bl_X4_takeSum_at_2) (cs := cz_X4_takeSum_at_2) vm_X4_takeSum cv_X4_takeSum_at_2 (by decide +kernel) ch_X4_takeSum_at_2 ck_X4_takeSum_at_2
def cc_X4_takeThing_at_1 : aC := (47, 26, [(2, 0, 0, 4), (2, 0, 0, 10), (0, 1, 1, 0)], some (0, 0, 1, 1), [], 0, [4, 10, 47, 3010, 4004, 4010], [], [], [])
def ta_X4_takeThing_at_1 : List aL := [(0, ([(0, ((2, 0, 0, 4), (0, 0, 0), (0, 0), [])), (1, ((2, 0, 0, 10), (0, 0, 0), (0, 0), [])), (2, ((0, 1, 1, 0), (0, 0, 0), (0, 0), []))], [], []), 8, []),
  (117, ([(0, ((2, 0, 0, 4), (0, 0, 0), (0, 0), [])), (1, ((2, 0, 0, 10), (0, 0, 0), (0, 0), [])), (2, ((0, 1, 1, 0), (0, 0, 0), (0, 0), [])), (3, ((0, 99, 115, 1), (0, 0, 0), (0, 0), [(0, 2147483647, ((2, 213, 2), 0, 599))]))], [], [((2, 213, 2), 0, 599)]), 1, []),
  (135, ([(0, ((2, 0, 0, 4), (0, 0, 0), (0, 0), [])), (1, ((2, 0, 0, 10), (0, 0, 0), (0, 0), [])), (2, ((0, 1, 1, 0), (0, 0, 0), (0, 0), [])), (3, ((0, -2147483648, 2147483647, 1), (0, 0, 0), (0, 0), [(0, 2147483647, ((2, 213, 2), 0, 599))]))], [], []), 2, []),
  (15, ([(0, ((2, 0, 0, 4), (0, 0, 0), (0, 0), [])), (1, ((2, 0, 0, 10), (0, 0, 0), (0, 0), [])), (2, ((0, 1, 1, 0), (0, 0, 0), (0, 0), []))], [], []), 0, []),
  (24, ([(0, ((2, 0, 0, 4), (0, 0, 0), (0, 0), [])), (1, ((2, 0, 0, 10), (0, 0, 0), (0, 0), [])), (2, ((0, 1, 1, 0), (0, 0, 0), (0, 0), []))], [], []), 7, []),
  (79, ([(0, ((2, 0, 0, 4), (0, 0, 0), (0, 0), [])), (1, ((2, 0, 0, 10), (0, 0, 0), (0, 0), [])), (2, ((0, 1, 1, 0), (0, 0, 0), (0, 0), [])), (3, ((0, 40, 40, 1), (0, 0, 0), (0, 0), []))], [], []), 6, []),
  (80, ([(0, ((2, 0, 0, 4), (0, 0, 0), (0, 0), [])), (1, ((2, 0, 0, 10), (0, 0, 0), (0, 0), [])), (2, ((0, 1, 1, 0), (0, 0, 0), (0, 0), [])), (3, ((0, 40, 40, 1), (0, 0, 0), (0, 0), []))], [((0, 0, 1, 1), (0, 0, 0), (0, 0), [])], []), 5, []),
  (81, ([(0, ((2, 0, 0, 4), (0, 0, 0), (0, 0), [])), (1, ((2, 0, 0, 10), (0, 0, 0), (0, 0), [])), (2, ((0, 1, 1, 0), (0, 0, 0), (0, 0), [])), (3, ((0, -2147483648, 2147483647, 1), (0, 0, 0), (0, 0), [(0, 2147483647, ((2, 213, 2), 0, 599))]))], [], []), 4, []),
  (99, ([(0, ((2, 0, 0, 4), (0, 0, 0), (0, 0), [])), (1, ((2, 0, 0, 10), (0, 0, 0), (0, 0), [])), (2, ((0, 1, 1, 0), (0, 0, 0), (0, 0), [])), (3, ((0, -2147483648, 2147483647, 1), (0, 0, 0), (0, 0), [(0, 2147483647, ((2, 213, 2), 0, 599))]))], [], []), 3, [])]
def bl_X4_takeThing_at_1 : List aB := [(0, vb_X4_takeThing_0, some 15), (15, vb_X4_takeThing_15, some 24), (24, vb_X4_takeThing_24, some 79), (79, vb_X4_takeThing_79, some 80), (80, vb_X4_takeThing_80, some 81), (81, vb_X4_takeThing_81, some 99), (99, vb_X4_takeThing_99, some 117), (117, vb_X4_takeThing_117, some 135), (135, vb_X4_takeThing_135, none)]
def cz_X4_takeThing_at_1 : List (Nat × aC) := [(20, cc_X10_fail), (35, cc_X10_next), (60, cc_X4_takeSum_at_2), (69, cc_X10_skip), (82, cc_X10_isDigit), (91, cc_X10_digits), (94, cc_X4_add), (130, cc_X4_add), (140, cc_X10_fail)]
theorem ck_X4_takeThing_at_1 : csOK cz_X4_takeThing_at_1 := ⟨ct_X10_fail, ct_X10_next, ct_X4_takeSum_at_2, ct_X10_skip, ct_X10_isDigit, ct_X10_digits, ct_X4_add, ct_X4_add, ct_X10_fail, trivial⟩
theorem cv_X4_takeThing_at_1 : blOK kd_X4_takeThing bl_X4_takeThing_at_1 := ⟨ve_X4_takeThing_0, ve_X4_takeThing_15, ve_X4_takeThing_24, ve_X4_takeThing_79, ve_X4_takeThing_80, ve_X4_takeThing_81, ve_X4_takeThing_99, ve_X4_takeThing_117, ve_X4_takeThing_135, trivial⟩
theorem ch_X4_takeThing_at_1 : amchk ta_X4_takeThing_at_1 bl_X4_takeThing_at_1 cz_X4_takeThing_at_1 cc_X4_takeThing_at_1 = true := by decide +kernel
theorem ct_X4_takeThing_at_1 : CtOK cc_X4_takeThing_at_1 := am_ok' (T := ta_X4_takeThing_at_1) (B := bl_X4_takeThing_at_1) (cs := cz_X4_takeThing_at_1) vm_X4_takeThing cv_X4_takeThing_at_1 (by decide +kernel) ch_X4_takeThing_at_1 ck_X4_takeThing_at_1
def cc_X4_takeProduct_at_1 : aC := (46, 27, [(2, 0, 0, 4), (2, 0, 0, 10), (0, 1, 1, 0)], some (0, 0, 1, 1), [], 0, [4, 10, 47, 3010, 4004, 4010], [], [], [])
def ta_X4_takeProduct_at_1 : List aL := [(0, ([(0, ((2, 0, 0, 4), (0, 0, 0), (0, 0), [])), (1, ((2, 0, 0, 10), (0, 0, 0), (0, 0), [])), (2, ((0, 1, 1, 0), (0, 0, 0), (0, 0), []))], [], []), 63, [(4, 0)]),
  (10, ([(0, ((2, 0, 0, 4), (0, 0, 0), (0, 0), [])), (1, ((2, 0, 0, 10), (0, 0, 0), (0, 0), [])), (2, ((0, 1, 1, 0), (0, 0, 0), (0, 0), [])), (3, ((0, 0, 1, 1), (0, 0, 0), (0, 0), [])), (4, ((0, 0, 30, 1), (0, 0, 0), (0, 0), []))], [], []), 61, [(4, -2)]),
  (67, ([(0, ((2, 0, 0, 4), (0, 0, 0), (0, 0), [])), (1, ((2, 0, 0, 10), (0, 0, 0), (0, 0), [])), (2, ((0, 1, 1, 0), (0, 0, 0), (0, 0), [])), (3, ((0, 0, 1, 1), (0, 0, 0), (0, 0), [])), (4, ((0, 0, 30, 1), (0, 0, 0), (0, 0), []))], [], []), 0, [(4, 0)])]
def bl_X4_takeProduct_at_1 : List aB := [(0, vb_X4_takeProduct_0, some 10), (10, vb_X4_takeProduct_10, some 67), (67, vb_X4_takeProduct_67, none)]
def cz_X4_takeProduct_at_1 : List (Nat × aC) := [(3, cc_X4_takeThing_at_1), (22, cc_X10_next), (25, cc_X4_isProductSign), (32, cc_X10_next), (50, cc_X4_takeThing_at_1), (58, cc_X4_add)]
theorem ck_X4_takeProduct_at_1 : csOK cz_X4_takeProduct_at_1 := ⟨ct_X4_takeThing_at_1, ct_X10_next, ct_X4_isProductSign, ct_X10_next, ct_X4_takeThing_at_1, ct_X4_add, trivial⟩
theorem cv_X4_takeProduct_at_1 : blOK kd_X4_takeProduct bl_X4_takeProduct_at_1 := ⟨ve_X4_takeProduct_0, ve_X4_takeProduct_10, ve_X4_takeProduct_67, trivial⟩
theorem ch_X4_takeProduct_at_1 : amchk ta_X4_takeProduct_at_1 bl_X4_takeProduct_at_1 cz_X4_takeProduct_at_1 cc_X4_takeProduct_at_1 = true := by decide +kernel
theorem ct_X4_takeProduct_at_1 : CtOK cc_X4_takeProduct_at_1 := am_ok' (T := ta_X4_takeProduct_at_1) (B := bl_X4_takeProduct_at_1) (cs := cz_X4_takeProduct_at_1) vm_X4_takeProduct cv_X4_takeProduct_at_1 (by decide +kernel) ch_X4_takeProduct_at_1 ck_X4_takeProduct_at_1
def cc_X4_takeSum_at_1 : aC := (45, 28, [(2, 0, 0, 4), (2, 0, 0, 10), (0, 1, 1, 0)], some (0, 0, 1, 1), [], 0, [4, 10, 47, 3010, 4004, 4010], [], [], [])
def ta_X4_takeSum_at_1 : List aL := [(0, ([(0, ((2, 0, 0, 4), (0, 0, 0), (0, 0), [])), (1, ((2, 0, 0, 10), (0, 0, 0), (0, 0), [])), (2, ((0, 1, 1, 0), (0, 0, 0), (0, 0), []))], [], []), 63, [(4, 0)]),
  (10, ([(0, ((2, 0, 0, 4), (0, 0, 0), (0, 0), [])), (1, ((2, 0, 0, 10), (0, 0, 0), (0, 0), [])), (2, ((0, 1, 1, 0), (0, 0, 0), (0, 0), [])), (3, ((0, 0, 1, 1), (0, 0, 0), (0, 0), [])), (4, ((0, 0, 30, 1), (0, 0, 0), (0, 0), []))], [], []), 61, [(4, -2)]),
  (67, ([(0, ((2, 0, 0, 4), (0, 0, 0), (0, 0), [])), (1, ((2, 0, 0, 10), (0, 0, 0), (0, 0), [])), (2, ((0, 1, 1, 0), (0, 0, 0), (0, 0), [])), (3, ((0, 0, 1, 1), (0, 0, 0), (0, 0), [])), (4, ((0, 0, 30, 1), (0, 0, 0), (0, 0), []))], [], []), 0, [(4, 0)])]
def bl_X4_takeSum_at_1 : List aB := [(0, vb_X4_takeSum_0, some 10), (10, vb_X4_takeSum_10, some 67), (67, vb_X4_takeSum_67, none)]
def cz_X4_takeSum_at_1 : List (Nat × aC) := [(3, cc_X4_takeProduct_at_1), (22, cc_X10_next), (25, cc_X4_isSumSign), (32, cc_X10_next), (50, cc_X4_takeProduct_at_1), (58, cc_X4_add)]
theorem ck_X4_takeSum_at_1 : csOK cz_X4_takeSum_at_1 := ⟨ct_X4_takeProduct_at_1, ct_X10_next, ct_X4_isSumSign, ct_X10_next, ct_X4_takeProduct_at_1, ct_X4_add, trivial⟩
theorem cv_X4_takeSum_at_1 : blOK kd_X4_takeSum bl_X4_takeSum_at_1 := ⟨ve_X4_takeSum_0, ve_X4_takeSum_10, ve_X4_takeSum_67, trivial⟩
theorem ch_X4_takeSum_at_1 : amchk ta_X4_takeSum_at_1 bl_X4_takeSum_at_1 cz_X4_takeSum_at_1 cc_X4_takeSum_at_1 = true := by decide +kernel
theorem ct_X4_takeSum_at_1 : CtOK cc_X4_takeSum_at_1 := am_ok' (T := ta_X4_takeSum_at_1) (B := bl_X4_takeSum_at_1) (cs := cz_X4_takeSum_at_1) vm_X4_takeSum cv_X4_takeSum_at_1 (by decide +kernel) ch_X4_takeSum_at_1 ck_X4_takeSum_at_1
def cc_X4_takeFrom : aC := (44, 29, [(2, 0, 0, 4), (2, 0, 0, 10)], some (0, -2147483648, 2147483647, 1), [], 0, [4, 10, 47, 3004, 3010, 4004, 4010], [], [], [])
def ta_X4_takeFrom : List aL := [(0, ([(0, ((2, 0, 0, 4), (0, 0, 0), (0, 0), [])), (1, ((2, 0, 0, 10), (0, 0, 0), (0, 0), []))], [], []), 3, []),
  (23, ([(0, ((2, 0, 0, 4), (0, 0, 0), (0, 0), [])), (1, ((2, 0, 0, 10), (0, 0, 0), (0, 0), []))], [], [((2, 213, 1), 1, 600)]), 2, []),
  (34, ([(0, ((2, 0, 0, 4), (0, 0, 0), (0, 0), [])), (1, ((2, 0, 0, 10), (0, 0, 0), (0, 0), []))], [], []), 1, []),
  (56, ([(0, ((2, 0, 0, 4), (0, 0, 0), (0, 0), [])), (1, ((2, 0, 0, 10), (0, 0, 0), (0, 0), []))], [], [((2, 213, 1), 0, 600), ((2, 213, 2), 0, 600)]), 0, [])]
def bl_X4_takeFrom : List aB := [(0, vb_X4_takeFrom_0, some 23), (23, vb_X4_takeFrom_23, some 34), (34, vb_X4_takeFrom_34, some 56), (56, vb_X4_takeFrom_56, none)]
def cz_X4_takeFrom : List (Nat × aC) := [(11, cc_X10_rewind), (26, cc_X4_takeSum_at_1), (50, cc_X10_fail)]
theorem ck_X4_takeFrom : csOK cz_X4_takeFrom := ⟨ct_X10_rewind, ct_X4_takeSum_at_1, ct_X10_fail, trivial⟩
theorem cv_X4_takeFrom : blOK kd_X4_takeFrom bl_X4_takeFrom := ⟨ve_X4_takeFrom_0, ve_X4_takeFrom_23, ve_X4_takeFrom_34, ve_X4_takeFrom_56, trivial⟩
theorem ch_X4_takeFrom : amchk ta_X4_takeFrom bl_X4_takeFrom cz_X4_takeFrom cc_X4_takeFrom = true := by decide +kernel
theorem ct_X4_takeFrom : CtOK cc_X4_takeFrom := am_ok' (T := ta_X4_takeFrom) (B := bl_X4_takeFrom) (cs := cz_X4_takeFrom) vm_X4_takeFrom cv_X4_takeFrom (by decide +kernel) ch_X4_takeFrom ck_X4_takeFrom
