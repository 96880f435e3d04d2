/-! ===== contracts, levels [1] ===== -/
def cc_X0_begin : aC := (1, 1, [(2, 0, 0, 0), (1, 1, 0, 0), (0, -2147483648, 2147483647, 1), (0, -2147483648, 2147483647, 1)], none, [], 1, [1000, 2000, 3000, 4000, 5000, 6000], [], [], [])
def ta_X0_begin : List aL := [(0, ([(0, ((2, 0, 0, 0), (0, 0, 0), (0, 0), [])), (1, ((1, 1, 0, 0), (0, 0, 0), (0, 0), [])), (3, ((0, -2147483648, 2147483647, 1), (0, 0, 0), (0, 0), [])), (4, ((0, -2147483648, 2147483647, 1), (0, 0, 0), (0, 0), []))], [], []), 0, [])]
def bl_X0_begin : List aB := [(0, vb_X0_begin_0, none)]
def cz_X0_begin : List (Nat × aC) := []
theorem ck_X0_begin : csOK cz_X0_begin := trivial
theorem cv_X0_begin : blOK kd_X0_begin bl_X0_begin := ⟨ve_X0_begin_0, trivial⟩
theorem ch_X0_begin : amchk ta_X0_begin bl_X0_begin cz_X0_begin cc_X0_begin = true := by decide +kernel
theorem ct_X0_begin : CtOK cc_X0_begin := am_ok' (T := ta_X0_begin) (B := bl_X0_begin) (cs := cz_X0_begin) vm_X0_begin cv_X0_begin (by decide +kernel) ch_X0_begin ck_X0_begin
def cc_X0_dueBales : aC := (3, 1, [(2, 0, 0, 0)], some (0, 0, 2147483647, 1), [], 0, [], [], [], [])
def ta_X0_dueBales : List aL := [(0, ([(0, ((2, 0, 0, 0), (0, 0, 0), (0, 0), []))], [], []), 22, [(2, 0)]),
  (33, ([(0, ((2, 0, 0, 0), (0, 0, 0), (0, 0), [])), (1, ((0, -2147483648, 2147483647, 1), (0, 0, 0), (0, 0), [])), (2, ((0, 0, 5, 1), (0, 0, 0), (0, 0), []))], [], []), 19, [(2, -3)]),
  (39, ([(0, ((2, 0, 0, 0), (0, 0, 0), (0, 0), [])), (1, ((0, -2147483648, 2147483647, 1), (0, 0, 0), (0, 0), [])), (2, ((0, 0, 6, 1), (0, 0, 0), (0, 0), []))], [], []), 0, [(2, 0)]),
  (7, ([(0, ((2, 0, 0, 0), (0, 0, 0), (0, 0), [])), (1, ((0, -2147483648, 2147483647, 1), (0, 0, 0), (0, 0), [])), (2, ((0, 0, 6, 1), (0, 0, 0), (0, 0), []))], [], []), 20, [(2, -3)])]
def bl_X0_dueBales : List aB := [(0, vb_X0_dueBales_0, some 7), (7, vb_X0_dueBales_7, some 33), (33, vb_X0_dueBales_33, some 39), (39, vb_X0_dueBales_39, none)]
def cz_X0_dueBales : List (Nat × aC) := []
theorem ck_X0_dueBales : csOK cz_X0_dueBales := trivial
theorem cv_X0_dueBales : blOK kd_X0_dueBales bl_X0_dueBales := ⟨ve_X0_dueBales_0, ve_X0_dueBales_7, ve_X0_dueBales_33, ve_X0_dueBales_39, trivial⟩
theorem ch_X0_dueBales : amchk ta_X0_dueBales bl_X0_dueBales cz_X0_dueBales cc_X0_dueBales = true := by decide +kernel
theorem ct_X0_dueBales : CtOK cc_X0_dueBales := am_ok' (T := ta_X0_dueBales) (B := bl_X0_dueBales) (cs := cz_X0_dueBales) vm_X0_dueBales cv_X0_dueBales (by decide +kernel) ch_X0_dueBales ck_X0_dueBales
def cc_X0_worthOf : aC := (4, 1, [(2, 0, 0, 0), (0, -2147483648, 2147483647, 1), (0, -2147483648, 2147483647, 1)], some (0, -2147483648, 2147483647, 1), [], 0, [], [], [], [])
def ta_X0_worthOf : List aL := [(0, ([(0, ((2, 0, 0, 0), (0, 0, 0), (0, 0), [])), (1, ((0, -2147483648, 2147483647, 1), (0, 0, 0), (0, 0), [])), (2, ((0, -2147483648, 2147483647, 1), (0, 0, 0), (0, 0), []))], [], []), 36, [(4, 0)]),
  (52, ([(0, ((2, 0, 0, 0), (0, 0, 0), (0, 0), [])), (1, ((0, -2147483648, 2147483647, 1), (0, 0, 0), (0, 0), [])), (2, ((0, -2147483648, 2147483647, 1), (0, 0, 0), (0, 0), [])), (3, ((0, -2147483648, 2147483647, 1), (0, 0, 0), (0, 0), [])), (4, ((0, 0, 5, 1), (0, 0, 0), (0, 0), [])), (5, ((0, -2147483648, 2147483647, 1), (0, 0, 0), (0, 0), []))], [], []), 33, [(4, -5)]),
  (7, ([(0, ((2, 0, 0, 0), (0, 0, 0), (0, 0), [])), (1, ((0, -2147483648, 2147483647, 1), (0, 0, 0), (0, 0), [])), (2, ((0, -2147483648, 2147483647, 1), (0, 0, 0), (0, 0), [])), (3, ((0, -2147483648, 2147483647, 1), (0, 0, 0), (0, 0), [])), (4, ((0, 0, 6, 1), (0, 0, 0), (0, 0), []))], [], []), 34, [(4, -5)]),
  (73, ([(0, ((2, 0, 0, 0), (0, 0, 0), (0, 0), [])), (1, ((0, -2147483648, 2147483647, 1), (0, 0, 0), (0, 0), [])), (2, ((0, -2147483648, 2147483647, 1), (0, 0, 0), (0, 0), [])), (3, ((0, -2147483648, 2147483647, 1), (0, 0, 0), (0, 0), [])), (4, ((0, 0, 5, 1), (0, 0, 0), (0, 0), [])), (5, ((0, -2147483648, 2147483647, 1), (0, 0, 0), (0, 0), []))], [], []), 32, [(4, -5)]),
  (87, ([(0, ((2, 0, 0, 0), (0, 0, 0), (0, 0), [])), (1, ((0, -2147483648, 2147483647, 1), (0, 0, 0), (0, 0), [])), (2, ((0, -2147483648, 2147483647, 1), (0, 0, 0), (0, 0), [])), (3, ((0, -2147483648, 2147483647, 1), (0, 0, 0), (0, 0), [])), (4, ((0, 0, 5, 1), (0, 0, 0), (0, 0), [])), (5, ((0, -2147483648, 2147483647, 1), (0, 0, 0), (0, 0), []))], [], []), 31, [(4, -5)]),
  (99, ([(0, ((2, 0, 0, 0), (0, 0, 0), (0, 0), [])), (1, ((0, -2147483648, 2147483647, 1), (0, 0, 0), (0, 0), [])), (2, ((0, -2147483648, 2147483647, 1), (0, 0, 0), (0, 0), [])), (3, ((0, -2147483648, 2147483647, 1), (0, 0, 0), (0, 0), [])), (4, ((0, 0, 6, 1), (0, 0, 0), (0, 0), []))], [], []), 0, [(4, 0)])]
def bl_X0_worthOf : List aB := [(0, vb_X0_worthOf_0, some 7), (7, vb_X0_worthOf_7, some 52), (52, vb_X0_worthOf_52, some 73), (73, vb_X0_worthOf_73, some 87), (87, vb_X0_worthOf_87, some 99), (99, vb_X0_worthOf_99, none)]
def cz_X0_worthOf : List (Nat × aC) := []
theorem ck_X0_worthOf : csOK cz_X0_worthOf := trivial
theorem cv_X0_worthOf : blOK kd_X0_worthOf bl_X0_worthOf := ⟨ve_X0_worthOf_0, ve_X0_worthOf_7, ve_X0_worthOf_52, ve_X0_worthOf_73, ve_X0_worthOf_87, ve_X0_worthOf_99, trivial⟩
theorem ch_X0_worthOf : amchk ta_X0_worthOf bl_X0_worthOf cz_X0_worthOf cc_X0_worthOf = true := by decide +kernel
theorem ct_X0_worthOf : CtOK cc_X0_worthOf := am_ok' (T := ta_X0_worthOf) (B := bl_X0_worthOf) (cs := cz_X0_worthOf) vm_X0_worthOf cv_X0_worthOf (by decide +kernel) ch_X0_worthOf ck_X0_worthOf
def cc_X1_isTold : aC := (8, 1, [(2, 0, 0, 1), (1, 1, 0, 0)], some (0, 0, 1, 1), [], 0, [], [], [], [])
def ta_X1_isTold : List aL := [(0, ([(0, ((2, 0, 0, 1), (0, 0, 0), (0, 0), [])), (1, ((1, 1, 0, 0), (0, 0, 0), (0, 0), []))], [], []), 40, [(3, 0)]),
  (2, ([(0, ((2, 0, 0, 1), (0, 0, 0), (0, 0), [])), (1, ((1, 1, 0, 0), (0, 0, 0), (0, 0), [])), (3, ((0, 0, 12, 1), (0, 0, 0), (0, 0), []))], [], []), 38, [(3, -3)]),
  (26, ([(0, ((2, 0, 0, 1), (0, 0, 0), (0, 0), [])), (1, ((1, 1, 0, 0), (0, 0, 0), (0, 0), [])), (3, ((0, 0, 11, 1), (0, 0, 0), (0, 0), []))], [], [((2, 1, 2), 1, 12)]), 37, [(3, -3)]),
  (32, ([(0, ((2, 0, 0, 1), (0, 0, 0), (0, 0), [])), (1, ((1, 1, 0, 0), (0, 0, 0), (0, 0), [])), (3, ((0, 0, 12, 1), (0, 0, 0), (0, 0), []))], [], [((2, 1, 2), 0, 12)]), 0, [(3, 0)])]
def bl_X1_isTold : List aB := [(0, vb_X1_isTold_0, some 2), (2, vb_X1_isTold_2, some 26), (26, vb_X1_isTold_26, some 32), (32, vb_X1_isTold_32, none)]
def cz_X1_isTold : List (Nat × aC) := []
theorem ck_X1_isTold : csOK cz_X1_isTold := trivial
theorem cv_X1_isTold : blOK kd_X1_isTold bl_X1_isTold := ⟨ve_X1_isTold_0, ve_X1_isTold_2, ve_X1_isTold_26, ve_X1_isTold_32, trivial⟩
theorem ch_X1_isTold : amchk ta_X1_isTold bl_X1_isTold cz_X1_isTold cc_X1_isTold = true := by decide +kernel
theorem ct_X1_isTold : CtOK cc_X1_isTold := am_ok' (T := ta_X1_isTold) (B := bl_X1_isTold) (cs := cz_X1_isTold) vm_X1_isTold cv_X1_isTold (by decide +kernel) ch_X1_isTold ck_X1_isTold
def cc_X1_keepMeasured : aC := (12, 1, [(2, 0, 0, 1), (0, 0, 12, 1)], none, [], 0, [5005], [], [], [])
def ta_X1_keepMeasured : List aL := [(0, ([(0, ((2, 0, 0, 1), (0, 0, 0), (0, 0), [])), (1, ((0, 0, 12, 1), (0, 0, 0), (0, 0), []))], [], []), 123, [(2, 0)]),
  (2, ([(0, ((2, 0, 0, 1), (0, 0, 0), (0, 0), [])), (1, ((0, 0, 12, 1), (0, 0, 0), (0, 0), [])), (2, ((0, 0, 60, 1), (0, 0, 0), (0, 0), []))], [], []), 121, [(2, -2)]),
  (38, ([(0, ((2, 0, 0, 1), (0, 0, 0), (0, 0), [])), (1, ((0, 0, 12, 1), (0, 0, 0), (0, 0), [])), (2, ((0, 0, 60, 1), (0, 0, 0), (0, 0), []))], [], [((2, 1, 4), 0, 60)]), 0, [(2, 0)])]
def bl_X1_keepMeasured : List aB := [(0, vb_X1_keepMeasured_0, some 2), (2, vb_X1_keepMeasured_2, some 38), (38, vb_X1_keepMeasured_38, none)]
def cz_X1_keepMeasured : List (Nat × aC) := []
theorem ck_X1_keepMeasured : csOK cz_X1_keepMeasured := trivial
theorem cv_X1_keepMeasured : blOK kd_X1_keepMeasured bl_X1_keepMeasured := ⟨ve_X1_keepMeasured_0, ve_X1_keepMeasured_2, ve_X1_keepMeasured_38, trivial⟩
theorem ch_X1_keepMeasured : amchk ta_X1_keepMeasured bl_X1_keepMeasured cz_X1_keepMeasured cc_X1_keepMeasured = true := by decide +kernel
theorem ct_X1_keepMeasured : CtOK cc_X1_keepMeasured := am_ok' (T := ta_X1_keepMeasured) (B := bl_X1_keepMeasured) (cs := cz_X1_keepMeasured) vm_X1_keepMeasured cv_X1_keepMeasured (by decide +kernel) ch_X1_keepMeasured ck_X1_keepMeasured
def cc_X1_takeOut : aC := (13, 1, [(2, 0, 0, 1), (0, 0, 59, 1), (2, 0, 0, 5)], some (2, 0, 0, 5), [], 0, [37, 5001], [((2, 1, 4), 1, 60)], [], [])
def ta_X1_takeOut : List aL := [(0, ([(0, ((2, 0, 0, 1), (0, 0, 0), (0, 0), [])), (1, ((0, 0, 59, 1), (0, 0, 0), (0, 0), [])), (2, ((2, 0, 0, 5), (0, 0, 0), (0, 0), []))], [], [((2, 1, 4), 1, 60)]), 121, [(4, 0)]),
  (20, ([(0, ((2, 0, 0, 1), (0, 0, 0), (0, 0), [])), (1, ((0, 0, 59, 1), (0, 0, 0), (0, 0), [])), (2, ((2, 0, 0, 5), (0, 0, 0), (0, 0), [])), (3, ((2, 0, 0, 5), (0, 0, 0), (0, 0), [])), (4, ((0, 0, 59, 1), (0, 0, 0), (0, 0), []))], [], [((2, 1, 4), 0, 59)]), 119, [(4, -2)]),
  (51, ([(0, ((2, 0, 0, 1), (0, 0, 0), (0, 0), [])), (1, ((0, 0, 59, 1), (0, 0, 0), (0, 0), [])), (2, ((2, 0, 0, 5), (0, 0, 0), (0, 0), [])), (3, ((2, 0, 0, 5), (0, 0, 0), (0, 0), [])), (4, ((0, 0, 59, 1), (0, 0, 0), (0, 0), []))], [], [((2, 1, 4), 0, 59)]), 0, [(4, 0)])]
def bl_X1_takeOut : List aB := [(0, vb_X1_takeOut_0, some 20), (20, vb_X1_takeOut_20, some 51), (51, vb_X1_takeOut_51, none)]
def cz_X1_takeOut : List (Nat × aC) := []
theorem ck_X1_takeOut : csOK cz_X1_takeOut := trivial
theorem cv_X1_takeOut : blOK kd_X1_takeOut bl_X1_takeOut := ⟨ve_X1_takeOut_0, ve_X1_takeOut_20, ve_X1_takeOut_51, trivial⟩
theorem ch_X1_takeOut : amchk ta_X1_takeOut bl_X1_takeOut cz_X1_takeOut cc_X1_takeOut = true := by decide +kernel
theorem ct_X1_takeOut : CtOK cc_X1_takeOut := am_ok' (T := ta_X1_takeOut) (B := bl_X1_takeOut) (cs := cz_X1_takeOut) vm_X1_takeOut cv_X1_takeOut (by decide +kernel) ch_X1_takeOut ck_X1_takeOut
def cc_X1_putBack : aC := (14, 1, [(2, 0, 0, 1), (0, 0, 59, 1), (2, 0, 0, 5)], some (2, 0, 0, 5), [], 0, [37, 5001], [], [], [])
def ta_X1_putBack : List aL := [(0, ([(0, ((2, 0, 0, 1), (0, 0, 0), (0, 0), [])), (1, ((0, 0, 59, 1), (0, 0, 0), (0, 0), [])), (2, ((2, 0, 0, 5), (0, 0, 0), (0, 0), []))], [], []), 122, [(4, 0)]),
  (11, ([(0, ((2, 0, 0, 1), (0, 0, 0), (0, 0), [])), (1, ((0, 0, 59, 1), (0, 0, 0), (0, 0), [])), (2, ((2, 0, 0, 5), (0, 0, 0), (0, 0), []))], [], [((2, 1, 4), 0, 59)]), 121, [(4, 0)]),
  (27, ([(0, ((2, 0, 0, 1), (0, 0, 0), (0, 0), [])), (1, ((0, 0, 59, 1), (0, 0, 0), (0, 0), [])), (2, ((2, 0, 0, 5), (0, 0, 0), (0, 0), [])), (3, ((2, 0, 0, 5), (0, 0, 0), (0, 0), [])), (4, ((0, 0, 59, 1), (0, 0, 0), (0, 0), []))], [], [((2, 1, 4), 0, 59)]), 1, [(4, 2)]),
  (55, ([(0, ((2, 0, 0, 1), (0, 0, 0), (0, 0), [])), (1, ((0, 0, 59, 1), (0, 0, 0), (0, 0), [])), (2, ((2, 0, 0, 5), (0, 0, 0), (0, 0), [])), (3, ((2, 0, 0, 5), (0, 0, 0), (0, 0), [])), (4, ((0, 0, 59, 1), (0, 0, 0), (0, 0), []))], [], [((2, 1, 4), 0, 59)]), 0, [(4, 0)])]
def bl_X1_putBack : List aB := [(0, vb_X1_putBack_0, some 11), (11, vb_X1_putBack_11, some 27), (27, vb_X1_putBack_27, some 55), (55, vb_X1_putBack_55, none)]
def cz_X1_putBack : List (Nat × aC) := []
theorem ck_X1_putBack : csOK cz_X1_putBack := trivial
theorem cv_X1_putBack : blOK kd_X1_putBack bl_X1_putBack := ⟨ve_X1_putBack_0, ve_X1_putBack_11, ve_X1_putBack_27, ve_X1_putBack_55, trivial⟩
theorem ch_X1_putBack : amchk ta_X1_putBack bl_X1_putBack cz_X1_putBack cc_X1_putBack = true := by decide +kernel
theorem ct_X1_putBack : CtOK cc_X1_putBack := am_ok' (T := ta_X1_putBack) (B := bl_X1_putBack) (cs := cz_X1_putBack) vm_X1_putBack cv_X1_putBack (by decide +kernel) ch_X1_putBack ck_X1_putBack
def cc_X1_readBy_at_1_38 : aC := (16, 1, [(2, 0, 0, 1), (2, 0, 0, 38), (0, -2147483648, 2147483647, 1)], some (0, -3, 11, 1), [], 0, [], [], [], [])
def ta_X1_readBy_at_1_38 : List aL := [(0, ([(0, ((2, 0, 0, 1), (0, 0, 0), (0, 0), [])), (1, ((2, 0, 0, 38), (0, 0, 0), (0, 0), [])), (2, ((0, -2147483648, 2147483647, 1), (0, 0, 0), (0, 0), []))], [], []), 53, [(5, 0)]),
  (11, ([(0, ((2, 0, 0, 1), (0, 0, 0), (0, 0), [])), (1, ((2, 0, 0, 38), (0, 0, 0), (0, 0), [])), (2, ((0, -2147483648, 2147483647, 1), (0, 0, 0), (0, 0), [])), (3, ((0, -3, 11, 1), (0, 0, 0), (0, 0), [])), (4, ((0, -2147483648, 2147483647, 1), (0, 0, 0), (0, 0), [])), (5, ((0, 0, 12, 1), (0, 0, 0), (0, 0), []))], [], []), 51, [(5, -4)]),
  (41, ([(0, ((2, 0, 0, 1), (0, 0, 0), (0, 0), [])), (1, ((2, 0, 0, 38), (0, 0, 0), (0, 0), [])), (2, ((0, -2147483648, 2147483647, 1), (0, 0, 0), (0, 0), [])), (3, ((0, -3, 11, 1), (0, 0, 0), (0, 0), [])), (4, ((0, -2147483648, 2147483647, 1), (0, 0, 0), (0, 0), [])), (5, ((0, 0, 11, 1), (0, 0, 0), (0, 0), []))], [], [((2, 1, 2), 1, 12)]), 50, [(5, -4)]),
  (59, ([(0, ((2, 0, 0, 1), (0, 0, 0), (0, 0), [])), (1, ((2, 0, 0, 38), (0, 0, 0), (0, 0), [])), (2, ((0, -2147483648, 2147483647, 1), (0, 0, 0), (0, 0), [])), (3, ((0, -3, 11, 1), (0, 0, 0), (0, 0), [])), (4, ((0, -2147483648, 2147483647, 1), (0, 0, 0), (0, 0), [])), (5, ((0, 0, 11, 1), (0, 0, 0), (0, 0), []))], [], [((2, 1, 2), 1, 12)]), 49, [(5, -4)]),
  (65, ([(0, ((2, 0, 0, 1), (0, 0, 0), (0, 0), [])), (1, ((2, 0, 0, 38), (0, 0, 0), (0, 0), [])), (2, ((0, -2147483648, 2147483647, 1), (0, 0, 0), (0, 0), [])), (3, ((0, -3, 11, 1), (0, 0, 0), (0, 0), [])), (4, ((0, -2147483648, 2147483647, 1), (0, 0, 0), (0, 0), [])), (5, ((0, 0, 12, 1), (0, 0, 0), (0, 0), []))], [], [((2, 1, 2), 0, 12)]), 0, [(5, 0)])]
def bl_X1_readBy_at_1_38 : List aB := [(0, vb_X1_readBy_0, some 11), (11, vb_X1_readBy_11, some 41), (41, vb_X1_readBy_41, some 59), (59, vb_X1_readBy_59, some 65), (65, vb_X1_readBy_65, none)]
def cz_X1_readBy_at_1_38 : List (Nat × aC) := []
theorem ck_X1_readBy_at_1_38 : csOK cz_X1_readBy_at_1_38 := trivial
theorem cv_X1_readBy_at_1_38 : blOK kd_X1_readBy bl_X1_readBy_at_1_38 := ⟨ve_X1_readBy_0, ve_X1_readBy_11, ve_X1_readBy_41, ve_X1_readBy_59, ve_X1_readBy_65, trivial⟩
theorem ch_X1_readBy_at_1_38 : amchk ta_X1_readBy_at_1_38 bl_X1_readBy_at_1_38 cz_X1_readBy_at_1_38 cc_X1_readBy_at_1_38 = true := by decide +kernel
theorem ct_X1_readBy_at_1_38 : CtOK cc_X1_readBy_at_1_38 := am_ok' (T := ta_X1_readBy_at_1_38) (B := bl_X1_readBy_at_1_38) (cs := cz_X1_readBy_at_1_38) vm_X1_readBy cv_X1_readBy_at_1_38 (by decide +kernel) ch_X1_readBy_at_1_38 ck_X1_readBy_at_1_38
def cc_X1_readBy_at_1_51 : aC := (16, 1, [(2, 0, 0, 1), (2, 0, 0, 51), (0, -2147483648, 2147483647, 1)], some (0, -3, 11, 1), [], 0, [], [], [], [])
def ta_X1_readBy_at_1_51 : List aL := [(0, ([(0, ((2, 0, 0, 1), (0, 0, 0), (0, 0), [])), (1, ((2, 0, 0, 51), (0, 0, 0), (0, 0), [])), (2, ((0, -2147483648, 2147483647, 1), (0, 0, 0), (0, 0), []))], [], []), 53, [(5, 0)]),
  (11, ([(0, ((2, 0, 0, 1), (0, 0, 0), (0, 0), [])), (1, ((2, 0, 0, 51), (0, 0, 0), (0, 0), [])), (2, ((0, -2147483648, 2147483647, 1), (0, 0, 0), (0, 0), [])), (3, ((0, -3, 11, 1), (0, 0, 0), (0, 0), [])), (4, ((0, -2147483648, 2147483647, 1), (0, 0, 0), (0, 0), [])), (5, ((0, 0, 12, 1), (0, 0, 0), (0, 0), []))], [], []), 51, [(5, -4)]),
  (41, ([(0, ((2, 0, 0, 1), (0, 0, 0), (0, 0), [])), (1, ((2, 0, 0, 51), (0, 0, 0), (0, 0), [])), (2, ((0, -2147483648, 2147483647, 1), (0, 0, 0), (0, 0), [])), (3, ((0, -3, 11, 1), (0, 0, 0), (0, 0), [])), (4, ((0, -2147483648, 2147483647, 1), (0, 0, 0), (0, 0), [])), (5, ((0, 0, 11, 1), (0, 0, 0), (0, 0), []))], [], [((2, 1, 2), 1, 12)]), 50, [(5, -4)]),
  (59, ([(0, ((2, 0, 0, 1), (0, 0, 0), (0, 0), [])), (1, ((2, 0, 0, 51), (0, 0, 0), (0, 0), [])), (2, ((0, -2147483648, 2147483647, 1), (0, 0, 0), (0, 0), [])), (3, ((0, -3, 11, 1), (0, 0, 0), (0, 0), [])), (4, ((0, -2147483648, 2147483647, 1), (0, 0, 0), (0, 0), [])), (5, ((0, 0, 11, 1), (0, 0, 0), (0, 0), []))], [], [((2, 1, 2), 1, 12)]), 49, [(5, -4)]),
  (65, ([(0, ((2, 0, 0, 1), (0, 0, 0), (0, 0), [])), (1, ((2, 0, 0, 51), (0, 0, 0), (0, 0), [])), (2, ((0, -2147483648, 2147483647, 1), (0, 0, 0), (0, 0), [])), (3, ((0, -3, 11, 1), (0, 0, 0), (0, 0), [])), (4, ((0, -2147483648, 2147483647, 1), (0, 0, 0), (0, 0), [])), (5, ((0, 0, 12, 1), (0, 0, 0), (0, 0), []))], [], [((2, 1, 2), 0, 12)]), 0, [(5, 0)])]
def bl_X1_readBy_at_1_51 : List aB := [(0, vb_X1_readBy_0, some 11), (11, vb_X1_readBy_11, some 41), (41, vb_X1_readBy_41, some 59), (59, vb_X1_readBy_59, some 65), (65, vb_X1_readBy_65, none)]
def cz_X1_readBy_at_1_51 : List (Nat × aC) := []
theorem ck_X1_readBy_at_1_51 : csOK cz_X1_readBy_at_1_51 := trivial
theorem cv_X1_readBy_at_1_51 : blOK kd_X1_readBy bl_X1_readBy_at_1_51 := ⟨ve_X1_readBy_0, ve_X1_readBy_11, ve_X1_readBy_41, ve_X1_readBy_59, ve_X1_readBy_65, trivial⟩
theorem ch_X1_readBy_at_1_51 : amchk ta_X1_readBy_at_1_51 bl_X1_readBy_at_1_51 cz_X1_readBy_at_1_51 cc_X1_readBy_at_1_51 = true := by decide +kernel
theorem ct_X1_readBy_at_1_51 : CtOK cc_X1_readBy_at_1_51 := am_ok' (T := ta_X1_readBy_at_1_51) (B := bl_X1_readBy_at_1_51) (cs := cz_X1_readBy_at_1_51) vm_X1_readBy cv_X1_readBy_at_1_51 (by decide +kernel) ch_X1_readBy_at_1_51 ck_X1_readBy_at_1_51
def cc_X1_firstSeen : aC := (24, 1, [(2, 0, 0, 1), (0, 0, 59, 1), (0, 0, 4, 1)], some (0, 0, 1, 1), [], 0, [], [], [], [])
def ta_X1_firstSeen : List aL := [(0, ([(0, ((2, 0, 0, 1), (0, 0, 0), (0, 0), [])), (1, ((0, 0, 59, 1), (0, 0, 0), (0, 0), [])), (2, ((0, 0, 4, 1), (0, 0, 0), (0, 0), []))], [], []), 184, [(3, 0)]),
  (2, ([(0, ((2, 0, 0, 1), (0, 0, 0), (0, 0), [])), (1, ((0, 0, 59, 1), (0, 0, 0), (0, 0), [])), (2, ((0, 0, 4, 1), (0, 0, 0), (0, 0), [])), (3, ((0, 0, 60, 1), (0, 0, 0), (0, 0), []))], [], []), 182, [(3, -3)]),
  (44, ([(0, ((2, 0, 0, 1), (0, 0, 0), (0, 0), [])), (1, ((0, 1, 59, 1), (0, 0, 0), (0, 0), [])), (2, ((0, 0, 4, 1), (0, 0, 0), (0, 0), [])), (3, ((0, 0, 59, 1), (0, 0, 0), (0, 0), []))], [], []), 181, [(3, -3)]),
  (50, ([(0, ((2, 0, 0, 1), (0, 0, 0), (0, 0), [])), (1, ((0, 0, 59, 1), (0, 0, 0), (0, 0), [])), (2, ((0, 0, 4, 1), (0, 0, 0), (0, 0), [])), (3, ((0, 0, 60, 1), (0, 0, 0), (0, 0), []))], [], []), 0, [(3, 0)])]
def bl_X1_firstSeen : List aB := [(0, vb_X1_firstSeen_0, some 2), (2, vb_X1_firstSeen_2, some 44), (44, vb_X1_firstSeen_44, some 50), (50, vb_X1_firstSeen_50, none)]
def cz_X1_firstSeen : List (Nat × aC) := []
theorem ck_X1_firstSeen : csOK cz_X1_firstSeen := trivial
theorem cv_X1_firstSeen : blOK kd_X1_firstSeen bl_X1_firstSeen := ⟨ve_X1_firstSeen_0, ve_X1_firstSeen_2, ve_X1_firstSeen_44, ve_X1_firstSeen_50, trivial⟩
theorem ch_X1_firstSeen : amchk ta_X1_firstSeen bl_X1_firstSeen cz_X1_firstSeen cc_X1_firstSeen = true := by decide +kernel
theorem ct_X1_firstSeen : CtOK cc_X1_firstSeen := am_ok' (T := ta_X1_firstSeen) (B := bl_X1_firstSeen) (cs := cz_X1_firstSeen) vm_X1_firstSeen cv_X1_firstSeen (by decide +kernel) ch_X1_firstSeen ck_X1_firstSeen
def cc_X1_isIn : aC := (26, 1, [(2, 0, 0, 1), (0, 0, 59, 1), (0, 0, 4, 1), (0, -2147483648, 2147483647, 1)], some (0, 0, 1, 1), [], 0, [], [], [], [])
def ta_X1_isIn : List aL := [(0, ([(0, ((2, 0, 0, 1), (0, 0, 0), (0, 0), [])), (1, ((0, 0, 59, 1), (0, 0, 0), (0, 0), [])), (2, ((0, 0, 4, 1), (0, 0, 0), (0, 0), [])), (3, ((0, -2147483648, 2147483647, 1), (0, 0, 0), (0, 0), []))], [], []), 2, []),
  (30, ([(0, ((2, 0, 0, 1), (0, 0, 0), (0, 0), [])), (1, ((0, 0, 59, 1), (0, 0, 0), (0, 0), [])), (2, ((0, 0, 4, 1), (0, 0, 0), (0, 0), [])), (3, ((0, -2147483648, 2147483647, 1), (0, 0, 0), (0, 0), []))], [], []), 1, []),
  (31, ([(0, ((2, 0, 0, 1), (0, 0, 0), (0, 0), [])), (1, ((0, 0, 59, 1), (0, 0, 0), (0, 0), [])), (2, ((0, 0, 4, 1), (0, 0, 0), (0, 0), [])), (3, ((0, -2147483648, 2147483647, 1), (0, 0, 0), (0, 0), []))], [((0, 0, 1, 1), (0, 0, 0), (0, 0), [])], []), 0, [])]
def bl_X1_isIn : List aB := [(0, vb_X1_isIn_0, some 30), (30, vb_X1_isIn_30, some 31), (31, vb_X1_isIn_31, none)]
def cz_X1_isIn : List (Nat × aC) := []
theorem ck_X1_isIn : csOK cz_X1_isIn := trivial
theorem cv_X1_isIn : blOK kd_X1_isIn bl_X1_isIn := ⟨ve_X1_isIn_0, ve_X1_isIn_30, ve_X1_isIn_31, trivial⟩
theorem ch_X1_isIn : amchk ta_X1_isIn bl_X1_isIn cz_X1_isIn cc_X1_isIn = true := by decide +kernel
theorem ct_X1_isIn : CtOK cc_X1_isIn := am_ok' (T := ta_X1_isIn) (B := bl_X1_isIn) (cs := cz_X1_isIn) vm_X1_isIn cv_X1_isIn (by decide +kernel) ch_X1_isIn ck_X1_isIn
def cc_X1_leavingOut : aC := (28, 1, [(2, 0, 0, 5)], some (0, -2147483648, 2147483647, 1), [], 0, [], [], [], [])
def ta_X1_leavingOut : List aL := [(0, ([(0, ((2, 0, 0, 5), (0, 0, 0), (0, 0), []))], [], []), 0, [])]
def bl_X1_leavingOut : List aB := [(0, vb_X1_leavingOut_0, none)]
def cz_X1_leavingOut : List (Nat × aC) := []
theorem ck_X1_leavingOut : csOK cz_X1_leavingOut := trivial
theorem cv_X1_leavingOut : blOK kd_X1_leavingOut bl_X1_leavingOut := ⟨ve_X1_leavingOut_0, trivial⟩
theorem ch_X1_leavingOut : amchk ta_X1_leavingOut bl_X1_leavingOut cz_X1_leavingOut cc_X1_leavingOut = true := by decide +kernel
theorem ct_X1_leavingOut : CtOK cc_X1_leavingOut := am_ok' (T := ta_X1_leavingOut) (B := bl_X1_leavingOut) (cs := cz_X1_leavingOut) vm_X1_leavingOut cv_X1_leavingOut (by decide +kernel) ch_X1_leavingOut ck_X1_leavingOut
def cc_X3_begin : aC := (35, 1, [(2, 0, 0, 3)], none, [], 0, [66, 67, 69, 10003, 11003], [], [], [])
def ta_X3_begin : List aL := [(0, ([(0, ((2, 0, 0, 3), (0, 0, 0), (0, 0), []))], [], []), 2145, [(1, 0), (2, 0)]),
  (12, ([(0, ((2, 0, 0, 3), (0, 0, 0), (0, 0), [])), (1, ((0, 0, 12, 1), (0, 0, 0), (0, 0), []))], [], [((2, 372, 10), 0, 0), ((2, 372, 9), 0, 0)]), 2143, [(1, -2), (2, 0)]),
  (39, ([(0, ((2, 0, 0, 3), (0, 0, 0), (0, 0), [])), (1, ((0, 12, 12, 1), (0, 0, 0), (0, 0), []))], [], [((2, 372, 10), 0, 0), ((2, 372, 9), 0, 0)]), 2118, [(1, 0), (2, 0)]),
  (41, ([(0, ((2, 0, 0, 3), (0, 0, 0), (0, 0), [])), (1, ((0, 0, 72, 1), (0, 0, 0), (0, 0), []))], [], [((2, 372, 10), 0, 0), ((2, 372, 9), 0, 0)]), 2116, [(1, -29), (2, 0)]),
  (69, ([(0, ((2, 0, 0, 3), (0, 0, 0), (0, 0), [])), (1, ((0, 0, 71, 1), (0, 0, 0), (0, 0), [])), (2, ((0, 0, 12, 1), (0, 0, 0), (0, 0), []))], [], [((2, 221, 6), 1, 72), ((2, 372, 10), 0, 0), ((2, 372, 9), 0, 0)]), 2114, [(1, -29), (2, -2)]),
  (90, ([(0, ((2, 0, 0, 3), (0, 0, 0), (0, 0), [])), (1, ((0, 0, 71, 1), (0, 0, 0), (0, 0), [])), (2, ((0, 12, 12, 1), (0, 0, 0), (0, 0), []))], [], [((2, 221, 6), 1, 72), ((2, 372, 10), 0, 0), ((2, 372, 9), 0, 0)]), 2089, [(1, -29), (2, 0)]),
  (96, ([(0, ((2, 0, 0, 3), (0, 0, 0), (0, 0), [])), (1, ((0, 0, 72, 1), (0, 0, 0), (0, 0), []))], [], [((2, 221, 6), 0, 72), ((2, 372, 10), 0, 0), ((2, 372, 9), 0, 0)]), 0, [(1, 0), (2, 0)])]
def bl_X3_begin : List aB := [(0, vb_X3_begin_0, some 12), (12, vb_X3_begin_12, some 39), (39, vb_X3_begin_39, some 41), (41, vb_X3_begin_41, some 69), (69, vb_X3_begin_69, some 90), (90, vb_X3_begin_90, some 96), (96, vb_X3_begin_96, none)]
def cz_X3_begin : List (Nat × aC) := []
theorem ck_X3_begin : csOK cz_X3_begin := trivial
theorem cv_X3_begin : blOK kd_X3_begin bl_X3_begin := ⟨ve_X3_begin_0, ve_X3_begin_12, ve_X3_begin_39, ve_X3_begin_41, ve_X3_begin_69, ve_X3_begin_90, ve_X3_begin_96, trivial⟩
theorem ch_X3_begin : amchk ta_X3_begin bl_X3_begin cz_X3_begin cc_X3_begin = true := by decide +kernel
theorem ct_X3_begin : CtOK cc_X3_begin := am_ok' (T := ta_X3_begin) (B := bl_X3_begin) (cs := cz_X3_begin) vm_X3_begin cv_X3_begin (by decide +kernel) ch_X3_begin ck_X3_begin
def cc_X3_reaches : aC := (36, 1, [(2, 0, 0, 3), (0, 0, 71, 1), (0, 0, 11, 1)], some (0, 0, 1, 1), [], 0, [], [], [], [])
def ta_X3_reaches : List aL := [(0, ([(0, ((2, 0, 0, 3), (0, 0, 0), (0, 0), [])), (1, ((0, 0, 71, 1), (0, 0, 0), (0, 0), [])), (2, ((0, 0, 11, 1), (0, 0, 0), (0, 0), []))], [], []), 2, []),
  (37, ([(0, ((2, 0, 0, 3), (0, 0, 0), (0, 0), [])), (1, ((0, 0, 71, 1), (0, 0, 0), (0, 0), [])), (2, ((0, 0, 11, 1), (0, 0, 0), (0, 0), []))], [], [((3, 223, 2), -2147483648, 2147483647)]), 1, []),
  (38, ([(0, ((2, 0, 0, 3), (0, 0, 0), (0, 0), [])), (1, ((0, 0, 71, 1), (0, 0, 0), (0, 0), [])), (2, ((0, 0, 11, 1), (0, 0, 0), (0, 0), []))], [((0, 0, 1, 1), (0, 0, 0), (0, 0), [])], [((3, 223, 2), -2147483648, 2147483647)]), 0, [])]
def bl_X3_reaches : List aB := [(0, vb_X3_reaches_0, some 37), (37, vb_X3_reaches_37, some 38), (38, vb_X3_reaches_38, none)]
def cz_X3_reaches : List (Nat × aC) := []
theorem ck_X3_reaches : csOK cz_X3_reaches := trivial
theorem cv_X3_reaches : blOK kd_X3_reaches bl_X3_reaches := ⟨ve_X3_reaches_0, ve_X3_reaches_37, ve_X3_reaches_38, trivial⟩
theorem ch_X3_reaches : amchk ta_X3_reaches bl_X3_reaches cz_X3_reaches cc_X3_reaches = true := by decide +kernel
theorem ct_X3_reaches : CtOK cc_X3_reaches := am_ok' (T := ta_X3_reaches) (B := bl_X3_reaches) (cs := cz_X3_reaches) vm_X3_reaches cv_X3_reaches (by decide +kernel) ch_X3_reaches ck_X3_reaches
def cc_X3_mostTo : aC := (42, 1, [(2, 0, 0, 3), (0, 0, 11, 1)], some (0, -2147483648, 2147483647, 1), [], 0, [], [], [], [])
def ta_X3_mostTo : List aL := [(0, ([(0, ((2, 0, 0, 3), (0, 0, 0), (0, 0), [])), (1, ((0, 0, 11, 1), (0, 0, 0), (0, 0), []))], [], []), 53, [(4, 0)]),
  (12, ([(0, ((2, 0, 0, 3), (0, 0, 0), (0, 0), [])), (1, ((0, 0, 11, 1), (0, 0, 0), (0, 0), [])), (2, ((0, -2147483648, 2147483647, 1), (0, 0, 0), (0, 0), [])), (3, ((0, -1, 11, 1), (0, 0, 0), (0, 0), [])), (4, ((0, 0, 12, 1), (0, 0, 0), (0, 0), []))], [], []), 51, [(4, -4)]),
  (53, ([(0, ((2, 0, 0, 3), (0, 0, 0), (0, 0), [])), (1, ((0, 0, 11, 1), (0, 0, 0), (0, 0), [])), (2, ((0, -2147483648, 2147483647, 1), (0, 0, 0), (0, 0), [])), (3, ((0, 0, 11, 1), (0, 0, 0), (0, 0), [])), (4, ((0, 0, 11, 1), (0, 0, 0), (0, 0), [])), (5, ((0, 0, 71, 1), (0, 0, 0), (0, 0), []))], [((0, -2147483648, 2147483647, 1), (0, 0, 0), (0, 0), [])], [((3, 450, 3), 0, 11)]), 50, [(4, -4)]),
  (67, ([(0, ((2, 0, 0, 3), (0, 0, 0), (0, 0), [])), (1, ((0, 0, 11, 1), (0, 0, 0), (0, 0), [])), (2, ((0, -2147483648, 2147483647, 1), (0, 0, 0), (0, 0), [])), (3, ((0, 0, 11, 1), (0, 0, 0), (0, 0), [])), (4, ((0, 0, 11, 1), (0, 0, 0), (0, 0), [])), (5, ((0, 0, 71, 1), (0, 0, 0), (0, 0), []))], [((0, -2147483648, 2147483647, 1), (0, 0, 0), (0, 0), []), ((0, -2147483648, 2147483647, 1), (0, 0, 0), (0, 0), [])], [((3, 450, 3), -1, 11)]), 49, [(4, -4)]),
  (84, ([(0, ((2, 0, 0, 3), (0, 0, 0), (0, 0), [])), (1, ((0, 0, 11, 1), (0, 0, 0), (0, 0), [])), (2, ((0, -2147483648, 2147483647, 1), (0, 0, 0), (0, 0), [])), (3, ((0, -1, 11, 1), (0, 0, 0), (0, 0), [])), (4, ((0, 0, 12, 1), (0, 0, 0), (0, 0), []))], [], []), 0, [(4, 0)])]
def bl_X3_mostTo : List aB := [(0, vb_X3_mostTo_0, some 12), (12, vb_X3_mostTo_12, some 53), (53, vb_X3_mostTo_53, some 67), (67, vb_X3_mostTo_67, some 84), (84, vb_X3_mostTo_84, none)]
def cz_X3_mostTo : List (Nat × aC) := []
theorem ck_X3_mostTo : csOK cz_X3_mostTo := trivial
theorem cv_X3_mostTo : blOK kd_X3_mostTo bl_X3_mostTo := ⟨ve_X3_mostTo_0, ve_X3_mostTo_12, ve_X3_mostTo_53, ve_X3_mostTo_67, ve_X3_mostTo_84, trivial⟩
theorem ch_X3_mostTo : amchk ta_X3_mostTo bl_X3_mostTo cz_X3_mostTo cc_X3_mostTo = true := by decide +kernel
theorem ct_X3_mostTo : CtOK cc_X3_mostTo := am_ok' (T := ta_X3_mostTo) (B := bl_X3_mostTo) (cs := cz_X3_mostTo) vm_X3_mostTo cv_X3_mostTo (by decide +kernel) ch_X3_mostTo ck_X3_mostTo
def cc_X4_valueOf : aC := (52, 1, [(0, -2147483648, 2147483647, 1), (0, -2147483648, 2147483647, 1), (0, -2147483648, 2147483647, 1), (0, -2147483648, 2147483647, 1)], some (0, -2147483648, 2147483647, 1), [], 0, [], [], [], [])
def ta_X4_valueOf : List aL := [(0, ([(0, ((0, -2147483648, 2147483647, 1), (0, 0, 0), (0, 0), [])), (1, ((0, -2147483648, 2147483647, 1), (0, 0, 0), (0, 0), [])), (2, ((0, -2147483648, 2147483647, 1), (0, 0, 0), (0, 0), [])), (3, ((0, -2147483648, 2147483647, 1), (0, 0, 0), (0, 0), []))], [], []), 4, []),
  (36, ([(0, ((0, -2147483648, 2147483647, 1), (0, 0, 0), (0, 0), [])), (1, ((0, -2147483648, 2147483647, 1), (0, 0, 0), (0, 0), [])), (2, ((0, -2147483648, 2147483647, 1), (0, 0, 0), (0, 0), [])), (3, ((0, -2147483648, 2147483647, 1), (0, 0, 0), (0, 0), []))], [], []), 3, []),
  (38, ([(0, ((0, -2147483648, 2147483647, 1), (0, 0, 0), (0, 0), [])), (1, ((0, -2147483648, 2147483647, 1), (0, 0, 0), (0, 0), [])), (2, ((0, -2147483648, 2147483647, 1), (0, 0, 0), (0, 0), [])), (3, ((0, -2147483648, 2147483647, 1), (0, 0, 0), (0, 0), []))], [], []), 2, []),
  (40, ([(0, ((0, -2147483648, 2147483647, 1), (0, 0, 0), (0, 0), [])), (1, ((0, -2147483648, 2147483647, 1), (0, 0, 0), (0, 0), [])), (2, ((0, -2147483648, 2147483647, 1), (0, 0, 0), (0, 0), [])), (3, ((0, -2147483648, 2147483647, 1), (0, 0, 0), (0, 0), []))], [], []), 1, []),
  (42, ([(0, ((0, -2147483648, 2147483647, 1), (0, 0, 0), (0, 0), [])), (1, ((0, -2147483648, 2147483647, 1), (0, 0, 0), (0, 0), [])), (2, ((0, -2147483648, 2147483647, 1), (0, 0, 0), (0, 0), [])), (3, ((0, -2147483648, 2147483647, 1), (0, 0, 0), (0, 0), []))], [], []), 0, [])]
def bl_X4_valueOf : List aB := [(0, vb_X4_valueOf_0, some 36), (36, vb_X4_valueOf_36, some 38), (38, vb_X4_valueOf_38, some 40), (40, vb_X4_valueOf_40, some 42), (42, vb_X4_valueOf_42, none)]
def cz_X4_valueOf : List (Nat × aC) := []
theorem ck_X4_valueOf : csOK cz_X4_valueOf := trivial
theorem cv_X4_valueOf : blOK kd_X4_valueOf bl_X4_valueOf := ⟨ve_X4_valueOf_0, ve_X4_valueOf_36, ve_X4_valueOf_38, ve_X4_valueOf_40, ve_X4_valueOf_42, trivial⟩
theorem ch_X4_valueOf : amchk ta_X4_valueOf bl_X4_valueOf cz_X4_valueOf cc_X4_valueOf = true := by decide +kernel
theorem ct_X4_valueOf : CtOK cc_X4_valueOf := am_ok' (T := ta_X4_valueOf) (B := bl_X4_valueOf) (cs := cz_X4_valueOf) vm_X4_valueOf cv_X4_valueOf (by decide +kernel) ch_X4_valueOf ck_X4_valueOf
def cc_X5_couldMend : aC := (55, 2, [(2, 0, 0, 5), (0, -2147483648, 2147483647, 1)], some (0, 0, 1, 1), [], 0, [], [], [], [])
def ta_X5_couldMend : List aL := [(0, ([(0, ((2, 0, 0, 5), (0, 0, 0), (0, 0), [])), (1, ((0, -2147483648, 2147483647, 1), (0, 0, 0), (0, 0), []))], [], []), 2, []),
  (16, ([(0, ((2, 0, 0, 5), (0, 0, 0), (0, 0), [])), (1, ((0, -2147483648, 2147483647, 1), (0, 0, 0), (0, 0), []))], [], []), 1, []),
  (22, ([(0, ((2, 0, 0, 5), (0, 0, 0), (0, 0), [])), (1, ((0, -2147483648, 2147483647, 1), (0, 0, 0), (0, 0), []))], [((0, -2147483648, 2147483647, 1), (0, 0, 0), (0, 0), [])], []), 0, [])]
def bl_X5_couldMend : List aB := [(0, vb_X5_couldMend_0, some 16), (16, vb_X5_couldMend_16, some 22), (22, vb_X5_couldMend_22, none)]
def cz_X5_couldMend : List (Nat × aC) := [(26, (cc_X11_within (1) (1) 0 (999) (999) 0))]
theorem ck_X5_couldMend : csOK cz_X5_couldMend := ⟨(ct_X11_within (1) (1) 0 (999) (999) 0), trivial⟩
theorem cv_X5_couldMend : blOK kd_X5_couldMend bl_X5_couldMend := ⟨ve_X5_couldMend_0, ve_X5_couldMend_16, ve_X5_couldMend_22, trivial⟩
theorem ch_X5_couldMend : amchk ta_X5_couldMend bl_X5_couldMend cz_X5_couldMend cc_X5_couldMend = true := by decide +kernel
theorem ct_X5_couldMend : CtOK cc_X5_couldMend := am_ok' (T := ta_X5_couldMend) (B := bl_X5_couldMend) (cs := cz_X5_couldMend) vm_X5_couldMend cv_X5_couldMend (by decide +kernel) ch_X5_couldMend ck_X5_couldMend
def cc_X6_moveFrom : aC := (60, 1, [(2, 0, 0, 6), (0, 0, 71, 1), (0, 0, 24, 1)], none, [], 0, [62, 63, 65, 11006, 12006], [], [], [])
def ta_X6_moveFrom : List aL := [(0, ([(0, ((2, 0, 0, 6), (0, 0, 0), (0, 0), [])), (1, ((0, 0, 71, 1), (0, 0, 0), (0, 0), [])), (2, ((0, 0, 24, 1), (0, 0, 0), (0, 0), []))], [], []), 40, [(3, 0)]),
  (110, ([(0, ((2, 0, 0, 6), (0, 0, 0), (0, 0), [])), (1, ((0, 0, 71, 1), (0, 0, 0), (0, 0), [])), (2, ((0, 0, 24, 1), (0, 0, 0), (0, 0), [])), (3, ((0, 0, 11, 1), (0, 0, 0), (0, 0), []))], [], [((2, 1, 2), 1, 12)]), 37, [(3, -3)]),
  (116, ([(0, ((2, 0, 0, 6), (0, 0, 0), (0, 0), [])), (1, ((0, 0, 71, 1), (0, 0, 0), (0, 0), [])), (2, ((0, 0, 24, 1), (0, 0, 0), (0, 0), [])), (3, ((0, 0, 12, 1), (0, 0, 0), (0, 0), []))], [], [((2, 1, 2), 0, 12)]), 0, [(3, 0)]),
  (2, ([(0, ((2, 0, 0, 6), (0, 0, 0), (0, 0), [])), (1, ((0, 0, 71, 1), (0, 0, 0), (0, 0), [])), (2, ((0, 0, 24, 1), (0, 0, 0), (0, 0), [])), (3, ((0, 0, 12, 1), (0, 0, 0), (0, 0), []))], [], []), 38, [(3, -3)])]
def bl_X6_moveFrom : List aB := [(0, vb_X6_moveFrom_0, some 2), (2, vb_X6_moveFrom_2, some 110), (110, vb_X6_moveFrom_110, some 116), (116, vb_X6_moveFrom_116, none)]
def cz_X6_moveFrom : List (Nat × aC) := []
theorem ck_X6_moveFrom : csOK cz_X6_moveFrom := trivial
theorem cv_X6_moveFrom : blOK kd_X6_moveFrom bl_X6_moveFrom := ⟨ve_X6_moveFrom_0, ve_X6_moveFrom_2, ve_X6_moveFrom_110, ve_X6_moveFrom_116, trivial⟩
theorem ch_X6_moveFrom : amchk ta_X6_moveFrom bl_X6_moveFrom cz_X6_moveFrom cc_X6_moveFrom = true := by decide +kernel
theorem ct_X6_moveFrom : CtOK cc_X6_moveFrom := am_ok' (T := ta_X6_moveFrom) (B := bl_X6_moveFrom) (cs := cz_X6_moveFrom) vm_X6_moveFrom cv_X6_moveFrom (by decide +kernel) ch_X6_moveFrom ck_X6_moveFrom
def cc_X6_broughtTo : aC := (61, 1, [(2, 0, 0, 6), (0, 0, 11, 1)], some (0, -2147483648, 2147483647, 1), [], 0, [], [], [], [])
def ta_X6_broughtTo : List aL := [(0, ([(0, ((2, 0, 0, 6), (0, 0, 0), (0, 0), [])), (1, ((0, 0, 11, 1), (0, 0, 0), (0, 0), []))], [], []), 0, [])]
def bl_X6_broughtTo : List aB := [(0, vb_X6_broughtTo_0, none)]
def cz_X6_broughtTo : List (Nat × aC) := []
theorem ck_X6_broughtTo : csOK cz_X6_broughtTo := trivial
theorem cv_X6_broughtTo : blOK kd_X6_broughtTo bl_X6_broughtTo := ⟨ve_X6_broughtTo_0, trivial⟩
theorem ch_X6_broughtTo : amchk ta_X6_broughtTo bl_X6_broughtTo cz_X6_broughtTo cc_X6_broughtTo = true := by decide +kernel
theorem ct_X6_broughtTo : CtOK cc_X6_broughtTo := am_ok' (T := ta_X6_broughtTo) (B := bl_X6_broughtTo) (cs := cz_X6_broughtTo) vm_X6_broughtTo cv_X6_broughtTo (by decide +kernel) ch_X6_broughtTo ck_X6_broughtTo
def cc_X7_balesOf : aC := (66, 1, [(2, 0, 0, 7), (0, 0, 31, 1), (0, 0, 1, 1)], some (0, -2147483648, 2147483647, 1), [], 0, [], [], [], [])
def ta_X7_balesOf : List aL := [(0, ([(0, ((2, 0, 0, 7), (0, 0, 0), (0, 0), [])), (1, ((0, 0, 31, 1), (0, 0, 0), (0, 0), [])), (2, ((0, 0, 1, 1), (0, 0, 0), (0, 0), []))], [], []), 22, [(4, 0)]),
  (5, ([(0, ((2, 0, 0, 7), (0, 0, 0), (0, 0), [])), (1, ((0, 0, 31, 1), (0, 0, 0), (0, 0), [])), (2, ((0, 0, 1, 1), (0, 0, 0), (0, 0), [])), (3, ((0, -2147483648, 2147483647, 1), (0, 0, 0), (0, 0), [])), (4, ((0, 0, 6, 1), (0, 0, 0), (0, 0), []))], [], []), 20, [(4, -3)]),
  (58, ([(0, ((2, 0, 0, 7), (0, 0, 0), (0, 0), [])), (1, ((0, 0, 31, 1), (0, 0, 0), (0, 0), [])), (2, ((0, 0, 1, 1), (0, 0, 0), (0, 0), [])), (3, ((0, -2147483648, 2147483647, 1), (0, 0, 0), (0, 0), [])), (4, ((0, 0, 5, 1), (0, 0, 0), (0, 0), [])), (5, ((2, 0, 0, 5), (0, 0, 0), (0, 0), []))], [], [((2, 451, 3), 1, 5)]), 19, [(4, -3)]),
  (64, ([(0, ((2, 0, 0, 7), (0, 0, 0), (0, 0), [])), (1, ((0, 0, 31, 1), (0, 0, 0), (0, 0), [])), (2, ((0, 0, 1, 1), (0, 0, 0), (0, 0), [])), (3, ((0, -2147483648, 2147483647, 1), (0, 0, 0), (0, 0), [])), (4, ((0, 0, 6, 1), (0, 0, 0), (0, 0), []))], [], [((2, 451, 3), 0, 5)]), 0, [(4, 0)])]
def bl_X7_balesOf : List aB := [(0, vb_X7_balesOf_0, some 5), (5, vb_X7_balesOf_5, some 58), (58, vb_X7_balesOf_58, some 64), (64, vb_X7_balesOf_64, none)]
def cz_X7_balesOf : List (Nat × aC) := []
theorem ck_X7_balesOf : csOK cz_X7_balesOf := trivial
theorem cv_X7_balesOf : blOK kd_X7_balesOf bl_X7_balesOf := ⟨ve_X7_balesOf_0, ve_X7_balesOf_5, ve_X7_balesOf_58, ve_X7_balesOf_64, trivial⟩
theorem ch_X7_balesOf : amchk ta_X7_balesOf bl_X7_balesOf cz_X7_balesOf cc_X7_balesOf = true := by decide +kernel
theorem ct_X7_balesOf : CtOK cc_X7_balesOf := am_ok' (T := ta_X7_balesOf) (B := bl_X7_balesOf) (cs := cz_X7_balesOf) vm_X7_balesOf cv_X7_balesOf (by decide +kernel) ch_X7_balesOf ck_X7_balesOf
def cc_X7_leastWith_at_0 : aC := (68, 1, [(2, 0, 0, 7), (0, 0, 11, 1), (0, 0, 0, 0)], some (0, -2147483648, 536870912, 1), [], 0, [], [], [], [])
def ta_X7_leastWith_at_0 : List aL := [(0, ([(0, ((2, 0, 0, 7), (0, 0, 0), (0, 0), [])), (1, ((0, 0, 11, 1), (0, 0, 0), (0, 0), [])), (2, ((0, 0, 0, 0), (0, 0, 0), (0, 0), []))], [], []), 7, [(5, 0)]),
  (17, ([(0, ((2, 0, 0, 7), (0, 0, 0), (0, 0), [])), (1, ((0, 0, 11, 1), (0, 0, 0), (0, 0), [])), (2, ((0, 0, 0, 0), (0, 0, 0), (0, 0), [])), (3, ((0, -2147483648, 536870912, 1), (0, 0, 0), (0, 0), [])), (4, ((0, 0, 0, 1), (0, 0, 0), (0, 0), [])), (5, ((0, -1, 0, 1), (0, 0, 0), (0, 0), []))], [], []), 5, [(5, 3)]),
  (56, ([(0, ((2, 0, 0, 7), (0, 0, 0), (0, 0), [])), (1, ((0, 0, 11, 1), (0, 0, 0), (0, 0), [])), (2, ((0, 0, 0, 0), (0, 0, 0), (0, 0), [])), (3, ((0, -2147483648, 536870912, 1), (0, 0, 0), (0, 0), [])), (4, ((0, 0, 0, 1), (0, 0, 0), (0, 0), [])), (5, ((0, 0, 0, 1), (0, 0, 0), (0, 0), []))], [], []), 4, [(5, 3)]),
  (62, ([(0, ((2, 0, 0, 7), (0, 0, 0), (0, 0), [])), (1, ((0, 0, 11, 1), (0, 0, 0), (0, 0), [])), (2, ((0, 0, 0, 0), (0, 0, 0), (0, 0), [])), (3, ((0, -2147483648, 536870912, 1), (0, 0, 0), (0, 0), [])), (4, ((0, 0, 0, 1), (0, 0, 0), (0, 0), [])), (5, ((0, -1, -1, 1), (0, 0, 0), (0, 0), []))], [], []), 0, [(5, 0)])]
def bl_X7_leastWith_at_0 : List aB := [(0, vb_X7_leastWith_0, some 17), (17, vb_X7_leastWith_17, some 56), (56, vb_X7_leastWith_56, some 62), (62, vb_X7_leastWith_62, none)]
def cz_X7_leastWith_at_0 : List (Nat × aC) := []
theorem ck_X7_leastWith_at_0 : csOK cz_X7_leastWith_at_0 := trivial
theorem cv_X7_leastWith_at_0 : blOK kd_X7_leastWith bl_X7_leastWith_at_0 := ⟨ve_X7_leastWith_0, ve_X7_leastWith_17, ve_X7_leastWith_56, ve_X7_leastWith_62, trivial⟩
theorem ch_X7_leastWith_at_0 : amchk ta_X7_leastWith_at_0 bl_X7_leastWith_at_0 cz_X7_leastWith_at_0 cc_X7_leastWith_at_0 = true := by decide +kernel
theorem ct_X7_leastWith_at_0 : CtOK cc_X7_leastWith_at_0 := am_ok' (T := ta_X7_leastWith_at_0) (B := bl_X7_leastWith_at_0) (cs := cz_X7_leastWith_at_0) vm_X7_leastWith cv_X7_leastWith_at_0 (by decide +kernel) ch_X7_leastWith_at_0 ck_X7_leastWith_at_0
def cc_X7_leastWith_at_1 : aC := (68, 1, [(2, 0, 0, 7), (0, 0, 11, 1), (0, 1, 1, 0)], some (0, -2147483648, 536870912, 1), [], 0, [], [], [], [])
def ta_X7_leastWith_at_1 : List aL := [(0, ([(0, ((2, 0, 0, 7), (0, 0, 0), (0, 0), [])), (1, ((0, 0, 11, 1), (0, 0, 0), (0, 0), [])), (2, ((0, 1, 1, 0), (0, 0, 0), (0, 0), []))], [], []), 10, [(5, 0)]),
  (17, ([(0, ((2, 0, 0, 7), (0, 0, 0), (0, 0), [])), (1, ((0, 0, 11, 1), (0, 0, 0), (0, 0), [])), (2, ((0, 1, 1, 0), (0, 0, 0), (0, 0), [])), (3, ((0, -2147483648, 536870912, 1), (0, 0, 0), (0, 0), [])), (4, ((0, 0, 1, 1), (0, 0, 0), (0, 0), [])), (5, ((0, -1, 1, 1), (0, 0, 0), (0, 0), []))], [], []), 5, [(5, 3)]),
  (56, ([(0, ((2, 0, 0, 7), (0, 0, 0), (0, 0), [])), (1, ((0, 0, 11, 1), (0, 0, 0), (0, 0), [])), (2, ((0, 1, 1, 0), (0, 0, 0), (0, 0), [])), (3, ((0, -2147483648, 536870912, 1), (0, 0, 0), (0, 0), [])), (4, ((0, 0, 1, 1), (0, 0, 0), (0, 0), [])), (5, ((0, 0, 1, 1), (0, 0, 0), (0, 0), []))], [], []), 4, [(5, 3)]),
  (62, ([(0, ((2, 0, 0, 7), (0, 0, 0), (0, 0), [])), (1, ((0, 0, 11, 1), (0, 0, 0), (0, 0), [])), (2, ((0, 1, 1, 0), (0, 0, 0), (0, 0), [])), (3, ((0, -2147483648, 536870912, 1), (0, 0, 0), (0, 0), [])), (4, ((0, 0, 1, 1), (0, 0, 0), (0, 0), [])), (5, ((0, -1, -1, 1), (0, 0, 0), (0, 0), []))], [], []), 0, [(5, 0)])]
def bl_X7_leastWith_at_1 : List aB := [(0, vb_X7_leastWith_0, some 17), (17, vb_X7_leastWith_17, some 56), (56, vb_X7_leastWith_56, some 62), (62, vb_X7_leastWith_62, none)]
def cz_X7_leastWith_at_1 : List (Nat × aC) := []
theorem ck_X7_leastWith_at_1 : csOK cz_X7_leastWith_at_1 := trivial
theorem cv_X7_leastWith_at_1 : blOK kd_X7_leastWith bl_X7_leastWith_at_1 := ⟨ve_X7_leastWith_0, ve_X7_leastWith_17, ve_X7_leastWith_56, ve_X7_leastWith_62, trivial⟩
theorem ch_X7_leastWith_at_1 : amchk ta_X7_leastWith_at_1 bl_X7_leastWith_at_1 cz_X7_leastWith_at_1 cc_X7_leastWith_at_1 = true := by decide +kernel
theorem ct_X7_leastWith_at_1 : CtOK cc_X7_leastWith_at_1 := am_ok' (T := ta_X7_leastWith_at_1) (B := bl_X7_leastWith_at_1) (cs := cz_X7_leastWith_at_1) vm_X7_leastWith cv_X7_leastWith_at_1 (by decide +kernel) ch_X7_leastWith_at_1 ck_X7_leastWith_at_1
def cc_X7_leastWith_at_10 : aC := (68, 1, [(2, 0, 0, 7), (0, 0, 11, 1), (0, 10, 10, 0)], some (0, -2147483648, 536870912, 1), [], 0, [], [], [], [])
def ta_X7_leastWith_at_10 : List aL := [(0, ([(0, ((2, 0, 0, 7), (0, 0, 0), (0, 0), [])), (1, ((0, 0, 11, 1), (0, 0, 0), (0, 0), [])), (2, ((0, 10, 10, 0), (0, 0, 0), (0, 0), []))], [], []), 37, [(5, 0)]),
  (17, ([(0, ((2, 0, 0, 7), (0, 0, 0), (0, 0), [])), (1, ((0, 0, 11, 1), (0, 0, 0), (0, 0), [])), (2, ((0, 10, 10, 0), (0, 0, 0), (0, 0), [])), (3, ((0, -2147483648, 536870912, 1), (0, 0, 0), (0, 0), [])), (4, ((0, 0, 10, 1), (0, 0, 0), (0, 0), [])), (5, ((0, -1, 10, 1), (0, 0, 0), (0, 0), []))], [], []), 5, [(5, 3)]),
  (56, ([(0, ((2, 0, 0, 7), (0, 0, 0), (0, 0), [])), (1, ((0, 0, 11, 1), (0, 0, 0), (0, 0), [])), (2, ((0, 10, 10, 0), (0, 0, 0), (0, 0), [])), (3, ((0, -2147483648, 536870912, 1), (0, 0, 0), (0, 0), [])), (4, ((0, 0, 10, 1), (0, 0, 0), (0, 0), [])), (5, ((0, 0, 10, 1), (0, 0, 0), (0, 0), []))], [], []), 4, [(5, 3)]),
  (62, ([(0, ((2, 0, 0, 7), (0, 0, 0), (0, 0), [])), (1, ((0, 0, 11, 1), (0, 0, 0), (0, 0), [])), (2, ((0, 10, 10, 0), (0, 0, 0), (0, 0), [])), (3, ((0, -2147483648, 536870912, 1), (0, 0, 0), (0, 0), [])), (4, ((0, 0, 10, 1), (0, 0, 0), (0, 0), [])), (5, ((0, -1, -1, 1), (0, 0, 0), (0, 0), []))], [], []), 0, [(5, 0)])]
def bl_X7_leastWith_at_10 : List aB := [(0, vb_X7_leastWith_0, some 17), (17, vb_X7_leastWith_17, some 56), (56, vb_X7_leastWith_56, some 62), (62, vb_X7_leastWith_62, none)]
def cz_X7_leastWith_at_10 : List (Nat × aC) := []
theorem ck_X7_leastWith_at_10 : csOK cz_X7_leastWith_at_10 := trivial
theorem cv_X7_leastWith_at_10 : blOK kd_X7_leastWith bl_X7_leastWith_at_10 := ⟨ve_X7_leastWith_0, ve_X7_leastWith_17, ve_X7_leastWith_56, ve_X7_leastWith_62, trivial⟩
theorem ch_X7_leastWith_at_10 : amchk ta_X7_leastWith_at_10 bl_X7_leastWith_at_10 cz_X7_leastWith_at_10 cc_X7_leastWith_at_10 = true := by decide +kernel
theorem ct_X7_leastWith_at_10 : CtOK cc_X7_leastWith_at_10 := am_ok' (T := ta_X7_leastWith_at_10) (B := bl_X7_leastWith_at_10) (cs := cz_X7_leastWith_at_10) vm_X7_leastWith cv_X7_leastWith_at_10 (by decide +kernel) ch_X7_leastWith_at_10 ck_X7_leastWith_at_10
def cc_X7_leastWith_at_11 : aC := (68, 1, [(2, 0, 0, 7), (0, 0, 11, 1), (0, 11, 11, 0)], some (0, -2147483648, 536870912, 1), [], 0, [], [], [], [])
def ta_X7_leastWith_at_11 : List aL := [(0, ([(0, ((2, 0, 0, 7), (0, 0, 0), (0, 0), [])), (1, ((0, 0, 11, 1), (0, 0, 0), (0, 0), [])), (2, ((0, 11, 11, 0), (0, 0, 0), (0, 0), []))], [], []), 40, [(5, 0)]),
  (17, ([(0, ((2, 0, 0, 7), (0, 0, 0), (0, 0), [])), (1, ((0, 0, 11, 1), (0, 0, 0), (0, 0), [])), (2, ((0, 11, 11, 0), (0, 0, 0), (0, 0), [])), (3, ((0, -2147483648, 536870912, 1), (0, 0, 0), (0, 0), [])), (4, ((0, 0, 11, 1), (0, 0, 0), (0, 0), [])), (5, ((0, -1, 11, 1), (0, 0, 0), (0, 0), []))], [], []), 5, [(5, 3)]),
  (56, ([(0, ((2, 0, 0, 7), (0, 0, 0), (0, 0), [])), (1, ((0, 0, 11, 1), (0, 0, 0), (0, 0), [])), (2, ((0, 11, 11, 0), (0, 0, 0), (0, 0), [])), (3, ((0, -2147483648, 536870912, 1), (0, 0, 0), (0, 0), [])), (4, ((0, 0, 11, 1), (0, 0, 0), (0, 0), [])), (5, ((0, 0, 11, 1), (0, 0, 0), (0, 0), []))], [], []), 4, [(5, 3)]),
  (62, ([(0, ((2, 0, 0, 7), (0, 0, 0), (0, 0), [])), (1, ((0, 0, 11, 1), (0, 0, 0), (0, 0), [])), (2, ((0, 11, 11, 0), (0, 0, 0), (0, 0), [])), (3, ((0, -2147483648, 536870912, 1), (0, 0, 0), (0, 0), [])), (4, ((0, 0, 11, 1), (0, 0, 0), (0, 0), [])), (5, ((0, -1, -1, 1), (0, 0, 0), (0, 0), []))], [], []), 0, [(5, 0)])]
def bl_X7_leastWith_at_11 : List aB := [(0, vb_X7_leastWith_0, some 17), (17, vb_X7_leastWith_17, some 56), (56, vb_X7_leastWith_56, some 62), (62, vb_X7_leastWith_62, none)]
def cz_X7_leastWith_at_11 : List (Nat × aC) := []
theorem ck_X7_leastWith_at_11 : csOK cz_X7_leastWith_at_11 := trivial
theorem cv_X7_leastWith_at_11 : blOK kd_X7_leastWith bl_X7_leastWith_at_11 := ⟨ve_X7_leastWith_0, ve_X7_leastWith_17, ve_X7_leastWith_56, ve_X7_leastWith_62, trivial⟩
theorem ch_X7_leastWith_at_11 : amchk ta_X7_leastWith_at_11 bl_X7_leastWith_at_11 cz_X7_leastWith_at_11 cc_X7_leastWith_at_11 = true := by decide +kernel
theorem ct_X7_leastWith_at_11 : CtOK cc_X7_leastWith_at_11 := am_ok' (T := ta_X7_leastWith_at_11) (B := bl_X7_leastWith_at_11) (cs := cz_X7_leastWith_at_11) vm_X7_leastWith cv_X7_leastWith_at_11 (by decide +kernel) ch_X7_leastWith_at_11 ck_X7_leastWith_at_11
def cc_X7_leastWith_at_12 : aC := (68, 1, [(2, 0, 0, 7), (0, 0, 11, 1), (0, 12, 12, 0)], some (0, -2147483648, 536870912, 1), [], 0, [], [], [], [])
def ta_X7_leastWith_at_12 : List aL := [(0, ([(0, ((2, 0, 0, 7), (0, 0, 0), (0, 0), [])), (1, ((0, 0, 11, 1), (0, 0, 0), (0, 0), [])), (2, ((0, 12, 12, 0), (0, 0, 0), (0, 0), []))], [], []), 43, [(5, 0)]),
  (17, ([(0, ((2, 0, 0, 7), (0, 0, 0), (0, 0), [])), (1, ((0, 0, 11, 1), (0, 0, 0), (0, 0), [])), (2, ((0, 12, 12, 0), (0, 0, 0), (0, 0), [])), (3, ((0, -2147483648, 536870912, 1), (0, 0, 0), (0, 0), [])), (4, ((0, 0, 12, 1), (0, 0, 0), (0, 0), [])), (5, ((0, -1, 12, 1), (0, 0, 0), (0, 0), []))], [], []), 5, [(5, 3)]),
  (56, ([(0, ((2, 0, 0, 7), (0, 0, 0), (0, 0), [])), (1, ((0, 0, 11, 1), (0, 0, 0), (0, 0), [])), (2, ((0, 12, 12, 0), (0, 0, 0), (0, 0), [])), (3, ((0, -2147483648, 536870912, 1), (0, 0, 0), (0, 0), [])), (4, ((0, 0, 12, 1), (0, 0, 0), (0, 0), [])), (5, ((0, 0, 12, 1), (0, 0, 0), (0, 0), []))], [], []), 4, [(5, 3)]),
  (62, ([(0, ((2, 0, 0, 7), (0, 0, 0), (0, 0), [])), (1, ((0, 0, 11, 1), (0, 0, 0), (0, 0), [])), (2, ((0, 12, 12, 0), (0, 0, 0), (0, 0), [])), (3, ((0, -2147483648, 536870912, 1), (0, 0, 0), (0, 0), [])), (4, ((0, 0, 12, 1), (0, 0, 0), (0, 0), [])), (5, ((0, -1, -1, 1), (0, 0, 0), (0, 0), []))], [], []), 0, [(5, 0)])]
def bl_X7_leastWith_at_12 : List aB := [(0, vb_X7_leastWith_0, some 17), (17, vb_X7_leastWith_17, some 56), (56, vb_X7_leastWith_56, some 62), (62, vb_X7_leastWith_62, none)]
def cz_X7_leastWith_at_12 : List (Nat × aC) := []
theorem ck_X7_leastWith_at_12 : csOK cz_X7_leastWith_at_12 := trivial
theorem cv_X7_leastWith_at_12 : blOK kd_X7_leastWith bl_X7_leastWith_at_12 := ⟨ve_X7_leastWith_0, ve_X7_leastWith_17, ve_X7_leastWith_56, ve_X7_leastWith_62, trivial⟩
theorem ch_X7_leastWith_at_12 : amchk ta_X7_leastWith_at_12 bl_X7_leastWith_at_12 cz_X7_leastWith_at_12 cc_X7_leastWith_at_12 = true := by decide +kernel
theorem ct_X7_leastWith_at_12 : CtOK cc_X7_leastWith_at_12 := am_ok' (T := ta_X7_leastWith_at_12) (B := bl_X7_leastWith_at_12) (cs := cz_X7_leastWith_at_12) vm_X7_leastWith cv_X7_leastWith_at_12 (by decide +kernel) ch_X7_leastWith_at_12 ck_X7_leastWith_at_12
def cc_X7_leastWith_at_13 : aC := (68, 1, [(2, 0, 0, 7), (0, 0, 11, 1), (0, 13, 13, 0)], some (0, -2147483648, 536870912, 1), [], 0, [], [], [], [])
def ta_X7_leastWith_at_13 : List aL := [(0, ([(0, ((2, 0, 0, 7), (0, 0, 0), (0, 0), [])), (1, ((0, 0, 11, 1), (0, 0, 0), (0, 0), [])), (2, ((0, 13, 13, 0), (0, 0, 0), (0, 0), []))], [], []), 46, [(5, 0)]),
  (17, ([(0, ((2, 0, 0, 7), (0, 0, 0), (0, 0), [])), (1, ((0, 0, 11, 1), (0, 0, 0), (0, 0), [])), (2, ((0, 13, 13, 0), (0, 0, 0), (0, 0), [])), (3, ((0, -2147483648, 536870912, 1), (0, 0, 0), (0, 0), [])), (4, ((0, 0, 13, 1), (0, 0, 0), (0, 0), [])), (5, ((0, -1, 13, 1), (0, 0, 0), (0, 0), []))], [], []), 5, [(5, 3)]),
  (56, ([(0, ((2, 0, 0, 7), (0, 0, 0), (0, 0), [])), (1, ((0, 0, 11, 1), (0, 0, 0), (0, 0), [])), (2, ((0, 13, 13, 0), (0, 0, 0), (0, 0), [])), (3, ((0, -2147483648, 536870912, 1), (0, 0, 0), (0, 0), [])), (4, ((0, 0, 13, 1), (0, 0, 0), (0, 0), [])), (5, ((0, 0, 13, 1), (0, 0, 0), (0, 0), []))], [], []), 4, [(5, 3)]),
  (62, ([(0, ((2, 0, 0, 7), (0, 0, 0), (0, 0), [])), (1, ((0, 0, 11, 1), (0, 0, 0), (0, 0), [])), (2, ((0, 13, 13, 0), (0, 0, 0), (0, 0), [])), (3, ((0, -2147483648, 536870912, 1), (0, 0, 0), (0, 0), [])), (4, ((0, 0, 13, 1), (0, 0, 0), (0, 0), [])), (5, ((0, -1, -1, 1), (0, 0, 0), (0, 0), []))], [], []), 0, [(5, 0)])]
def bl_X7_leastWith_at_13 : List aB := [(0, vb_X7_leastWith_0, some 17), (17, vb_X7_leastWith_17, some 56), (56, vb_X7_leastWith_56, some 62), (62, vb_X7_leastWith_62, none)]
def cz_X7_leastWith_at_13 : List (Nat × aC) := []
theorem ck_X7_leastWith_at_13 : csOK cz_X7_leastWith_at_13 := trivial
theorem cv_X7_leastWith_at_13 : blOK kd_X7_leastWith bl_X7_leastWith_at_13 := ⟨ve_X7_leastWith_0, ve_X7_leastWith_17, ve_X7_leastWith_56, ve_X7_leastWith_62, trivial⟩
theorem ch_X7_leastWith_at_13 : amchk ta_X7_leastWith_at_13 bl_X7_leastWith_at_13 cz_X7_leastWith_at_13 cc_X7_leastWith_at_13 = true := by decide +kernel
theorem ct_X7_leastWith_at_13 : CtOK cc_X7_leastWith_at_13 := am_ok' (T := ta_X7_leastWith_at_13) (B := bl_X7_leastWith_at_13) (cs := cz_X7_leastWith_at_13) vm_X7_leastWith cv_X7_leastWith_at_13 (by decide +kernel) ch_X7_leastWith_at_13 ck_X7_leastWith_at_13
def cc_X7_leastWith_at_14 : aC := (68, 1, [(2, 0, 0, 7), (0, 0, 11, 1), (0, 14, 14, 0)], some (0, -2147483648, 536870912, 1), [], 0, [], [], [], [])
def ta_X7_leastWith_at_14 : List aL := [(0, ([(0, ((2, 0, 0, 7), (0, 0, 0), (0, 0), [])), (1, ((0, 0, 11, 1), (0, 0, 0), (0, 0), [])), (2, ((0, 14, 14, 0), (0, 0, 0), (0, 0), []))], [], []), 49, [(5, 0)]),
  (17, ([(0, ((2, 0, 0, 7), (0, 0, 0), (0, 0), [])), (1, ((0, 0, 11, 1), (0, 0, 0), (0, 0), [])), (2, ((0, 14, 14, 0), (0, 0, 0), (0, 0), [])), (3, ((0, -2147483648, 536870912, 1), (0, 0, 0), (0, 0), [])), (4, ((0, 0, 14, 1), (0, 0, 0), (0, 0), [])), (5, ((0, -1, 14, 1), (0, 0, 0), (0, 0), []))], [], []), 5, [(5, 3)]),
  (56, ([(0, ((2, 0, 0, 7), (0, 0, 0), (0, 0), [])), (1, ((0, 0, 11, 1), (0, 0, 0), (0, 0), [])), (2, ((0, 14, 14, 0), (0, 0, 0), (0, 0), [])), (3, ((0, -2147483648, 536870912, 1), (0, 0, 0), (0, 0), [])), (4, ((0, 0, 14, 1), (0, 0, 0), (0, 0), [])), (5, ((0, 0, 14, 1), (0, 0, 0), (0, 0), []))], [], []), 4, [(5, 3)]),
  (62, ([(0, ((2, 0, 0, 7), (0, 0, 0), (0, 0), [])), (1, ((0, 0, 11, 1), (0, 0, 0), (0, 0), [])), (2, ((0, 14, 14, 0), (0, 0, 0), (0, 0), [])), (3, ((0, -2147483648, 536870912, 1), (0, 0, 0), (0, 0), [])), (4, ((0, 0, 14, 1), (0, 0, 0), (0, 0), [])), (5, ((0, -1, -1, 1), (0, 0, 0), (0, 0), []))], [], []), 0, [(5, 0)])]
def bl_X7_leastWith_at_14 : List aB := [(0, vb_X7_leastWith_0, some 17), (17, vb_X7_leastWith_17, some 56), (56, vb_X7_leastWith_56, some 62), (62, vb_X7_leastWith_62, none)]
def cz_X7_leastWith_at_14 : List (Nat × aC) := []
theorem ck_X7_leastWith_at_14 : csOK cz_X7_leastWith_at_14 := trivial
theorem cv_X7_leastWith_at_14 : blOK kd_X7_leastWith bl_X7_leastWith_at_14 := ⟨ve_X7_leastWith_0, ve_X7_leastWith_17, ve_X7_leastWith_56, ve_X7_leastWith_62, trivial⟩
theorem ch_X7_leastWith_at_14 : amchk ta_X7_leastWith_at_14 bl_X7_leastWith_at_14 cz_X7_leastWith_at_14 cc_X7_leastWith_at_14 = true := by decide +kernel
theorem ct_X7_leastWith_at_14 : CtOK cc_X7_leastWith_at_14 := am_ok' (T := ta_X7_leastWith_at_14) (B := bl_X7_leastWith_at_14) (cs := cz_X7_leastWith_at_14) vm_X7_leastWith cv_X7_leastWith_at_14 (by decide +kernel) ch_X7_leastWith_at_14 ck_X7_leastWith_at_14
def cc_X7_leastWith_at_15 : aC := (68, 1, [(2, 0, 0, 7), (0, 0, 11, 1), (0, 15, 15, 0)], some (0, -2147483648, 536870912, 1), [], 0, [], [], [], [])
def ta_X7_leastWith_at_15 : List aL := [(0, ([(0, ((2, 0, 0, 7), (0, 0, 0), (0, 0), [])), (1, ((0, 0, 11, 1), (0, 0, 0), (0, 0), [])), (2, ((0, 15, 15, 0), (0, 0, 0), (0, 0), []))], [], []), 52, [(5, 0)]),
  (17, ([(0, ((2, 0, 0, 7), (0, 0, 0), (0, 0), [])), (1, ((0, 0, 11, 1), (0, 0, 0), (0, 0), [])), (2, ((0, 15, 15, 0), (0, 0, 0), (0, 0), [])), (3, ((0, -2147483648, 536870912, 1), (0, 0, 0), (0, 0), [])), (4, ((0, 0, 15, 1), (0, 0, 0), (0, 0), [])), (5, ((0, -1, 15, 1), (0, 0, 0), (0, 0), []))], [], []), 5, [(5, 3)]),
  (56, ([(0, ((2, 0, 0, 7), (0, 0, 0), (0, 0), [])), (1, ((0, 0, 11, 1), (0, 0, 0), (0, 0), [])), (2, ((0, 15, 15, 0), (0, 0, 0), (0, 0), [])), (3, ((0, -2147483648, 536870912, 1), (0, 0, 0), (0, 0), [])), (4, ((0, 0, 15, 1), (0, 0, 0), (0, 0), [])), (5, ((0, 0, 15, 1), (0, 0, 0), (0, 0), []))], [], []), 4, [(5, 3)]),
  (62, ([(0, ((2, 0, 0, 7), (0, 0, 0), (0, 0), [])), (1, ((0, 0, 11, 1), (0, 0, 0), (0, 0), [])), (2, ((0, 15, 15, 0), (0, 0, 0), (0, 0), [])), (3, ((0, -2147483648, 536870912, 1), (0, 0, 0), (0, 0), [])), (4, ((0, 0, 15, 1), (0, 0, 0), (0, 0), [])), (5, ((0, -1, -1, 1), (0, 0, 0), (0, 0), []))], [], []), 0, [(5, 0)])]
def bl_X7_leastWith_at_15 : List aB := [(0, vb_X7_leastWith_0, some 17), (17, vb_X7_leastWith_17, some 56), (56, vb_X7_leastWith_56, some 62), (62, vb_X7_leastWith_62, none)]
def cz_X7_leastWith_at_15 : List (Nat × aC) := []
theorem ck_X7_leastWith_at_15 : csOK cz_X7_leastWith_at_15 := trivial
theorem cv_X7_leastWith_at_15 : blOK kd_X7_leastWith bl_X7_leastWith_at_15 := ⟨ve_X7_leastWith_0, ve_X7_leastWith_17, ve_X7_leastWith_56, ve_X7_leastWith_62, trivial⟩
theorem ch_X7_leastWith_at_15 : amchk ta_X7_leastWith_at_15 bl_X7_leastWith_at_15 cz_X7_leastWith_at_15 cc_X7_leastWith_at_15 = true := by decide +kernel
theorem ct_X7_leastWith_at_15 : CtOK cc_X7_leastWith_at_15 := am_ok' (T := ta_X7_leastWith_at_15) (B := bl_X7_leastWith_at_15) (cs := cz_X7_leastWith_at_15) vm_X7_leastWith cv_X7_leastWith_at_15 (by decide +kernel) ch_X7_leastWith_at_15 ck_X7_leastWith_at_15
def cc_X7_leastWith_at_16 : aC := (68, 1, [(2, 0, 0, 7), (0, 0, 11, 1), (0, 16, 16, 0)], some (0, -2147483648, 536870912, 1), [], 0, [], [], [], [])
def ta_X7_leastWith_at_16 : List aL := [(0, ([(0, ((2, 0, 0, 7), (0, 0, 0), (0, 0), [])), (1, ((0, 0, 11, 1), (0, 0, 0), (0, 0), [])), (2, ((0, 16, 16, 0), (0, 0, 0), (0, 0), []))], [], []), 55, [(5, 0)]),
  (17, ([(0, ((2, 0, 0, 7), (0, 0, 0), (0, 0), [])), (1, ((0, 0, 11, 1), (0, 0, 0), (0, 0), [])), (2, ((0, 16, 16, 0), (0, 0, 0), (0, 0), [])), (3, ((0, -2147483648, 536870912, 1), (0, 0, 0), (0, 0), [])), (4, ((0, 0, 16, 1), (0, 0, 0), (0, 0), [])), (5, ((0, -1, 16, 1), (0, 0, 0), (0, 0), []))], [], []), 5, [(5, 3)]),
  (56, ([(0, ((2, 0, 0, 7), (0, 0, 0), (0, 0), [])), (1, ((0, 0, 11, 1), (0, 0, 0), (0, 0), [])), (2, ((0, 16, 16, 0), (0, 0, 0), (0, 0), [])), (3, ((0, -2147483648, 536870912, 1), (0, 0, 0), (0, 0), [])), (4, ((0, 0, 16, 1), (0, 0, 0), (0, 0), [])), (5, ((0, 0, 16, 1), (0, 0, 0), (0, 0), []))], [], []), 4, [(5, 3)]),
  (62, ([(0, ((2, 0, 0, 7), (0, 0, 0), (0, 0), [])), (1, ((0, 0, 11, 1), (0, 0, 0), (0, 0), [])), (2, ((0, 16, 16, 0), (0, 0, 0), (0, 0), [])), (3, ((0, -2147483648, 536870912, 1), (0, 0, 0), (0, 0), [])), (4, ((0, 0, 16, 1), (0, 0, 0), (0, 0), [])), (5, ((0, -1, -1, 1), (0, 0, 0), (0, 0), []))], [], []), 0, [(5, 0)])]
def bl_X7_leastWith_at_16 : List aB := [(0, vb_X7_leastWith_0, some 17), (17, vb_X7_leastWith_17, some 56), (56, vb_X7_leastWith_56, some 62), (62, vb_X7_leastWith_62, none)]
def cz_X7_leastWith_at_16 : List (Nat × aC) := []
theorem ck_X7_leastWith_at_16 : csOK cz_X7_leastWith_at_16 := trivial
theorem cv_X7_leastWith_at_16 : blOK kd_X7_leastWith bl_X7_leastWith_at_16 := ⟨ve_X7_leastWith_0, ve_X7_leastWith_17, ve_X7_leastWith_56, ve_X7_leastWith_62, trivial⟩
theorem ch_X7_leastWith_at_16 : amchk ta_X7_leastWith_at_16 bl_X7_leastWith_at_16 cz_X7_leastWith_at_16 cc_X7_leastWith_at_16 = true := by decide +kernel
theorem ct_X7_leastWith_at_16 : CtOK cc_X7_leastWith_at_16 := am_ok' (T := ta_X7_leastWith_at_16) (B := bl_X7_leastWith_at_16) (cs := cz_X7_leastWith_at_16) vm_X7_leastWith cv_X7_leastWith_at_16 (by decide +kernel) ch_X7_leastWith_at_16 ck_X7_leastWith_at_16
def cc_X7_leastWith_at_17 : aC := (68, 1, [(2, 0, 0, 7), (0, 0, 11, 1), (0, 17, 17, 0)], some (0, -2147483648, 536870912, 1), [], 0, [], [], [], [])
def ta_X7_leastWith_at_17 : List aL := [(0, ([(0, ((2, 0, 0, 7), (0, 0, 0), (0, 0), [])), (1, ((0, 0, 11, 1), (0, 0, 0), (0, 0), [])), (2, ((0, 17, 17, 0), (0, 0, 0), (0, 0), []))], [], []), 58, [(5, 0)]),
  (17, ([(0, ((2, 0, 0, 7), (0, 0, 0), (0, 0), [])), (1, ((0, 0, 11, 1), (0, 0, 0), (0, 0), [])), (2, ((0, 17, 17, 0), (0, 0, 0), (0, 0), [])), (3, ((0, -2147483648, 536870912, 1), (0, 0, 0), (0, 0), [])), (4, ((0, 0, 17, 1), (0, 0, 0), (0, 0), [])), (5, ((0, -1, 17, 1), (0, 0, 0), (0, 0), []))], [], []), 5, [(5, 3)]),
  (56, ([(0, ((2, 0, 0, 7), (0, 0, 0), (0, 0), [])), (1, ((0, 0, 11, 1), (0, 0, 0), (0, 0), [])), (2, ((0, 17, 17, 0), (0, 0, 0), (0, 0), [])), (3, ((0, -2147483648, 536870912, 1), (0, 0, 0), (0, 0), [])), (4, ((0, 0, 17, 1), (0, 0, 0), (0, 0), [])), (5, ((0, 0, 17, 1), (0, 0, 0), (0, 0), []))], [], []), 4, [(5, 3)]),
  (62, ([(0, ((2, 0, 0, 7), (0, 0, 0), (0, 0), [])), (1, ((0, 0, 11, 1), (0, 0, 0), (0, 0), [])), (2, ((0, 17, 17, 0), (0, 0, 0), (0, 0), [])), (3, ((0, -2147483648, 536870912, 1), (0, 0, 0), (0, 0), [])), (4, ((0, 0, 17, 1), (0, 0, 0), (0, 0), [])), (5, ((0, -1, -1, 1), (0, 0, 0), (0, 0), []))], [], []), 0, [(5, 0)])]
def bl_X7_leastWith_at_17 : List aB := [(0, vb_X7_leastWith_0, some 17), (17, vb_X7_leastWith_17, some 56), (56, vb_X7_leastWith_56, some 62), (62, vb_X7_leastWith_62, none)]
def cz_X7_leastWith_at_17 : List (Nat × aC) := []
theorem ck_X7_leastWith_at_17 : csOK cz_X7_leastWith_at_17 := trivial
theorem cv_X7_leastWith_at_17 : blOK kd_X7_leastWith bl_X7_leastWith_at_17 := ⟨ve_X7_leastWith_0, ve_X7_leastWith_17, ve_X7_leastWith_56, ve_X7_leastWith_62, trivial⟩
theorem ch_X7_leastWith_at_17 : amchk ta_X7_leastWith_at_17 bl_X7_leastWith_at_17 cz_X7_leastWith_at_17 cc_X7_leastWith_at_17 = true := by decide +kernel
theorem ct_X7_leastWith_at_17 : CtOK cc_X7_leastWith_at_17 := am_ok' (T := ta_X7_leastWith_at_17) (B := bl_X7_leastWith_at_17) (cs := cz_X7_leastWith_at_17) vm_X7_leastWith cv_X7_leastWith_at_17 (by decide +kernel) ch_X7_leastWith_at_17 ck_X7_leastWith_at_17
def cc_X7_leastWith_at_18 : aC := (68, 1, [(2, 0, 0, 7), (0, 0, 11, 1), (0, 18, 18, 0)], some (0, -2147483648, 536870912, 1), [], 0, [], [], [], [])
def ta_X7_leastWith_at_18 : List aL := [(0, ([(0, ((2, 0, 0, 7), (0, 0, 0), (0, 0), [])), (1, ((0, 0, 11, 1), (0, 0, 0), (0, 0), [])), (2, ((0, 18, 18, 0), (0, 0, 0), (0, 0), []))], [], []), 61, [(5, 0)]),
  (17, ([(0, ((2, 0, 0, 7), (0, 0, 0), (0, 0), [])), (1, ((0, 0, 11, 1), (0, 0, 0), (0, 0), [])), (2, ((0, 18, 18, 0), (0, 0, 0), (0, 0), [])), (3, ((0, -2147483648, 536870912, 1), (0, 0, 0), (0, 0), [])), (4, ((0, 0, 18, 1), (0, 0, 0), (0, 0), [])), (5, ((0, -1, 18, 1), (0, 0, 0), (0, 0), []))], [], []), 5, [(5, 3)]),
  (56, ([(0, ((2, 0, 0, 7), (0, 0, 0), (0, 0), [])), (1, ((0, 0, 11, 1), (0, 0, 0), (0, 0), [])), (2, ((0, 18, 18, 0), (0, 0, 0), (0, 0), [])), (3, ((0, -2147483648, 536870912, 1), (0, 0, 0), (0, 0), [])), (4, ((0, 0, 18, 1), (0, 0, 0), (0, 0), [])), (5, ((0, 0, 18, 1), (0, 0, 0), (0, 0), []))], [], []), 4, [(5, 3)]),
  (62, ([(0, ((2, 0, 0, 7), (0, 0, 0), (0, 0), [])), (1, ((0, 0, 11, 1), (0, 0, 0), (0, 0), [])), (2, ((0, 18, 18, 0), (0, 0, 0), (0, 0), [])), (3, ((0, -2147483648, 536870912, 1), (0, 0, 0), (0, 0), [])), (4, ((0, 0, 18, 1), (0, 0, 0), (0, 0), [])), (5, ((0, -1, -1, 1), (0, 0, 0), (0, 0), []))], [], []), 0, [(5, 0)])]
def bl_X7_leastWith_at_18 : List aB := [(0, vb_X7_leastWith_0, some 17), (17, vb_X7_leastWith_17, some 56), (56, vb_X7_leastWith_56, some 62), (62, vb_X7_leastWith_62, none)]
def cz_X7_leastWith_at_18 : List (Nat × aC) := []
theorem ck_X7_leastWith_at_18 : csOK cz_X7_leastWith_at_18 := trivial
theorem cv_X7_leastWith_at_18 : blOK kd_X7_leastWith bl_X7_leastWith_at_18 := ⟨ve_X7_leastWith_0, ve_X7_leastWith_17, ve_X7_leastWith_56, ve_X7_leastWith_62, trivial⟩
theorem ch_X7_leastWith_at_18 : amchk ta_X7_leastWith_at_18 bl_X7_leastWith_at_18 cz_X7_leastWith_at_18 cc_X7_leastWith_at_18 = true := by decide +kernel
theorem ct_X7_leastWith_at_18 : CtOK cc_X7_leastWith_at_18 := am_ok' (T := ta_X7_leastWith_at_18) (B := bl_X7_leastWith_at_18) (cs := cz_X7_leastWith_at_18) vm_X7_leastWith cv_X7_leastWith_at_18 (by decide +kernel) ch_X7_leastWith_at_18 ck_X7_leastWith_at_18
def cc_X7_leastWith_at_19 : aC := (68, 1, [(2, 0, 0, 7), (0, 0, 11, 1), (0, 19, 19, 0)], some (0, -2147483648, 536870912, 1), [], 0, [], [], [], [])
def ta_X7_leastWith_at_19 : List aL := [(0, ([(0, ((2, 0, 0, 7), (0, 0, 0), (0, 0), [])), (1, ((0, 0, 11, 1), (0, 0, 0), (0, 0), [])), (2, ((0, 19, 19, 0), (0, 0, 0), (0, 0), []))], [], []), 64, [(5, 0)]),
  (17, ([(0, ((2, 0, 0, 7), (0, 0, 0), (0, 0), [])), (1, ((0, 0, 11, 1), (0, 0, 0), (0, 0), [])), (2, ((0, 19, 19, 0), (0, 0, 0), (0, 0), [])), (3, ((0, -2147483648, 536870912, 1), (0, 0, 0), (0, 0), [])), (4, ((0, 0, 19, 1), (0, 0, 0), (0, 0), [])), (5, ((0, -1, 19, 1), (0, 0, 0), (0, 0), []))], [], []), 5, [(5, 3)]),
  (56, ([(0, ((2, 0, 0, 7), (0, 0, 0), (0, 0), [])), (1, ((0, 0, 11, 1), (0, 0, 0), (0, 0), [])), (2, ((0, 19, 19, 0), (0, 0, 0), (0, 0), [])), (3, ((0, -2147483648, 536870912, 1), (0, 0, 0), (0, 0), [])), (4, ((0, 0, 19, 1), (0, 0, 0), (0, 0), [])), (5, ((0, 0, 19, 1), (0, 0, 0), (0, 0), []))], [], []), 4, [(5, 3)]),
  (62, ([(0, ((2, 0, 0, 7), (0, 0, 0), (0, 0), [])), (1, ((0, 0, 11, 1), (0, 0, 0), (0, 0), [])), (2, ((0, 19, 19, 0), (0, 0, 0), (0, 0), [])), (3, ((0, -2147483648, 536870912, 1), (0, 0, 0), (0, 0), [])), (4, ((0, 0, 19, 1), (0, 0, 0), (0, 0), [])), (5, ((0, -1, -1, 1), (0, 0, 0), (0, 0), []))], [], []), 0, [(5, 0)])]
def bl_X7_leastWith_at_19 : List aB := [(0, vb_X7_leastWith_0, some 17), (17, vb_X7_leastWith_17, some 56), (56, vb_X7_leastWith_56, some 62), (62, vb_X7_leastWith_62, none)]
def cz_X7_leastWith_at_19 : List (Nat × aC) := []
theorem ck_X7_leastWith_at_19 : csOK cz_X7_leastWith_at_19 := trivial
theorem cv_X7_leastWith_at_19 : blOK kd_X7_leastWith bl_X7_leastWith_at_19 := ⟨ve_X7_leastWith_0, ve_X7_leastWith_17, ve_X7_leastWith_56, ve_X7_leastWith_62, trivial⟩
theorem ch_X7_leastWith_at_19 : amchk ta_X7_leastWith_at_19 bl_X7_leastWith_at_19 cz_X7_leastWith_at_19 cc_X7_leastWith_at_19 = true := by decide +kernel
theorem ct_X7_leastWith_at_19 : CtOK cc_X7_leastWith_at_19 := am_ok' (T := ta_X7_leastWith_at_19) (B := bl_X7_leastWith_at_19) (cs := cz_X7_leastWith_at_19) vm_X7_leastWith cv_X7_leastWith_at_19 (by decide +kernel) ch_X7_leastWith_at_19 ck_X7_leastWith_at_19
def cc_X7_leastWith_at_2 : aC := (68, 1, [(2, 0, 0, 7), (0, 0, 11, 1), (0, 2, 2, 0)], some (0, -2147483648, 536870912, 1), [], 0, [], [], [], [])
def ta_X7_leastWith_at_2 : List aL := [(0, ([(0, ((2, 0, 0, 7), (0, 0, 0), (0, 0), [])), (1, ((0, 0, 11, 1), (0, 0, 0), (0, 0), [])), (2, ((0, 2, 2, 0), (0, 0, 0), (0, 0), []))], [], []), 13, [(5, 0)]),
  (17, ([(0, ((2, 0, 0, 7), (0, 0, 0), (0, 0), [])), (1, ((0, 0, 11, 1), (0, 0, 0), (0, 0), [])), (2, ((0, 2, 2, 0), (0, 0, 0), (0, 0), [])), (3, ((0, -2147483648, 536870912, 1), (0, 0, 0), (0, 0), [])), (4, ((0, 0, 2, 1), (0, 0, 0), (0, 0), [])), (5, ((0, -1, 2, 1), (0, 0, 0), (0, 0), []))], [], []), 5, [(5, 3)]),
  (56, ([(0, ((2, 0, 0, 7), (0, 0, 0), (0, 0), [])), (1, ((0, 0, 11, 1), (0, 0, 0), (0, 0), [])), (2, ((0, 2, 2, 0), (0, 0, 0), (0, 0), [])), (3, ((0, -2147483648, 536870912, 1), (0, 0, 0), (0, 0), [])), (4, ((0, 0, 2, 1), (0, 0, 0), (0, 0), [])), (5, ((0, 0, 2, 1), (0, 0, 0), (0, 0), []))], [], []), 4, [(5, 3)]),
  (62, ([(0, ((2, 0, 0, 7), (0, 0, 0), (0, 0), [])), (1, ((0, 0, 11, 1), (0, 0, 0), (0, 0), [])), (2, ((0, 2, 2, 0), (0, 0, 0), (0, 0), [])), (3, ((0, -2147483648, 536870912, 1), (0, 0, 0), (0, 0), [])), (4, ((0, 0, 2, 1), (0, 0, 0), (0, 0), [])), (5, ((0, -1, -1, 1), (0, 0, 0), (0, 0), []))], [], []), 0, [(5, 0)])]
def bl_X7_leastWith_at_2 : List aB := [(0, vb_X7_leastWith_0, some 17), (17, vb_X7_leastWith_17, some 56), (56, vb_X7_leastWith_56, some 62), (62, vb_X7_leastWith_62, none)]
def cz_X7_leastWith_at_2 : List (Nat × aC) := []
theorem ck_X7_leastWith_at_2 : csOK cz_X7_leastWith_at_2 := trivial
theorem cv_X7_leastWith_at_2 : blOK kd_X7_leastWith bl_X7_leastWith_at_2 := ⟨ve_X7_leastWith_0, ve_X7_leastWith_17, ve_X7_leastWith_56, ve_X7_leastWith_62, trivial⟩
theorem ch_X7_leastWith_at_2 : amchk ta_X7_leastWith_at_2 bl_X7_leastWith_at_2 cz_X7_leastWith_at_2 cc_X7_leastWith_at_2 = true := by decide +kernel
theorem ct_X7_leastWith_at_2 : CtOK cc_X7_leastWith_at_2 := am_ok' (T := ta_X7_leastWith_at_2) (B := bl_X7_leastWith_at_2) (cs := cz_X7_leastWith_at_2) vm_X7_leastWith cv_X7_leastWith_at_2 (by decide +kernel) ch_X7_leastWith_at_2 ck_X7_leastWith_at_2
def cc_X7_leastWith_at_20 : aC := (68, 1, [(2, 0, 0, 7), (0, 0, 11, 1), (0, 20, 20, 0)], some (0, -2147483648, 536870912, 1), [], 0, [], [], [], [])
def ta_X7_leastWith_at_20 : List aL := [(0, ([(0, ((2, 0, 0, 7), (0, 0, 0), (0, 0), [])), (1, ((0, 0, 11, 1), (0, 0, 0), (0, 0), [])), (2, ((0, 20, 20, 0), (0, 0, 0), (0, 0), []))], [], []), 67, [(5, 0)]),
  (17, ([(0, ((2, 0, 0, 7), (0, 0, 0), (0, 0), [])), (1, ((0, 0, 11, 1), (0, 0, 0), (0, 0), [])), (2, ((0, 20, 20, 0), (0, 0, 0), (0, 0), [])), (3, ((0, -2147483648, 536870912, 1), (0, 0, 0), (0, 0), [])), (4, ((0, 0, 20, 1), (0, 0, 0), (0, 0), [])), (5, ((0, -1, 20, 1), (0, 0, 0), (0, 0), []))], [], []), 5, [(5, 3)]),
  (56, ([(0, ((2, 0, 0, 7), (0, 0, 0), (0, 0), [])), (1, ((0, 0, 11, 1), (0, 0, 0), (0, 0), [])), (2, ((0, 20, 20, 0), (0, 0, 0), (0, 0), [])), (3, ((0, -2147483648, 536870912, 1), (0, 0, 0), (0, 0), [])), (4, ((0, 0, 20, 1), (0, 0, 0), (0, 0), [])), (5, ((0, 0, 20, 1), (0, 0, 0), (0, 0), []))], [], []), 4, [(5, 3)]),
  (62, ([(0, ((2, 0, 0, 7), (0, 0, 0), (0, 0), [])), (1, ((0, 0, 11, 1), (0, 0, 0), (0, 0), [])), (2, ((0, 20, 20, 0), (0, 0, 0), (0, 0), [])), (3, ((0, -2147483648, 536870912, 1), (0, 0, 0), (0, 0), [])), (4, ((0, 0, 20, 1), (0, 0, 0), (0, 0), [])), (5, ((0, -1, -1, 1), (0, 0, 0), (0, 0), []))], [], []), 0, [(5, 0)])]
def bl_X7_leastWith_at_20 : List aB := [(0, vb_X7_leastWith_0, some 17), (17, vb_X7_leastWith_17, some 56), (56, vb_X7_leastWith_56, some 62), (62, vb_X7_leastWith_62, none)]
def cz_X7_leastWith_at_20 : List (Nat × aC) := []
theorem ck_X7_leastWith_at_20 : csOK cz_X7_leastWith_at_20 := trivial
theorem cv_X7_leastWith_at_20 : blOK kd_X7_leastWith bl_X7_leastWith_at_20 := ⟨ve_X7_leastWith_0, ve_X7_leastWith_17, ve_X7_leastWith_56, ve_X7_leastWith_62, trivial⟩
theorem ch_X7_leastWith_at_20 : amchk ta_X7_leastWith_at_20 bl_X7_leastWith_at_20 cz_X7_leastWith_at_20 cc_X7_leastWith_at_20 = true := by decide +kernel
theorem ct_X7_leastWith_at_20 : CtOK cc_X7_leastWith_at_20 := am_ok' (T := ta_X7_leastWith_at_20) (B := bl_X7_leastWith_at_20) (cs := cz_X7_leastWith_at_20) vm_X7_leastWith cv_X7_leastWith_at_20 (by decide +kernel) ch_X7_leastWith_at_20 ck_X7_leastWith_at_20
def cc_X7_leastWith_at_21 : aC := (68, 1, [(2, 0, 0, 7), (0, 0, 11, 1), (0, 21, 21, 0)], some (0, -2147483648, 536870912, 1), [], 0, [], [], [], [])
def ta_X7_leastWith_at_21 : List aL := [(0, ([(0, ((2, 0, 0, 7), (0, 0, 0), (0, 0), [])), (1, ((0, 0, 11, 1), (0, 0, 0), (0, 0), [])), (2, ((0, 21, 21, 0), (0, 0, 0), (0, 0), []))], [], []), 70, [(5, 0)]),
  (17, ([(0, ((2, 0, 0, 7), (0, 0, 0), (0, 0), [])), (1, ((0, 0, 11, 1), (0, 0, 0), (0, 0), [])), (2, ((0, 21, 21, 0), (0, 0, 0), (0, 0), [])), (3, ((0, -2147483648, 536870912, 1), (0, 0, 0), (0, 0), [])), (4, ((0, 0, 21, 1), (0, 0, 0), (0, 0), [])), (5, ((0, -1, 21, 1), (0, 0, 0), (0, 0), []))], [], []), 5, [(5, 3)]),
  (56, ([(0, ((2, 0, 0, 7), (0, 0, 0), (0, 0), [])), (1, ((0, 0, 11, 1), (0, 0, 0), (0, 0), [])), (2, ((0, 21, 21, 0), (0, 0, 0), (0, 0), [])), (3, ((0, -2147483648, 536870912, 1), (0, 0, 0), (0, 0), [])), (4, ((0, 0, 21, 1), (0, 0, 0), (0, 0), [])), (5, ((0, 0, 21, 1), (0, 0, 0), (0, 0), []))], [], []), 4, [(5, 3)]),
  (62, ([(0, ((2, 0, 0, 7), (0, 0, 0), (0, 0), [])), (1, ((0, 0, 11, 1), (0, 0, 0), (0, 0), [])), (2, ((0, 21, 21, 0), (0, 0, 0), (0, 0), [])), (3, ((0, -2147483648, 536870912, 1), (0, 0, 0), (0, 0), [])), (4, ((0, 0, 21, 1), (0, 0, 0), (0, 0), [])), (5, ((0, -1, -1, 1), (0, 0, 0), (0, 0), []))], [], []), 0, [(5, 0)])]
def bl_X7_leastWith_at_21 : List aB := [(0, vb_X7_leastWith_0, some 17), (17, vb_X7_leastWith_17, some 56), (56, vb_X7_leastWith_56, some 62), (62, vb_X7_leastWith_62, none)]
def cz_X7_leastWith_at_21 : List (Nat × aC) := []
theorem ck_X7_leastWith_at_21 : csOK cz_X7_leastWith_at_21 := trivial
theorem cv_X7_leastWith_at_21 : blOK kd_X7_leastWith bl_X7_leastWith_at_21 := ⟨ve_X7_leastWith_0, ve_X7_leastWith_17, ve_X7_leastWith_56, ve_X7_leastWith_62, trivial⟩
theorem ch_X7_leastWith_at_21 : amchk ta_X7_leastWith_at_21 bl_X7_leastWith_at_21 cz_X7_leastWith_at_21 cc_X7_leastWith_at_21 = true := by decide +kernel
theorem ct_X7_leastWith_at_21 : CtOK cc_X7_leastWith_at_21 := am_ok' (T := ta_X7_leastWith_at_21) (B := bl_X7_leastWith_at_21) (cs := cz_X7_leastWith_at_21) vm_X7_leastWith cv_X7_leastWith_at_21 (by decide +kernel) ch_X7_leastWith_at_21 ck_X7_leastWith_at_21
def cc_X7_leastWith_at_22 : aC := (68, 1, [(2, 0, 0, 7), (0, 0, 11, 1), (0, 22, 22, 0)], some (0, -2147483648, 536870912, 1), [], 0, [], [], [], [])
def ta_X7_leastWith_at_22 : List aL := [(0, ([(0, ((2, 0, 0, 7), (0, 0, 0), (0, 0), [])), (1, ((0, 0, 11, 1), (0, 0, 0), (0, 0), [])), (2, ((0, 22, 22, 0), (0, 0, 0), (0, 0), []))], [], []), 73, [(5, 0)]),
  (17, ([(0, ((2, 0, 0, 7), (0, 0, 0), (0, 0), [])), (1, ((0, 0, 11, 1), (0, 0, 0), (0, 0), [])), (2, ((0, 22, 22, 0), (0, 0, 0), (0, 0), [])), (3, ((0, -2147483648, 536870912, 1), (0, 0, 0), (0, 0), [])), (4, ((0, 0, 22, 1), (0, 0, 0), (0, 0), [])), (5, ((0, -1, 22, 1), (0, 0, 0), (0, 0), []))], [], []), 5, [(5, 3)]),
  (56, ([(0, ((2, 0, 0, 7), (0, 0, 0), (0, 0), [])), (1, ((0, 0, 11, 1), (0, 0, 0), (0, 0), [])), (2, ((0, 22, 22, 0), (0, 0, 0), (0, 0), [])), (3, ((0, -2147483648, 536870912, 1), (0, 0, 0), (0, 0), [])), (4, ((0, 0, 22, 1), (0, 0, 0), (0, 0), [])), (5, ((0, 0, 22, 1), (0, 0, 0), (0, 0), []))], [], []), 4, [(5, 3)]),
  (62, ([(0, ((2, 0, 0, 7), (0, 0, 0), (0, 0), [])), (1, ((0, 0, 11, 1), (0, 0, 0), (0, 0), [])), (2, ((0, 22, 22, 0), (0, 0, 0), (0, 0), [])), (3, ((0, -2147483648, 536870912, 1), (0, 0, 0), (0, 0), [])), (4, ((0, 0, 22, 1), (0, 0, 0), (0, 0), [])), (5, ((0, -1, -1, 1), (0, 0, 0), (0, 0), []))], [], []), 0, [(5, 0)])]
def bl_X7_leastWith_at_22 : List aB := [(0, vb_X7_leastWith_0, some 17), (17, vb_X7_leastWith_17, some 56), (56, vb_X7_leastWith_56, some 62), (62, vb_X7_leastWith_62, none)]
def cz_X7_leastWith_at_22 : List (Nat × aC) := []
theorem ck_X7_leastWith_at_22 : csOK cz_X7_leastWith_at_22 := trivial
theorem cv_X7_leastWith_at_22 : blOK kd_X7_leastWith bl_X7_leastWith_at_22 := ⟨ve_X7_leastWith_0, ve_X7_leastWith_17, ve_X7_leastWith_56, ve_X7_leastWith_62, trivial⟩
theorem ch_X7_leastWith_at_22 : amchk ta_X7_leastWith_at_22 bl_X7_leastWith_at_22 cz_X7_leastWith_at_22 cc_X7_leastWith_at_22 = true := by decide +kernel
theorem ct_X7_leastWith_at_22 : CtOK cc_X7_leastWith_at_22 := am_ok' (T := ta_X7_leastWith_at_22) (B := bl_X7_leastWith_at_22) (cs := cz_X7_leastWith_at_22) vm_X7_leastWith cv_X7_leastWith_at_22 (by decide +kernel) ch_X7_leastWith_at_22 ck_X7_leastWith_at_22
def cc_X7_leastWith_at_23 : aC := (68, 1, [(2, 0, 0, 7), (0, 0, 11, 1), (0, 23, 23, 0)], some (0, -2147483648, 536870912, 1), [], 0, [], [], [], [])
def ta_X7_leastWith_at_23 : List aL := [(0, ([(0, ((2, 0, 0, 7), (0, 0, 0), (0, 0), [])), (1, ((0, 0, 11, 1), (0, 0, 0), (0, 0), [])), (2, ((0, 23, 23, 0), (0, 0, 0), (0, 0), []))], [], []), 76, [(5, 0)]),
  (17, ([(0, ((2, 0, 0, 7), (0, 0, 0), (0, 0), [])), (1, ((0, 0, 11, 1), (0, 0, 0), (0, 0), [])), (2, ((0, 23, 23, 0), (0, 0, 0), (0, 0), [])), (3, ((0, -2147483648, 536870912, 1), (0, 0, 0), (0, 0), [])), (4, ((0, 0, 23, 1), (0, 0, 0), (0, 0), [])), (5, ((0, -1, 23, 1), (0, 0, 0), (0, 0), []))], [], []), 5, [(5, 3)]),
  (56, ([(0, ((2, 0, 0, 7), (0, 0, 0), (0, 0), [])), (1, ((0, 0, 11, 1), (0, 0, 0), (0, 0), [])), (2, ((0, 23, 23, 0), (0, 0, 0), (0, 0), [])), (3, ((0, -2147483648, 536870912, 1), (0, 0, 0), (0, 0), [])), (4, ((0, 0, 23, 1), (0, 0, 0), (0, 0), [])), (5, ((0, 0, 23, 1), (0, 0, 0), (0, 0), []))], [], []), 4, [(5, 3)]),
  (62, ([(0, ((2, 0, 0, 7), (0, 0, 0), (0, 0), [])), (1, ((0, 0, 11, 1), (0, 0, 0), (0, 0), [])), (2, ((0, 23, 23, 0), (0, 0, 0), (0, 0), [])), (3, ((0, -2147483648, 536870912, 1), (0, 0, 0), (0, 0), [])), (4, ((0, 0, 23, 1), (0, 0, 0), (0, 0), [])), (5, ((0, -1, -1, 1), (0, 0, 0), (0, 0), []))], [], []), 0, [(5, 0)])]
def bl_X7_leastWith_at_23 : List aB := [(0, vb_X7_leastWith_0, some 17), (17, vb_X7_leastWith_17, some 56), (56, vb_X7_leastWith_56, some 62), (62, vb_X7_leastWith_62, none)]
def cz_X7_leastWith_at_23 : List (Nat × aC) := []
theorem ck_X7_leastWith_at_23 : csOK cz_X7_leastWith_at_23 := trivial
theorem cv_X7_leastWith_at_23 : blOK kd_X7_leastWith bl_X7_leastWith_at_23 := ⟨ve_X7_leastWith_0, ve_X7_leastWith_17, ve_X7_leastWith_56, ve_X7_leastWith_62, trivial⟩
theorem ch_X7_leastWith_at_23 : amchk ta_X7_leastWith_at_23 bl_X7_leastWith_at_23 cz_X7_leastWith_at_23 cc_X7_leastWith_at_23 = true := by decide +kernel
theorem ct_X7_leastWith_at_23 : CtOK cc_X7_leastWith_at_23 := am_ok' (T := ta_X7_leastWith_at_23) (B := bl_X7_leastWith_at_23) (cs := cz_X7_leastWith_at_23) vm_X7_leastWith cv_X7_leastWith_at_23 (by decide +kernel) ch_X7_leastWith_at_23 ck_X7_leastWith_at_23
def cc_X7_leastWith_at_24 : aC := (68, 1, [(2, 0, 0, 7), (0, 0, 11, 1), (0, 24, 24, 0)], some (0, -2147483648, 536870912, 1), [], 0, [], [], [], [])
def ta_X7_leastWith_at_24 : List aL := [(0, ([(0, ((2, 0, 0, 7), (0, 0, 0), (0, 0), [])), (1, ((0, 0, 11, 1), (0, 0, 0), (0, 0), [])), (2, ((0, 24, 24, 0), (0, 0, 0), (0, 0), []))], [], []), 79, [(5, 0)]),
  (17, ([(0, ((2, 0, 0, 7), (0, 0, 0), (0, 0), [])), (1, ((0, 0, 11, 1), (0, 0, 0), (0, 0), [])), (2, ((0, 24, 24, 0), (0, 0, 0), (0, 0), [])), (3, ((0, -2147483648, 536870912, 1), (0, 0, 0), (0, 0), [])), (4, ((0, 0, 24, 1), (0, 0, 0), (0, 0), [])), (5, ((0, -1, 24, 1), (0, 0, 0), (0, 0), []))], [], []), 5, [(5, 3)]),
  (56, ([(0, ((2, 0, 0, 7), (0, 0, 0), (0, 0), [])), (1, ((0, 0, 11, 1), (0, 0, 0), (0, 0), [])), (2, ((0, 24, 24, 0), (0, 0, 0), (0, 0), [])), (3, ((0, -2147483648, 536870912, 1), (0, 0, 0), (0, 0), [])), (4, ((0, 0, 24, 1), (0, 0, 0), (0, 0), [])), (5, ((0, 0, 24, 1), (0, 0, 0), (0, 0), []))], [], []), 4, [(5, 3)]),
  (62, ([(0, ((2, 0, 0, 7), (0, 0, 0), (0, 0), [])), (1, ((0, 0, 11, 1), (0, 0, 0), (0, 0), [])), (2, ((0, 24, 24, 0), (0, 0, 0), (0, 0), [])), (3, ((0, -2147483648, 536870912, 1), (0, 0, 0), (0, 0), [])), (4, ((0, 0, 24, 1), (0, 0, 0), (0, 0), [])), (5, ((0, -1, -1, 1), (0, 0, 0), (0, 0), []))], [], []), 0, [(5, 0)])]
def bl_X7_leastWith_at_24 : List aB := [(0, vb_X7_leastWith_0, some 17), (17, vb_X7_leastWith_17, some 56), (56, vb_X7_leastWith_56, some 62), (62, vb_X7_leastWith_62, none)]
def cz_X7_leastWith_at_24 : List (Nat × aC) := []
theorem ck_X7_leastWith_at_24 : csOK cz_X7_leastWith_at_24 := trivial
theorem cv_X7_leastWith_at_24 : blOK kd_X7_leastWith bl_X7_leastWith_at_24 := ⟨ve_X7_leastWith_0, ve_X7_leastWith_17, ve_X7_leastWith_56, ve_X7_leastWith_62, trivial⟩
theorem ch_X7_leastWith_at_24 : amchk ta_X7_leastWith_at_24 bl_X7_leastWith_at_24 cz_X7_leastWith_at_24 cc_X7_leastWith_at_24 = true := by decide +kernel
theorem ct_X7_leastWith_at_24 : CtOK cc_X7_leastWith_at_24 := am_ok' (T := ta_X7_leastWith_at_24) (B := bl_X7_leastWith_at_24) (cs := cz_X7_leastWith_at_24) vm_X7_leastWith cv_X7_leastWith_at_24 (by decide +kernel) ch_X7_leastWith_at_24 ck_X7_leastWith_at_24
def cc_X7_leastWith_at_25 : aC := (68, 1, [(2, 0, 0, 7), (0, 0, 11, 1), (0, 25, 25, 0)], some (0, -2147483648, 536870912, 1), [], 0, [], [], [], [])
def ta_X7_leastWith_at_25 : List aL := [(0, ([(0, ((2, 0, 0, 7), (0, 0, 0), (0, 0), [])), (1, ((0, 0, 11, 1), (0, 0, 0), (0, 0), [])), (2, ((0, 25, 25, 0), (0, 0, 0), (0, 0), []))], [], []), 82, [(5, 0)]),
  (17, ([(0, ((2, 0, 0, 7), (0, 0, 0), (0, 0), [])), (1, ((0, 0, 11, 1), (0, 0, 0), (0, 0), [])), (2, ((0, 25, 25, 0), (0, 0, 0), (0, 0), [])), (3, ((0, -2147483648, 536870912, 1), (0, 0, 0), (0, 0), [])), (4, ((0, 0, 25, 1), (0, 0, 0), (0, 0), [])), (5, ((0, -1, 25, 1), (0, 0, 0), (0, 0), []))], [], []), 5, [(5, 3)]),
  (56, ([(0, ((2, 0, 0, 7), (0, 0, 0), (0, 0), [])), (1, ((0, 0, 11, 1), (0, 0, 0), (0, 0), [])), (2, ((0, 25, 25, 0), (0, 0, 0), (0, 0), [])), (3, ((0, -2147483648, 536870912, 1), (0, 0, 0), (0, 0), [])), (4, ((0, 0, 25, 1), (0, 0, 0), (0, 0), [])), (5, ((0, 0, 25, 1), (0, 0, 0), (0, 0), []))], [], []), 4, [(5, 3)]),
  (62, ([(0, ((2, 0, 0, 7), (0, 0, 0), (0, 0), [])), (1, ((0, 0, 11, 1), (0, 0, 0), (0, 0), [])), (2, ((0, 25, 25, 0), (0, 0, 0), (0, 0), [])), (3, ((0, -2147483648, 536870912, 1), (0, 0, 0), (0, 0), [])), (4, ((0, 0, 25, 1), (0, 0, 0), (0, 0), [])), (5, ((0, -1, -1, 1), (0, 0, 0), (0, 0), []))], [], []), 0, [(5, 0)])]
def bl_X7_leastWith_at_25 : List aB := [(0, vb_X7_leastWith_0, some 17), (17, vb_X7_leastWith_17, some 56), (56, vb_X7_leastWith_56, some 62), (62, vb_X7_leastWith_62, none)]
def cz_X7_leastWith_at_25 : List (Nat × aC) := []
theorem ck_X7_leastWith_at_25 : csOK cz_X7_leastWith_at_25 := trivial
theorem cv_X7_leastWith_at_25 : blOK kd_X7_leastWith bl_X7_leastWith_at_25 := ⟨ve_X7_leastWith_0, ve_X7_leastWith_17, ve_X7_leastWith_56, ve_X7_leastWith_62, trivial⟩
theorem ch_X7_leastWith_at_25 : amchk ta_X7_leastWith_at_25 bl_X7_leastWith_at_25 cz_X7_leastWith_at_25 cc_X7_leastWith_at_25 = true := by decide +kernel
theorem ct_X7_leastWith_at_25 : CtOK cc_X7_leastWith_at_25 := am_ok' (T := ta_X7_leastWith_at_25) (B := bl_X7_leastWith_at_25) (cs := cz_X7_leastWith_at_25) vm_X7_leastWith cv_X7_leastWith_at_25 (by decide +kernel) ch_X7_leastWith_at_25 ck_X7_leastWith_at_25
def cc_X7_leastWith_at_26 : aC := (68, 1, [(2, 0, 0, 7), (0, 0, 11, 1), (0, 26, 26, 0)], some (0, -2147483648, 536870912, 1), [], 0, [], [], [], [])
def ta_X7_leastWith_at_26 : List aL := [(0, ([(0, ((2, 0, 0, 7), (0, 0, 0), (0, 0), [])), (1, ((0, 0, 11, 1), (0, 0, 0), (0, 0), [])), (2, ((0, 26, 26, 0), (0, 0, 0), (0, 0), []))], [], []), 85, [(5, 0)]),
  (17, ([(0, ((2, 0, 0, 7), (0, 0, 0), (0, 0), [])), (1, ((0, 0, 11, 1), (0, 0, 0), (0, 0), [])), (2, ((0, 26, 26, 0), (0, 0, 0), (0, 0), [])), (3, ((0, -2147483648, 536870912, 1), (0, 0, 0), (0, 0), [])), (4, ((0, 0, 26, 1), (0, 0, 0), (0, 0), [])), (5, ((0, -1, 26, 1), (0, 0, 0), (0, 0), []))], [], []), 5, [(5, 3)]),
  (56, ([(0, ((2, 0, 0, 7), (0, 0, 0), (0, 0), [])), (1, ((0, 0, 11, 1), (0, 0, 0), (0, 0), [])), (2, ((0, 26, 26, 0), (0, 0, 0), (0, 0), [])), (3, ((0, -2147483648, 536870912, 1), (0, 0, 0), (0, 0), [])), (4, ((0, 0, 26, 1), (0, 0, 0), (0, 0), [])), (5, ((0, 0, 26, 1), (0, 0, 0), (0, 0), []))], [], []), 4, [(5, 3)]),
  (62, ([(0, ((2, 0, 0, 7), (0, 0, 0), (0, 0), [])), (1, ((0, 0, 11, 1), (0, 0, 0), (0, 0), [])), (2, ((0, 26, 26, 0), (0, 0, 0), (0, 0), [])), (3, ((0, -2147483648, 536870912, 1), (0, 0, 0), (0, 0), [])), (4, ((0, 0, 26, 1), (0, 0, 0), (0, 0), [])), (5, ((0, -1, -1, 1), (0, 0, 0), (0, 0), []))], [], []), 0, [(5, 0)])]
def bl_X7_leastWith_at_26 : List aB := [(0, vb_X7_leastWith_0, some 17), (17, vb_X7_leastWith_17, some 56), (56, vb_X7_leastWith_56, some 62), (62, vb_X7_leastWith_62, none)]
def cz_X7_leastWith_at_26 : List (Nat × aC) := []
theorem ck_X7_leastWith_at_26 : csOK cz_X7_leastWith_at_26 := trivial
theorem cv_X7_leastWith_at_26 : blOK kd_X7_leastWith bl_X7_leastWith_at_26 := ⟨ve_X7_leastWith_0, ve_X7_leastWith_17, ve_X7_leastWith_56, ve_X7_leastWith_62, trivial⟩
theorem ch_X7_leastWith_at_26 : amchk ta_X7_leastWith_at_26 bl_X7_leastWith_at_26 cz_X7_leastWith_at_26 cc_X7_leastWith_at_26 = true := by decide +kernel
theorem ct_X7_leastWith_at_26 : CtOK cc_X7_leastWith_at_26 := am_ok' (T := ta_X7_leastWith_at_26) (B := bl_X7_leastWith_at_26) (cs := cz_X7_leastWith_at_26) vm_X7_leastWith cv_X7_leastWith_at_26 (by decide +kernel) ch_X7_leastWith_at_26 ck_X7_leastWith_at_26
def cc_X7_leastWith_at_27 : aC := (68, 1, [(2, 0, 0, 7), (0, 0, 11, 1), (0, 27, 27, 0)], some (0, -2147483648, 536870912, 1), [], 0, [], [], [], [])
def ta_X7_leastWith_at_27 : List aL := [(0, ([(0, ((2, 0, 0, 7), (0, 0, 0), (0, 0), [])), (1, ((0, 0, 11, 1), (0, 0, 0), (0, 0), [])), (2, ((0, 27, 27, 0), (0, 0, 0), (0, 0), []))], [], []), 88, [(5, 0)]),
  (17, ([(0, ((2, 0, 0, 7), (0, 0, 0), (0, 0), [])), (1, ((0, 0, 11, 1), (0, 0, 0), (0, 0), [])), (2, ((0, 27, 27, 0), (0, 0, 0), (0, 0), [])), (3, ((0, -2147483648, 536870912, 1), (0, 0, 0), (0, 0), [])), (4, ((0, 0, 27, 1), (0, 0, 0), (0, 0), [])), (5, ((0, -1, 27, 1), (0, 0, 0), (0, 0), []))], [], []), 5, [(5, 3)]),
  (56, ([(0, ((2, 0, 0, 7), (0, 0, 0), (0, 0), [])), (1, ((0, 0, 11, 1), (0, 0, 0), (0, 0), [])), (2, ((0, 27, 27, 0), (0, 0, 0), (0, 0), [])), (3, ((0, -2147483648, 536870912, 1), (0, 0, 0), (0, 0), [])), (4, ((0, 0, 27, 1), (0, 0, 0), (0, 0), [])), (5, ((0, 0, 27, 1), (0, 0, 0), (0, 0), []))], [], []), 4, [(5, 3)]),
  (62, ([(0, ((2, 0, 0, 7), (0, 0, 0), (0, 0), [])), (1, ((0, 0, 11, 1), (0, 0, 0), (0, 0), [])), (2, ((0, 27, 27, 0), (0, 0, 0), (0, 0), [])), (3, ((0, -2147483648, 536870912, 1), (0, 0, 0), (0, 0), [])), (4, ((0, 0, 27, 1), (0, 0, 0), (0, 0), [])), (5, ((0, -1, -1, 1), (0, 0, 0), (0, 0), []))], [], []), 0, [(5, 0)])]
def bl_X7_leastWith_at_27 : List aB := [(0, vb_X7_leastWith_0, some 17), (17, vb_X7_leastWith_17, some 56), (56, vb_X7_leastWith_56, some 62), (62, vb_X7_leastWith_62, none)]
def cz_X7_leastWith_at_27 : List (Nat × aC) := []
theorem ck_X7_leastWith_at_27 : csOK cz_X7_leastWith_at_27 := trivial
theorem cv_X7_leastWith_at_27 : blOK kd_X7_leastWith bl_X7_leastWith_at_27 := ⟨ve_X7_leastWith_0, ve_X7_leastWith_17, ve_X7_leastWith_56, ve_X7_leastWith_62, trivial⟩
theorem ch_X7_leastWith_at_27 : amchk ta_X7_leastWith_at_27 bl_X7_leastWith_at_27 cz_X7_leastWith_at_27 cc_X7_leastWith_at_27 = true := by decide +kernel
theorem ct_X7_leastWith_at_27 : CtOK cc_X7_leastWith_at_27 := am_ok' (T := ta_X7_leastWith_at_27) (B := bl_X7_leastWith_at_27) (cs := cz_X7_leastWith_at_27) vm_X7_leastWith cv_X7_leastWith_at_27 (by decide +kernel) ch_X7_leastWith_at_27 ck_X7_leastWith_at_27
def cc_X7_leastWith_at_28 : aC := (68, 1, [(2, 0, 0, 7), (0, 0, 11, 1), (0, 28, 28, 0)], some (0, -2147483648, 536870912, 1), [], 0, [], [], [], [])
def ta_X7_leastWith_at_28 : List aL := [(0, ([(0, ((2, 0, 0, 7), (0, 0, 0), (0, 0), [])), (1, ((0, 0, 11, 1), (0, 0, 0), (0, 0), [])), (2, ((0, 28, 28, 0), (0, 0, 0), (0, 0), []))], [], []), 91, [(5, 0)]),
  (17, ([(0, ((2, 0, 0, 7), (0, 0, 0), (0, 0), [])), (1, ((0, 0, 11, 1), (0, 0, 0), (0, 0), [])), (2, ((0, 28, 28, 0), (0, 0, 0), (0, 0), [])), (3, ((0, -2147483648, 536870912, 1), (0, 0, 0), (0, 0), [])), (4, ((0, 0, 28, 1), (0, 0, 0), (0, 0), [])), (5, ((0, -1, 28, 1), (0, 0, 0), (0, 0), []))], [], []), 5, [(5, 3)]),
  (56, ([(0, ((2, 0, 0, 7), (0, 0, 0), (0, 0), [])), (1, ((0, 0, 11, 1), (0, 0, 0), (0, 0), [])), (2, ((0, 28, 28, 0), (0, 0, 0), (0, 0), [])), (3, ((0, -2147483648, 536870912, 1), (0, 0, 0), (0, 0), [])), (4, ((0, 0, 28, 1), (0, 0, 0), (0, 0), [])), (5, ((0, 0, 28, 1), (0, 0, 0), (0, 0), []))], [], []), 4, [(5, 3)]),
  (62, ([(0, ((2, 0, 0, 7), (0, 0, 0), (0, 0), [])), (1, ((0, 0, 11, 1), (0, 0, 0), (0, 0), [])), (2, ((0, 28, 28, 0), (0, 0, 0), (0, 0), [])), (3, ((0, -2147483648, 536870912, 1), (0, 0, 0), (0, 0), [])), (4, ((0, 0, 28, 1), (0, 0, 0), (0, 0), [])), (5, ((0, -1, -1, 1), (0, 0, 0), (0, 0), []))], [], []), 0, [(5, 0)])]
def bl_X7_leastWith_at_28 : List aB := [(0, vb_X7_leastWith_0, some 17), (17, vb_X7_leastWith_17, some 56), (56, vb_X7_leastWith_56, some 62), (62, vb_X7_leastWith_62, none)]
def cz_X7_leastWith_at_28 : List (Nat × aC) := []
theorem ck_X7_leastWith_at_28 : csOK cz_X7_leastWith_at_28 := trivial
theorem cv_X7_leastWith_at_28 : blOK kd_X7_leastWith bl_X7_leastWith_at_28 := ⟨ve_X7_leastWith_0, ve_X7_leastWith_17, ve_X7_leastWith_56, ve_X7_leastWith_62, trivial⟩
theorem ch_X7_leastWith_at_28 : amchk ta_X7_leastWith_at_28 bl_X7_leastWith_at_28 cz_X7_leastWith_at_28 cc_X7_leastWith_at_28 = true := by decide +kernel
theorem ct_X7_leastWith_at_28 : CtOK cc_X7_leastWith_at_28 := am_ok' (T := ta_X7_leastWith_at_28) (B := bl_X7_leastWith_at_28) (cs := cz_X7_leastWith_at_28) vm_X7_leastWith cv_X7_leastWith_at_28 (by decide +kernel) ch_X7_leastWith_at_28 ck_X7_leastWith_at_28
def cc_X7_leastWith_at_29 : aC := (68, 1, [(2, 0, 0, 7), (0, 0, 11, 1), (0, 29, 29, 0)], some (0, -2147483648, 536870912, 1), [], 0, [], [], [], [])
def ta_X7_leastWith_at_29 : List aL := [(0, ([(0, ((2, 0, 0, 7), (0, 0, 0), (0, 0), [])), (1, ((0, 0, 11, 1), (0, 0, 0), (0, 0), [])), (2, ((0, 29, 29, 0), (0, 0, 0), (0, 0), []))], [], []), 94, [(5, 0)]),
  (17, ([(0, ((2, 0, 0, 7), (0, 0, 0), (0, 0), [])), (1, ((0, 0, 11, 1), (0, 0, 0), (0, 0), [])), (2, ((0, 29, 29, 0), (0, 0, 0), (0, 0), [])), (3, ((0, -2147483648, 536870912, 1), (0, 0, 0), (0, 0), [])), (4, ((0, 0, 29, 1), (0, 0, 0), (0, 0), [])), (5, ((0, -1, 29, 1), (0, 0, 0), (0, 0), []))], [], []), 5, [(5, 3)]),
  (56, ([(0, ((2, 0, 0, 7), (0, 0, 0), (0, 0), [])), (1, ((0, 0, 11, 1), (0, 0, 0), (0, 0), [])), (2, ((0, 29, 29, 0), (0, 0, 0), (0, 0), [])), (3, ((0, -2147483648, 536870912, 1), (0, 0, 0), (0, 0), [])), (4, ((0, 0, 29, 1), (0, 0, 0), (0, 0), [])), (5, ((0, 0, 29, 1), (0, 0, 0), (0, 0), []))], [], []), 4, [(5, 3)]),
  (62, ([(0, ((2, 0, 0, 7), (0, 0, 0), (0, 0), [])), (1, ((0, 0, 11, 1), (0, 0, 0), (0, 0), [])), (2, ((0, 29, 29, 0), (0, 0, 0), (0, 0), [])), (3, ((0, -2147483648, 536870912, 1), (0, 0, 0), (0, 0), [])), (4, ((0, 0, 29, 1), (0, 0, 0), (0, 0), [])), (5, ((0, -1, -1, 1), (0, 0, 0), (0, 0), []))], [], []), 0, [(5, 0)])]
def bl_X7_leastWith_at_29 : List aB := [(0, vb_X7_leastWith_0, some 17), (17, vb_X7_leastWith_17, some 56), (56, vb_X7_leastWith_56, some 62), (62, vb_X7_leastWith_62, none)]
def cz_X7_leastWith_at_29 : List (Nat × aC) := []
theorem ck_X7_leastWith_at_29 : csOK cz_X7_leastWith_at_29 := trivial
theorem cv_X7_leastWith_at_29 : blOK kd_X7_leastWith bl_X7_leastWith_at_29 := ⟨ve_X7_leastWith_0, ve_X7_leastWith_17, ve_X7_leastWith_56, ve_X7_leastWith_62, trivial⟩
theorem ch_X7_leastWith_at_29 : amchk ta_X7_leastWith_at_29 bl_X7_leastWith_at_29 cz_X7_leastWith_at_29 cc_X7_leastWith_at_29 = true := by decide +kernel
theorem ct_X7_leastWith_at_29 : CtOK cc_X7_leastWith_at_29 := am_ok' (T := ta_X7_leastWith_at_29) (B := bl_X7_leastWith_at_29) (cs := cz_X7_leastWith_at_29) vm_X7_leastWith cv_X7_leastWith_at_29 (by decide +kernel) ch_X7_leastWith_at_29 ck_X7_leastWith_at_29
def cc_X7_leastWith_at_3 : aC := (68, 1, [(2, 0, 0, 7), (0, 0, 11, 1), (0, 3, 3, 0)], some (0, -2147483648, 536870912, 1), [], 0, [], [], [], [])
def ta_X7_leastWith_at_3 : List aL := [(0, ([(0, ((2, 0, 0, 7), (0, 0, 0), (0, 0), [])), (1, ((0, 0, 11, 1), (0, 0, 0), (0, 0), [])), (2, ((0, 3, 3, 0), (0, 0, 0), (0, 0), []))], [], []), 16, [(5, 0)]),
  (17, ([(0, ((2, 0, 0, 7), (0, 0, 0), (0, 0), [])), (1, ((0, 0, 11, 1), (0, 0, 0), (0, 0), [])), (2, ((0, 3, 3, 0), (0, 0, 0), (0, 0), [])), (3, ((0, -2147483648, 536870912, 1), (0, 0, 0), (0, 0), [])), (4, ((0, 0, 3, 1), (0, 0, 0), (0, 0), [])), (5, ((0, -1, 3, 1), (0, 0, 0), (0, 0), []))], [], []), 5, [(5, 3)]),
  (56, ([(0, ((2, 0, 0, 7), (0, 0, 0), (0, 0), [])), (1, ((0, 0, 11, 1), (0, 0, 0), (0, 0), [])), (2, ((0, 3, 3, 0), (0, 0, 0), (0, 0), [])), (3, ((0, -2147483648, 536870912, 1), (0, 0, 0), (0, 0), [])), (4, ((0, 0, 3, 1), (0, 0, 0), (0, 0), [])), (5, ((0, 0, 3, 1), (0, 0, 0), (0, 0), []))], [], []), 4, [(5, 3)]),
  (62, ([(0, ((2, 0, 0, 7), (0, 0, 0), (0, 0), [])), (1, ((0, 0, 11, 1), (0, 0, 0), (0, 0), [])), (2, ((0, 3, 3, 0), (0, 0, 0), (0, 0), [])), (3, ((0, -2147483648, 536870912, 1), (0, 0, 0), (0, 0), [])), (4, ((0, 0, 3, 1), (0, 0, 0), (0, 0), [])), (5, ((0, -1, -1, 1), (0, 0, 0), (0, 0), []))], [], []), 0, [(5, 0)])]
def bl_X7_leastWith_at_3 : List aB := [(0, vb_X7_leastWith_0, some 17), (17, vb_X7_leastWith_17, some 56), (56, vb_X7_leastWith_56, some 62), (62, vb_X7_leastWith_62, none)]
def cz_X7_leastWith_at_3 : List (Nat × aC) := []
theorem ck_X7_leastWith_at_3 : csOK cz_X7_leastWith_at_3 := trivial
theorem cv_X7_leastWith_at_3 : blOK kd_X7_leastWith bl_X7_leastWith_at_3 := ⟨ve_X7_leastWith_0, ve_X7_leastWith_17, ve_X7_leastWith_56, ve_X7_leastWith_62, trivial⟩
theorem ch_X7_leastWith_at_3 : amchk ta_X7_leastWith_at_3 bl_X7_leastWith_at_3 cz_X7_leastWith_at_3 cc_X7_leastWith_at_3 = true := by decide +kernel
theorem ct_X7_leastWith_at_3 : CtOK cc_X7_leastWith_at_3 := am_ok' (T := ta_X7_leastWith_at_3) (B := bl_X7_leastWith_at_3) (cs := cz_X7_leastWith_at_3) vm_X7_leastWith cv_X7_leastWith_at_3 (by decide +kernel) ch_X7_leastWith_at_3 ck_X7_leastWith_at_3
def cc_X7_leastWith_at_30 : aC := (68, 1, [(2, 0, 0, 7), (0, 0, 11, 1), (0, 30, 30, 0)], some (0, -2147483648, 536870912, 1), [], 0, [], [], [], [])
def ta_X7_leastWith_at_30 : List aL := [(0, ([(0, ((2, 0, 0, 7), (0, 0, 0), (0, 0), [])), (1, ((0, 0, 11, 1), (0, 0, 0), (0, 0), [])), (2, ((0, 30, 30, 0), (0, 0, 0), (0, 0), []))], [], []), 97, [(5, 0)]),
  (17, ([(0, ((2, 0, 0, 7), (0, 0, 0), (0, 0), [])), (1, ((0, 0, 11, 1), (0, 0, 0), (0, 0), [])), (2, ((0, 30, 30, 0), (0, 0, 0), (0, 0), [])), (3, ((0, -2147483648, 536870912, 1), (0, 0, 0), (0, 0), [])), (4, ((0, 0, 30, 1), (0, 0, 0), (0, 0), [])), (5, ((0, -1, 30, 1), (0, 0, 0), (0, 0), []))], [], []), 5, [(5, 3)]),
  (56, ([(0, ((2, 0, 0, 7), (0, 0, 0), (0, 0), [])), (1, ((0, 0, 11, 1), (0, 0, 0), (0, 0), [])), (2, ((0, 30, 30, 0), (0, 0, 0), (0, 0), [])), (3, ((0, -2147483648, 536870912, 1), (0, 0, 0), (0, 0), [])), (4, ((0, 0, 30, 1), (0, 0, 0), (0, 0), [])), (5, ((0, 0, 30, 1), (0, 0, 0), (0, 0), []))], [], []), 4, [(5, 3)]),
  (62, ([(0, ((2, 0, 0, 7), (0, 0, 0), (0, 0), [])), (1, ((0, 0, 11, 1), (0, 0, 0), (0, 0), [])), (2, ((0, 30, 30, 0), (0, 0, 0), (0, 0), [])), (3, ((0, -2147483648, 536870912, 1), (0, 0, 0), (0, 0), [])), (4, ((0, 0, 30, 1), (0, 0, 0), (0, 0), [])), (5, ((0, -1, -1, 1), (0, 0, 0), (0, 0), []))], [], []), 0, [(5, 0)])]
def bl_X7_leastWith_at_30 : List aB := [(0, vb_X7_leastWith_0, some 17), (17, vb_X7_leastWith_17, some 56), (56, vb_X7_leastWith_56, some 62), (62, vb_X7_leastWith_62, none)]
def cz_X7_leastWith_at_30 : List (Nat × aC) := []
theorem ck_X7_leastWith_at_30 : csOK cz_X7_leastWith_at_30 := trivial
theorem cv_X7_leastWith_at_30 : blOK kd_X7_leastWith bl_X7_leastWith_at_30 := ⟨ve_X7_leastWith_0, ve_X7_leastWith_17, ve_X7_leastWith_56, ve_X7_leastWith_62, trivial⟩
theorem ch_X7_leastWith_at_30 : amchk ta_X7_leastWith_at_30 bl_X7_leastWith_at_30 cz_X7_leastWith_at_30 cc_X7_leastWith_at_30 = true := by decide +kernel
theorem ct_X7_leastWith_at_30 : CtOK cc_X7_leastWith_at_30 := am_ok' (T := ta_X7_leastWith_at_30) (B := bl_X7_leastWith_at_30) (cs := cz_X7_leastWith_at_30) vm_X7_leastWith cv_X7_leastWith_at_30 (by decide +kernel) ch_X7_leastWith_at_30 ck_X7_leastWith_at_30
def cc_X7_leastWith_at_31 : aC := (68, 1, [(2, 0, 0, 7), (0, 0, 11, 1), (0, 31, 31, 0)], some (0, -2147483648, 536870912, 1), [], 0, [], [], [], [])
def ta_X7_leastWith_at_31 : List aL := [(0, ([(0, ((2, 0, 0, 7), (0, 0, 0), (0, 0), [])), (1, ((0, 0, 11, 1), (0, 0, 0), (0, 0), [])), (2, ((0, 31, 31, 0), (0, 0, 0), (0, 0), []))], [], []), 100, [(5, 0)]),
  (17, ([(0, ((2, 0, 0, 7), (0, 0, 0), (0, 0), [])), (1, ((0, 0, 11, 1), (0, 0, 0), (0, 0), [])), (2, ((0, 31, 31, 0), (0, 0, 0), (0, 0), [])), (3, ((0, -2147483648, 536870912, 1), (0, 0, 0), (0, 0), [])), (4, ((0, 0, 31, 1), (0, 0, 0), (0, 0), [])), (5, ((0, -1, 31, 1), (0, 0, 0), (0, 0), []))], [], []), 5, [(5, 3)]),
  (56, ([(0, ((2, 0, 0, 7), (0, 0, 0), (0, 0), [])), (1, ((0, 0, 11, 1), (0, 0, 0), (0, 0), [])), (2, ((0, 31, 31, 0), (0, 0, 0), (0, 0), [])), (3, ((0, -2147483648, 536870912, 1), (0, 0, 0), (0, 0), [])), (4, ((0, 0, 31, 1), (0, 0, 0), (0, 0), [])), (5, ((0, 0, 31, 1), (0, 0, 0), (0, 0), []))], [], []), 4, [(5, 3)]),
  (62, ([(0, ((2, 0, 0, 7), (0, 0, 0), (0, 0), [])), (1, ((0, 0, 11, 1), (0, 0, 0), (0, 0), [])), (2, ((0, 31, 31, 0), (0, 0, 0), (0, 0), [])), (3, ((0, -2147483648, 536870912, 1), (0, 0, 0), (0, 0), [])), (4, ((0, 0, 31, 1), (0, 0, 0), (0, 0), [])), (5, ((0, -1, -1, 1), (0, 0, 0), (0, 0), []))], [], []), 0, [(5, 0)])]
def bl_X7_leastWith_at_31 : List aB := [(0, vb_X7_leastWith_0, some 17), (17, vb_X7_leastWith_17, some 56), (56, vb_X7_leastWith_56, some 62), (62, vb_X7_leastWith_62, none)]
def cz_X7_leastWith_at_31 : List (Nat × aC) := []
theorem ck_X7_leastWith_at_31 : csOK cz_X7_leastWith_at_31 := trivial
theorem cv_X7_leastWith_at_31 : blOK kd_X7_leastWith bl_X7_leastWith_at_31 := ⟨ve_X7_leastWith_0, ve_X7_leastWith_17, ve_X7_leastWith_56, ve_X7_leastWith_62, trivial⟩
theorem ch_X7_leastWith_at_31 : amchk ta_X7_leastWith_at_31 bl_X7_leastWith_at_31 cz_X7_leastWith_at_31 cc_X7_leastWith_at_31 = true := by decide +kernel
theorem ct_X7_leastWith_at_31 : CtOK cc_X7_leastWith_at_31 := am_ok' (T := ta_X7_leastWith_at_31) (B := bl_X7_leastWith_at_31) (cs := cz_X7_leastWith_at_31) vm_X7_leastWith cv_X7_leastWith_at_31 (by decide +kernel) ch_X7_leastWith_at_31 ck_X7_leastWith_at_31
def cc_X7_leastWith_at_4 : aC := (68, 1, [(2, 0, 0, 7), (0, 0, 11, 1), (0, 4, 4, 0)], some (0, -2147483648, 536870912, 1), [], 0, [], [], [], [])
def ta_X7_leastWith_at_4 : List aL := [(0, ([(0, ((2, 0, 0, 7), (0, 0, 0), (0, 0), [])), (1, ((0, 0, 11, 1), (0, 0, 0), (0, 0), [])), (2, ((0, 4, 4, 0), (0, 0, 0), (0, 0), []))], [], []), 19, [(5, 0)]),
  (17, ([(0, ((2, 0, 0, 7), (0, 0, 0), (0, 0), [])), (1, ((0, 0, 11, 1), (0, 0, 0), (0, 0), [])), (2, ((0, 4, 4, 0), (0, 0, 0), (0, 0), [])), (3, ((0, -2147483648, 536870912, 1), (0, 0, 0), (0, 0), [])), (4, ((0, 0, 4, 1), (0, 0, 0), (0, 0), [])), (5, ((0, -1, 4, 1), (0, 0, 0), (0, 0), []))], [], []), 5, [(5, 3)]),
  (56, ([(0, ((2, 0, 0, 7), (0, 0, 0), (0, 0), [])), (1, ((0, 0, 11, 1), (0, 0, 0), (0, 0), [])), (2, ((0, 4, 4, 0), (0, 0, 0), (0, 0), [])), (3, ((0, -2147483648, 536870912, 1), (0, 0, 0), (0, 0), [])), (4, ((0, 0, 4, 1), (0, 0, 0), (0, 0), [])), (5, ((0, 0, 4, 1), (0, 0, 0), (0, 0), []))], [], []), 4, [(5, 3)]),
  (62, ([(0, ((2, 0, 0, 7), (0, 0, 0), (0, 0), [])), (1, ((0, 0, 11, 1), (0, 0, 0), (0, 0), [])), (2, ((0, 4, 4, 0), (0, 0, 0), (0, 0), [])), (3, ((0, -2147483648, 536870912, 1), (0, 0, 0), (0, 0), [])), (4, ((0, 0, 4, 1), (0, 0, 0), (0, 0), [])), (5, ((0, -1, -1, 1), (0, 0, 0), (0, 0), []))], [], []), 0, [(5, 0)])]
def bl_X7_leastWith_at_4 : List aB := [(0, vb_X7_leastWith_0, some 17), (17, vb_X7_leastWith_17, some 56), (56, vb_X7_leastWith_56, some 62), (62, vb_X7_leastWith_62, none)]
def cz_X7_leastWith_at_4 : List (Nat × aC) := []
theorem ck_X7_leastWith_at_4 : csOK cz_X7_leastWith_at_4 := trivial
theorem cv_X7_leastWith_at_4 : blOK kd_X7_leastWith bl_X7_leastWith_at_4 := ⟨ve_X7_leastWith_0, ve_X7_leastWith_17, ve_X7_leastWith_56, ve_X7_leastWith_62, trivial⟩
theorem ch_X7_leastWith_at_4 : amchk ta_X7_leastWith_at_4 bl_X7_leastWith_at_4 cz_X7_leastWith_at_4 cc_X7_leastWith_at_4 = true := by decide +kernel
theorem ct_X7_leastWith_at_4 : CtOK cc_X7_leastWith_at_4 := am_ok' (T := ta_X7_leastWith_at_4) (B := bl_X7_leastWith_at_4) (cs := cz_X7_leastWith_at_4) vm_X7_leastWith cv_X7_leastWith_at_4 (by decide +kernel) ch_X7_leastWith_at_4 ck_X7_leastWith_at_4
def cc_X7_leastWith_at_5 : aC := (68, 1, [(2, 0, 0, 7), (0, 0, 11, 1), (0, 5, 5, 0)], some (0, -2147483648, 536870912, 1), [], 0, [], [], [], [])
def ta_X7_leastWith_at_5 : List aL := [(0, ([(0, ((2, 0, 0, 7), (0, 0, 0), (0, 0), [])), (1, ((0, 0, 11, 1), (0, 0, 0), (0, 0), [])), (2, ((0, 5, 5, 0), (0, 0, 0), (0, 0), []))], [], []), 22, [(5, 0)]),
  (17, ([(0, ((2, 0, 0, 7), (0, 0, 0), (0, 0), [])), (1, ((0, 0, 11, 1), (0, 0, 0), (0, 0), [])), (2, ((0, 5, 5, 0), (0, 0, 0), (0, 0), [])), (3, ((0, -2147483648, 536870912, 1), (0, 0, 0), (0, 0), [])), (4, ((0, 0, 5, 1), (0, 0, 0), (0, 0), [])), (5, ((0, -1, 5, 1), (0, 0, 0), (0, 0), []))], [], []), 5, [(5, 3)]),
  (56, ([(0, ((2, 0, 0, 7), (0, 0, 0), (0, 0), [])), (1, ((0, 0, 11, 1), (0, 0, 0), (0, 0), [])), (2, ((0, 5, 5, 0), (0, 0, 0), (0, 0), [])), (3, ((0, -2147483648, 536870912, 1), (0, 0, 0), (0, 0), [])), (4, ((0, 0, 5, 1), (0, 0, 0), (0, 0), [])), (5, ((0, 0, 5, 1), (0, 0, 0), (0, 0), []))], [], []), 4, [(5, 3)]),
  (62, ([(0, ((2, 0, 0, 7), (0, 0, 0), (0, 0), [])), (1, ((0, 0, 11, 1), (0, 0, 0), (0, 0), [])), (2, ((0, 5, 5, 0), (0, 0, 0), (0, 0), [])), (3, ((0, -2147483648, 536870912, 1), (0, 0, 0), (0, 0), [])), (4, ((0, 0, 5, 1), (0, 0, 0), (0, 0), [])), (5, ((0, -1, -1, 1), (0, 0, 0), (0, 0), []))], [], []), 0, [(5, 0)])]
def bl_X7_leastWith_at_5 : List aB := [(0, vb_X7_leastWith_0, some 17), (17, vb_X7_leastWith_17, some 56), (56, vb_X7_leastWith_56, some 62), (62, vb_X7_leastWith_62, none)]
def cz_X7_leastWith_at_5 : List (Nat × aC) := []
theorem ck_X7_leastWith_at_5 : csOK cz_X7_leastWith_at_5 := trivial
theorem cv_X7_leastWith_at_5 : blOK kd_X7_leastWith bl_X7_leastWith_at_5 := ⟨ve_X7_leastWith_0, ve_X7_leastWith_17, ve_X7_leastWith_56, ve_X7_leastWith_62, trivial⟩
theorem ch_X7_leastWith_at_5 : amchk ta_X7_leastWith_at_5 bl_X7_leastWith_at_5 cz_X7_leastWith_at_5 cc_X7_leastWith_at_5 = true := by decide +kernel
theorem ct_X7_leastWith_at_5 : CtOK cc_X7_leastWith_at_5 := am_ok' (T := ta_X7_leastWith_at_5) (B := bl_X7_leastWith_at_5) (cs := cz_X7_leastWith_at_5) vm_X7_leastWith cv_X7_leastWith_at_5 (by decide +kernel) ch_X7_leastWith_at_5 ck_X7_leastWith_at_5
def cc_X7_leastWith_at_6 : aC := (68, 1, [(2, 0, 0, 7), (0, 0, 11, 1), (0, 6, 6, 0)], some (0, -2147483648, 536870912, 1), [], 0, [], [], [], [])
def ta_X7_leastWith_at_6 : List aL := [(0, ([(0, ((2, 0, 0, 7), (0, 0, 0), (0, 0), [])), (1, ((0, 0, 11, 1), (0, 0, 0), (0, 0), [])), (2, ((0, 6, 6, 0), (0, 0, 0), (0, 0), []))], [], []), 25, [(5, 0)]),
  (17, ([(0, ((2, 0, 0, 7), (0, 0, 0), (0, 0), [])), (1, ((0, 0, 11, 1), (0, 0, 0), (0, 0), [])), (2, ((0, 6, 6, 0), (0, 0, 0), (0, 0), [])), (3, ((0, -2147483648, 536870912, 1), (0, 0, 0), (0, 0), [])), (4, ((0, 0, 6, 1), (0, 0, 0), (0, 0), [])), (5, ((0, -1, 6, 1), (0, 0, 0), (0, 0), []))], [], []), 5, [(5, 3)]),
  (56, ([(0, ((2, 0, 0, 7), (0, 0, 0), (0, 0), [])), (1, ((0, 0, 11, 1), (0, 0, 0), (0, 0), [])), (2, ((0, 6, 6, 0), (0, 0, 0), (0, 0), [])), (3, ((0, -2147483648, 536870912, 1), (0, 0, 0), (0, 0), [])), (4, ((0, 0, 6, 1), (0, 0, 0), (0, 0), [])), (5, ((0, 0, 6, 1), (0, 0, 0), (0, 0), []))], [], []), 4, [(5, 3)]),
  (62, ([(0, ((2, 0, 0, 7), (0, 0, 0), (0, 0), [])), (1, ((0, 0, 11, 1), (0, 0, 0), (0, 0), [])), (2, ((0, 6, 6, 0), (0, 0, 0), (0, 0), [])), (3, ((0, -2147483648, 536870912, 1), (0, 0, 0), (0, 0), [])), (4, ((0, 0, 6, 1), (0, 0, 0), (0, 0), [])), (5, ((0, -1, -1, 1), (0, 0, 0), (0, 0), []))], [], []), 0, [(5, 0)])]
def bl_X7_leastWith_at_6 : List aB := [(0, vb_X7_leastWith_0, some 17), (17, vb_X7_leastWith_17, some 56), (56, vb_X7_leastWith_56, some 62), (62, vb_X7_leastWith_62, none)]
def cz_X7_leastWith_at_6 : List (Nat × aC) := []
theorem ck_X7_leastWith_at_6 : csOK cz_X7_leastWith_at_6 := trivial
theorem cv_X7_leastWith_at_6 : blOK kd_X7_leastWith bl_X7_leastWith_at_6 := ⟨ve_X7_leastWith_0, ve_X7_leastWith_17, ve_X7_leastWith_56, ve_X7_leastWith_62, trivial⟩
theorem ch_X7_leastWith_at_6 : amchk ta_X7_leastWith_at_6 bl_X7_leastWith_at_6 cz_X7_leastWith_at_6 cc_X7_leastWith_at_6 = true := by decide +kernel
theorem ct_X7_leastWith_at_6 : CtOK cc_X7_leastWith_at_6 := am_ok' (T := ta_X7_leastWith_at_6) (B := bl_X7_leastWith_at_6) (cs := cz_X7_leastWith_at_6) vm_X7_leastWith cv_X7_leastWith_at_6 (by decide +kernel) ch_X7_leastWith_at_6 ck_X7_leastWith_at_6
def cc_X7_leastWith_at_7 : aC := (68, 1, [(2, 0, 0, 7), (0, 0, 11, 1), (0, 7, 7, 0)], some (0, -2147483648, 536870912, 1), [], 0, [], [], [], [])
def ta_X7_leastWith_at_7 : List aL := [(0, ([(0, ((2, 0, 0, 7), (0, 0, 0), (0, 0), [])), (1, ((0, 0, 11, 1), (0, 0, 0), (0, 0), [])), (2, ((0, 7, 7, 0), (0, 0, 0), (0, 0), []))], [], []), 28, [(5, 0)]),
  (17, ([(0, ((2, 0, 0, 7), (0, 0, 0), (0, 0), [])), (1, ((0, 0, 11, 1), (0, 0, 0), (0, 0), [])), (2, ((0, 7, 7, 0), (0, 0, 0), (0, 0), [])), (3, ((0, -2147483648, 536870912, 1), (0, 0, 0), (0, 0), [])), (4, ((0, 0, 7, 1), (0, 0, 0), (0, 0), [])), (5, ((0, -1, 7, 1), (0, 0, 0), (0, 0), []))], [], []), 5, [(5, 3)]),
  (56, ([(0, ((2, 0, 0, 7), (0, 0, 0), (0, 0), [])), (1, ((0, 0, 11, 1), (0, 0, 0), (0, 0), [])), (2, ((0, 7, 7, 0), (0, 0, 0), (0, 0), [])), (3, ((0, -2147483648, 536870912, 1), (0, 0, 0), (0, 0), [])), (4, ((0, 0, 7, 1), (0, 0, 0), (0, 0), [])), (5, ((0, 0, 7, 1), (0, 0, 0), (0, 0), []))], [], []), 4, [(5, 3)]),
  (62, ([(0, ((2, 0, 0, 7), (0, 0, 0), (0, 0), [])), (1, ((0, 0, 11, 1), (0, 0, 0), (0, 0), [])), (2, ((0, 7, 7, 0), (0, 0, 0), (0, 0), [])), (3, ((0, -2147483648, 536870912, 1), (0, 0, 0), (0, 0), [])), (4, ((0, 0, 7, 1), (0, 0, 0), (0, 0), [])), (5, ((0, -1, -1, 1), (0, 0, 0), (0, 0), []))], [], []), 0, [(5, 0)])]
def bl_X7_leastWith_at_7 : List aB := [(0, vb_X7_leastWith_0, some 17), (17, vb_X7_leastWith_17, some 56), (56, vb_X7_leastWith_56, some 62), (62, vb_X7_leastWith_62, none)]
def cz_X7_leastWith_at_7 : List (Nat × aC) := []
theorem ck_X7_leastWith_at_7 : csOK cz_X7_leastWith_at_7 := trivial
theorem cv_X7_leastWith_at_7 : blOK kd_X7_leastWith bl_X7_leastWith_at_7 := ⟨ve_X7_leastWith_0, ve_X7_leastWith_17, ve_X7_leastWith_56, ve_X7_leastWith_62, trivial⟩
theorem ch_X7_leastWith_at_7 : amchk ta_X7_leastWith_at_7 bl_X7_leastWith_at_7 cz_X7_leastWith_at_7 cc_X7_leastWith_at_7 = true := by decide +kernel
theorem ct_X7_leastWith_at_7 : CtOK cc_X7_leastWith_at_7 := am_ok' (T := ta_X7_leastWith_at_7) (B := bl_X7_leastWith_at_7) (cs := cz_X7_leastWith_at_7) vm_X7_leastWith cv_X7_leastWith_at_7 (by decide +kernel) ch_X7_leastWith_at_7 ck_X7_leastWith_at_7
def cc_X7_leastWith_at_8 : aC := (68, 1, [(2, 0, 0, 7), (0, 0, 11, 1), (0, 8, 8, 0)], some (0, -2147483648, 536870912, 1), [], 0, [], [], [], [])
def ta_X7_leastWith_at_8 : List aL := [(0, ([(0, ((2, 0, 0, 7), (0, 0, 0), (0, 0), [])), (1, ((0, 0, 11, 1), (0, 0, 0), (0, 0), [])), (2, ((0, 8, 8, 0), (0, 0, 0), (0, 0), []))], [], []), 31, [(5, 0)]),
  (17, ([(0, ((2, 0, 0, 7), (0, 0, 0), (0, 0), [])), (1, ((0, 0, 11, 1), (0, 0, 0), (0, 0), [])), (2, ((0, 8, 8, 0), (0, 0, 0), (0, 0), [])), (3, ((0, -2147483648, 536870912, 1), (0, 0, 0), (0, 0), [])), (4, ((0, 0, 8, 1), (0, 0, 0), (0, 0), [])), (5, ((0, -1, 8, 1), (0, 0, 0), (0, 0), []))], [], []), 5, [(5, 3)]),
  (56, ([(0, ((2, 0, 0, 7), (0, 0, 0), (0, 0), [])), (1, ((0, 0, 11, 1), (0, 0, 0), (0, 0), [])), (2, ((0, 8, 8, 0), (0, 0, 0), (0, 0), [])), (3, ((0, -2147483648, 536870912, 1), (0, 0, 0), (0, 0), [])), (4, ((0, 0, 8, 1), (0, 0, 0), (0, 0), [])), (5, ((0, 0, 8, 1), (0, 0, 0), (0, 0), []))], [], []), 4, [(5, 3)]),
  (62, ([(0, ((2, 0, 0, 7), (0, 0, 0), (0, 0), [])), (1, ((0, 0, 11, 1), (0, 0, 0), (0, 0), [])), (2, ((0, 8, 8, 0), (0, 0, 0), (0, 0), [])), (3, ((0, -2147483648, 536870912, 1), (0, 0, 0), (0, 0), [])), (4, ((0, 0, 8, 1), (0, 0, 0), (0, 0), [])), (5, ((0, -1, -1, 1), (0, 0, 0), (0, 0), []))], [], []), 0, [(5, 0)])]
def bl_X7_leastWith_at_8 : List aB := [(0, vb_X7_leastWith_0, some 17), (17, vb_X7_leastWith_17, some 56), (56, vb_X7_leastWith_56, some 62), (62, vb_X7_leastWith_62, none)]
def cz_X7_leastWith_at_8 : List (Nat × aC) := []
theorem ck_X7_leastWith_at_8 : csOK cz_X7_leastWith_at_8 := trivial
theorem cv_X7_leastWith_at_8 : blOK kd_X7_leastWith bl_X7_leastWith_at_8 := ⟨ve_X7_leastWith_0, ve_X7_leastWith_17, ve_X7_leastWith_56, ve_X7_leastWith_62, trivial⟩
theorem ch_X7_leastWith_at_8 : amchk ta_X7_leastWith_at_8 bl_X7_leastWith_at_8 cz_X7_leastWith_at_8 cc_X7_leastWith_at_8 = true := by decide +kernel
theorem ct_X7_leastWith_at_8 : CtOK cc_X7_leastWith_at_8 := am_ok' (T := ta_X7_leastWith_at_8) (B := bl_X7_leastWith_at_8) (cs := cz_X7_leastWith_at_8) vm_X7_leastWith cv_X7_leastWith_at_8 (by decide +kernel) ch_X7_leastWith_at_8 ck_X7_leastWith_at_8
def cc_X7_leastWith_at_9 : aC := (68, 1, [(2, 0, 0, 7), (0, 0, 11, 1), (0, 9, 9, 0)], some (0, -2147483648, 536870912, 1), [], 0, [], [], [], [])
def ta_X7_leastWith_at_9 : List aL := [(0, ([(0, ((2, 0, 0, 7), (0, 0, 0), (0, 0), [])), (1, ((0, 0, 11, 1), (0, 0, 0), (0, 0), [])), (2, ((0, 9, 9, 0), (0, 0, 0), (0, 0), []))], [], []), 34, [(5, 0)]),
  (17, ([(0, ((2, 0, 0, 7), (0, 0, 0), (0, 0), [])), (1, ((0, 0, 11, 1), (0, 0, 0), (0, 0), [])), (2, ((0, 9, 9, 0), (0, 0, 0), (0, 0), [])), (3, ((0, -2147483648, 536870912, 1), (0, 0, 0), (0, 0), [])), (4, ((0, 0, 9, 1), (0, 0, 0), (0, 0), [])), (5, ((0, -1, 9, 1), (0, 0, 0), (0, 0), []))], [], []), 5, [(5, 3)]),
  (56, ([(0, ((2, 0, 0, 7), (0, 0, 0), (0, 0), [])), (1, ((0, 0, 11, 1), (0, 0, 0), (0, 0), [])), (2, ((0, 9, 9, 0), (0, 0, 0), (0, 0), [])), (3, ((0, -2147483648, 536870912, 1), (0, 0, 0), (0, 0), [])), (4, ((0, 0, 9, 1), (0, 0, 0), (0, 0), [])), (5, ((0, 0, 9, 1), (0, 0, 0), (0, 0), []))], [], []), 4, [(5, 3)]),
  (62, ([(0, ((2, 0, 0, 7), (0, 0, 0), (0, 0), [])), (1, ((0, 0, 11, 1), (0, 0, 0), (0, 0), [])), (2, ((0, 9, 9, 0), (0, 0, 0), (0, 0), [])), (3, ((0, -2147483648, 536870912, 1), (0, 0, 0), (0, 0), [])), (4, ((0, 0, 9, 1), (0, 0, 0), (0, 0), [])), (5, ((0, -1, -1, 1), (0, 0, 0), (0, 0), []))], [], []), 0, [(5, 0)])]
def bl_X7_leastWith_at_9 : List aB := [(0, vb_X7_leastWith_0, some 17), (17, vb_X7_leastWith_17, some 56), (56, vb_X7_leastWith_56, some 62), (62, vb_X7_leastWith_62, none)]
def cz_X7_leastWith_at_9 : List (Nat × aC) := []
theorem ck_X7_leastWith_at_9 : csOK cz_X7_leastWith_at_9 := trivial
theorem cv_X7_leastWith_at_9 : blOK kd_X7_leastWith bl_X7_leastWith_at_9 := ⟨ve_X7_leastWith_0, ve_X7_leastWith_17, ve_X7_leastWith_56, ve_X7_leastWith_62, trivial⟩
theorem ch_X7_leastWith_at_9 : amchk ta_X7_leastWith_at_9 bl_X7_leastWith_at_9 cz_X7_leastWith_at_9 cc_X7_leastWith_at_9 = true := by decide +kernel
theorem ct_X7_leastWith_at_9 : CtOK cc_X7_leastWith_at_9 := am_ok' (T := ta_X7_leastWith_at_9) (B := bl_X7_leastWith_at_9) (cs := cz_X7_leastWith_at_9) vm_X7_leastWith cv_X7_leastWith_at_9 (by decide +kernel) ch_X7_leastWith_at_9 ck_X7_leastWith_at_9
def cc_X7_allowOnly : aC := (71, 1, [(2, 0, 0, 7), (0, 0, 5, 1), (0, 0, 11, 1)], none, [], 0, [74], [], [], [])
def ta_X7_allowOnly : List aL := [(0, ([(0, ((2, 0, 0, 7), (0, 0, 0), (0, 0), [])), (1, ((0, 0, 5, 1), (0, 0, 0), (0, 0), [])), (2, ((0, 0, 11, 1), (0, 0, 0), (0, 0), []))], [], []), 27, [(3, 0)]),
  (2, ([(0, ((2, 0, 0, 7), (0, 0, 0), (0, 0), [])), (1, ((0, 0, 5, 1), (0, 0, 0), (0, 0), [])), (2, ((0, 0, 11, 1), (0, 0, 0), (0, 0), [])), (3, ((0, 0, 12, 1), (0, 0, 0), (0, 0), []))], [], []), 25, [(3, -2)]),
  (33, ([(0, ((2, 0, 0, 7), (0, 0, 0), (0, 0), [])), (1, ((0, 0, 5, 1), (0, 0, 0), (0, 0), [])), (2, ((0, 0, 11, 1), (0, 0, 0), (0, 0), [])), (3, ((0, 0, 12, 1), (0, 0, 0), (0, 0), []))], [], [((2, 1, 2), 0, 12)]), 0, [(3, 0)])]
def bl_X7_allowOnly : List aB := [(0, vb_X7_allowOnly_0, some 2), (2, vb_X7_allowOnly_2, some 33), (33, vb_X7_allowOnly_33, none)]
def cz_X7_allowOnly : List (Nat × aC) := []
theorem ck_X7_allowOnly : csOK cz_X7_allowOnly := trivial
theorem cv_X7_allowOnly : blOK kd_X7_allowOnly bl_X7_allowOnly := ⟨ve_X7_allowOnly_0, ve_X7_allowOnly_2, ve_X7_allowOnly_33, trivial⟩
theorem ch_X7_allowOnly : amchk ta_X7_allowOnly bl_X7_allowOnly cz_X7_allowOnly cc_X7_allowOnly = true := by decide +kernel
theorem ct_X7_allowOnly : CtOK cc_X7_allowOnly := am_ok' (T := ta_X7_allowOnly) (B := bl_X7_allowOnly) (cs := cz_X7_allowOnly) vm_X7_allowOnly cv_X7_allowOnly (by decide +kernel) ch_X7_allowOnly ck_X7_allowOnly
def cc_X8_octetOf : aC := (74, 1, [(0, 0, 37, 1)], some (0, 46, 90, 1), [], 0, [], [], [], [])
def ta_X8_octetOf : List aL := [(0, ([(0, ((0, 0, 37, 1), (0, 0, 0), (0, 0), []))], [], []), 3, []),
  (24, ([(0, ((0, 27, 36, 1), (0, 0, 0), (0, 0), []))], [], []), 1, []),
  (31, ([(0, ((0, 0, 36, 1), (0, 0, 0), (0, 0), []))], [((0, 48, 90, 1), (0, 0, 0), (0, 0), [])], []), 0, []),
  (9, ([(0, ((0, 0, 36, 1), (0, 0, 0), (0, 0), []))], [], []), 2, [])]
def bl_X8_octetOf : List aB := [(0, vb_X8_octetOf_0, some 9), (9, vb_X8_octetOf_9, some 24), (24, vb_X8_octetOf_24, some 31), (31, vb_X8_octetOf_31, none)]
def cz_X8_octetOf : List (Nat × aC) := []
theorem ck_X8_octetOf : csOK cz_X8_octetOf := trivial
theorem cv_X8_octetOf : blOK kd_X8_octetOf bl_X8_octetOf := ⟨ve_X8_octetOf_0, ve_X8_octetOf_9, ve_X8_octetOf_24, ve_X8_octetOf_31, trivial⟩
theorem ch_X8_octetOf : amchk ta_X8_octetOf bl_X8_octetOf cz_X8_octetOf cc_X8_octetOf = true := by decide +kernel
theorem ct_X8_octetOf : CtOK cc_X8_octetOf := am_ok' (T := ta_X8_octetOf) (B := bl_X8_octetOf) (cs := cz_X8_octetOf) vm_X8_octetOf cv_X8_octetOf (by decide +kernel) ch_X8_octetOf ck_X8_octetOf
def cc_X8_areLike : aC := (81, 1, [(2, 0, 0, 8), (0, 0, 36, 1), (0, 1, 36, 1)], some (0, 0, 1, 1), [], 0, [], [], [], [])
def ta_X8_areLike : List aL := [(0, ([(0, ((2, 0, 0, 8), (0, 0, 0), (0, 0), [])), (1, ((0, 0, 36, 1), (0, 0, 0), (0, 0), [])), (2, ((0, 1, 36, 1), (0, 0, 0), (0, 0), []))], [], []), 2, []),
  (16, ([(0, ((2, 0, 0, 8), (0, 0, 0), (0, 0), [])), (1, ((0, 0, 36, 1), (0, 0, 0), (0, 0), [])), (2, ((0, 1, 36, 1), (0, 0, 0), (0, 0), []))], [], []), 1, []),
  (17, ([(0, ((2, 0, 0, 8), (0, 0, 0), (0, 0), [])), (1, ((0, 0, 36, 1), (0, 0, 0), (0, 0), [])), (2, ((0, 1, 36, 1), (0, 0, 0), (0, 0), []))], [((0, 0, 1, 1), (0, 0, 0), (0, 0), [])], []), 0, [])]
def bl_X8_areLike : List aB := [(0, vb_X8_areLike_0, some 16), (16, vb_X8_areLike_16, some 17), (17, vb_X8_areLike_17, none)]
def cz_X8_areLike : List (Nat × aC) := []
theorem ck_X8_areLike : csOK cz_X8_areLike := trivial
theorem cv_X8_areLike : blOK kd_X8_areLike bl_X8_areLike := ⟨ve_X8_areLike_0, ve_X8_areLike_16, ve_X8_areLike_17, trivial⟩
theorem ch_X8_areLike : amchk ta_X8_areLike bl_X8_areLike cz_X8_areLike cc_X8_areLike = true := by decide +kernel
theorem ct_X8_areLike : CtOK cc_X8_areLike := am_ok' (T := ta_X8_areLike) (B := bl_X8_areLike) (cs := cz_X8_areLike) vm_X8_areLike cv_X8_areLike (by decide +kernel) ch_X8_areLike ck_X8_areLike
def cc_X8_setCost : aC := (82, 1, [(2, 0, 0, 8), (0, 0, 37, 1), (0, 0, 37, 1), (0, 1, 3, 2)], none, [], 0, [42], [], [], [])
def ta_X8_setCost : List aL := [(0, ([(0, ((2, 0, 0, 8), (0, 0, 0), (0, 0), [])), (1, ((0, 0, 37, 1), (0, 0, 0), (0, 0), [])), (2, ((0, 0, 37, 1), (0, 0, 0), (0, 0), [])), (3, ((0, 1, 3, 2), (0, 0, 0), (0, 0), []))], [], []), 0, [])]
def bl_X8_setCost : List aB := [(0, vb_X8_setCost_0, none)]
def cz_X8_setCost : List (Nat × aC) := []
theorem ck_X8_setCost : csOK cz_X8_setCost := trivial
theorem cv_X8_setCost : blOK kd_X8_setCost bl_X8_setCost := ⟨ve_X8_setCost_0, trivial⟩
theorem ch_X8_setCost : amchk ta_X8_setCost bl_X8_setCost cz_X8_setCost cc_X8_setCost = true := by decide +kernel
theorem ct_X8_setCost : CtOK cc_X8_setCost := am_ok' (T := ta_X8_setCost) (B := bl_X8_setCost) (cs := cz_X8_setCost) vm_X8_setCost cv_X8_setCost (by decide +kernel) ch_X8_setCost ck_X8_setCost
def cc_X9_heapOf_at_0 : aC := (89, 1, [(2, 0, 0, 9), (0, 0, 0, 0)], some (0, 0, 0, 1), [], 0, [54, 5009], [((2, 215, 4), 0, 0)], [], [((2, 215, 4), 0, 1)])
def ta_X9_heapOf_at_0 : List aL := [(0, ([(0, ((2, 0, 0, 9), (0, 0, 0), (0, 0), [])), (1, ((0, 0, 0, 0), (0, 0, 0), (0, 0), []))], [], [((2, 215, 4), 0, 0)]), 2, []),
  (16, ([(0, ((2, 0, 0, 9), (0, 0, 0), (0, 0), [])), (1, ((0, 0, 0, 0), (0, 0, 0), (0, 0), [])), (2, ((1, 1, 0, 0), (0, 0, 0), (0, 0), [])), (4, ((0, 0, 0, 0), (0, 0, 0), (0, 0), []))], [], [((2, 215, 4), 0, 0)]), 1, []),
  (57, ([(0, ((2, 0, 0, 9), (0, 0, 0), (0, 0), [])), (1, ((0, 0, 0, 0), (0, 0, 0), (0, 0), [])), (2, ((1, 1, 0, 0), (0, 0, 0), (0, 0), [])), (4, ((0, 0, 0, 0), (0, 0, 0), (0, 0), []))], [], [((2, 215, 4), 0, 0)]), 0, [])]
def bl_X9_heapOf_at_0 : List aB := [(0, vb_X9_heapOf_0, some 16), (16, vb_X9_heapOf_16, some 51), (57, vb_X9_heapOf_57, none)]
def cz_X9_heapOf_at_0 : List (Nat × aC) := []
theorem ck_X9_heapOf_at_0 : csOK cz_X9_heapOf_at_0 := trivial
theorem cv_X9_heapOf_at_0 : blOK kd_X9_heapOf bl_X9_heapOf_at_0 := ⟨ve_X9_heapOf_0, ve_X9_heapOf_16, ve_X9_heapOf_57, trivial⟩
theorem ch_X9_heapOf_at_0 : amchk ta_X9_heapOf_at_0 bl_X9_heapOf_at_0 cz_X9_heapOf_at_0 cc_X9_heapOf_at_0 = true := by decide +kernel
theorem ct_X9_heapOf_at_0 : CtOK cc_X9_heapOf_at_0 := am_ok' (T := ta_X9_heapOf_at_0) (B := bl_X9_heapOf_at_0) (cs := cz_X9_heapOf_at_0) vm_X9_heapOf cv_X9_heapOf_at_0 (by decide +kernel) ch_X9_heapOf_at_0 ck_X9_heapOf_at_0
def cc_X9_heapOf_at_1 : aC := (89, 1, [(2, 0, 0, 9), (0, 1, 1, 0)], some (0, 0, 1, 1), [], 0, [54, 5009], [((2, 215, 4), 0, 1)], [], [((2, 215, 4), 0, 2)])
def ta_X9_heapOf_at_1 : List aL := [(0, ([(0, ((2, 0, 0, 9), (0, 0, 0), (0, 0), [])), (1, ((0, 1, 1, 0), (0, 0, 0), (0, 0), []))], [], [((2, 215, 4), 0, 1)]), 7, [(4, 0)]),
  (16, ([(0, ((2, 0, 0, 9), (0, 0, 0), (0, 0), [])), (1, ((0, 1, 1, 0), (0, 0, 0), (0, 0), [])), (2, ((1, 1, 0, 0), (0, 0, 0), (0, 0), [])), (4, ((0, 0, 1, 1), (0, 0, 0), (0, 0), []))], [], [((2, 215, 4), 0, 1)]), 5, [(4, -3)]),
  (51, ([(0, ((2, 0, 0, 9), (0, 0, 0), (0, 0), [])), (1, ((0, 1, 1, 0), (0, 0, 0), (0, 0), [])), (2, ((1, 1, 0, 0), (0, 0, 0), (0, 0), [])), (4, ((0, 0, 0, 1), (0, 0, 0), (0, 0), []))], [], [((2, 215, 4), 1, 1)]), 4, [(4, -3)]),
  (57, ([(0, ((2, 0, 0, 9), (0, 0, 0), (0, 0), [])), (1, ((0, 1, 1, 0), (0, 0, 0), (0, 0), [])), (2, ((1, 1, 0, 0), (0, 0, 0), (0, 0), [])), (4, ((0, 0, 1, 1), (0, 0, 0), (0, 0), []))], [], [((2, 215, 4), 0, 1)]), 0, [(4, 0)])]
def bl_X9_heapOf_at_1 : List aB := [(0, vb_X9_heapOf_0, some 16), (16, vb_X9_heapOf_16, some 51), (51, vb_X9_heapOf_51, some 57), (57, vb_X9_heapOf_57, none)]
def cz_X9_heapOf_at_1 : List (Nat × aC) := []
theorem ck_X9_heapOf_at_1 : csOK cz_X9_heapOf_at_1 := trivial
theorem cv_X9_heapOf_at_1 : blOK kd_X9_heapOf bl_X9_heapOf_at_1 := ⟨ve_X9_heapOf_0, ve_X9_heapOf_16, ve_X9_heapOf_51, ve_X9_heapOf_57, trivial⟩
theorem ch_X9_heapOf_at_1 : amchk ta_X9_heapOf_at_1 bl_X9_heapOf_at_1 cz_X9_heapOf_at_1 cc_X9_heapOf_at_1 = true := by decide +kernel
theorem ct_X9_heapOf_at_1 : CtOK cc_X9_heapOf_at_1 := am_ok' (T := ta_X9_heapOf_at_1) (B := bl_X9_heapOf_at_1) (cs := cz_X9_heapOf_at_1) vm_X9_heapOf cv_X9_heapOf_at_1 (by decide +kernel) ch_X9_heapOf_at_1 ck_X9_heapOf_at_1
def cc_X9_heapOf_at_10 : aC := (89, 1, [(2, 0, 0, 9), (0, 10, 10, 0)], some (0, 0, 10, 1), [], 0, [54, 5009], [((2, 215, 4), 0, 10)], [], [((2, 215, 4), 0, 11)])
def ta_X9_heapOf_at_10 : List aL := [(0, ([(0, ((2, 0, 0, 9), (0, 0, 0), (0, 0), [])), (1, ((0, 10, 10, 0), (0, 0, 0), (0, 0), []))], [], [((2, 215, 4), 0, 10)]), 34, [(4, 0)]),
  (16, ([(0, ((2, 0, 0, 9), (0, 0, 0), (0, 0), [])), (1, ((0, 10, 10, 0), (0, 0, 0), (0, 0), [])), (2, ((1, 1, 0, 0), (0, 0, 0), (0, 0), [])), (4, ((0, 0, 10, 1), (0, 0, 0), (0, 0), []))], [], [((2, 215, 4), 0, 10)]), 32, [(4, -3)]),
  (51, ([(0, ((2, 0, 0, 9), (0, 0, 0), (0, 0), [])), (1, ((0, 10, 10, 0), (0, 0, 0), (0, 0), [])), (2, ((1, 1, 0, 0), (0, 0, 0), (0, 0), [])), (4, ((0, 0, 9, 1), (0, 0, 0), (0, 0), []))], [], [((2, 215, 4), 1, 10)]), 31, [(4, -3)]),
  (57, ([(0, ((2, 0, 0, 9), (0, 0, 0), (0, 0), [])), (1, ((0, 10, 10, 0), (0, 0, 0), (0, 0), [])), (2, ((1, 1, 0, 0), (0, 0, 0), (0, 0), [])), (4, ((0, 0, 10, 1), (0, 0, 0), (0, 0), []))], [], [((2, 215, 4), 0, 10)]), 0, [(4, 0)])]
def bl_X9_heapOf_at_10 : List aB := [(0, vb_X9_heapOf_0, some 16), (16, vb_X9_heapOf_16, some 51), (51, vb_X9_heapOf_51, some 57), (57, vb_X9_heapOf_57, none)]
def cz_X9_heapOf_at_10 : List (Nat × aC) := []
theorem ck_X9_heapOf_at_10 : csOK cz_X9_heapOf_at_10 := trivial
theorem cv_X9_heapOf_at_10 : blOK kd_X9_heapOf bl_X9_heapOf_at_10 := ⟨ve_X9_heapOf_0, ve_X9_heapOf_16, ve_X9_heapOf_51, ve_X9_heapOf_57, trivial⟩
theorem ch_X9_heapOf_at_10 : amchk ta_X9_heapOf_at_10 bl_X9_heapOf_at_10 cz_X9_heapOf_at_10 cc_X9_heapOf_at_10 = true := by decide +kernel
theorem ct_X9_heapOf_at_10 : CtOK cc_X9_heapOf_at_10 := am_ok' (T := ta_X9_heapOf_at_10) (B := bl_X9_heapOf_at_10) (cs := cz_X9_heapOf_at_10) vm_X9_heapOf cv_X9_heapOf_at_10 (by decide +kernel) ch_X9_heapOf_at_10 ck_X9_heapOf_at_10
def cc_X9_heapOf_at_11 : aC := (89, 1, [(2, 0, 0, 9), (0, 11, 11, 0)], some (0, 0, 11, 1), [], 0, [54, 5009], [((2, 215, 4), 0, 11)], [], [((2, 215, 4), 0, 12)])
def ta_X9_heapOf_at_11 : List aL := [(0, ([(0, ((2, 0, 0, 9), (0, 0, 0), (0, 0), [])), (1, ((0, 11, 11, 0), (0, 0, 0), (0, 0), []))], [], [((2, 215, 4), 0, 11)]), 37, [(4, 0)]),
  (16, ([(0, ((2, 0, 0, 9), (0, 0, 0), (0, 0), [])), (1, ((0, 11, 11, 0), (0, 0, 0), (0, 0), [])), (2, ((1, 1, 0, 0), (0, 0, 0), (0, 0), [])), (4, ((0, 0, 11, 1), (0, 0, 0), (0, 0), []))], [], [((2, 215, 4), 0, 11)]), 35, [(4, -3)]),
  (51, ([(0, ((2, 0, 0, 9), (0, 0, 0), (0, 0), [])), (1, ((0, 11, 11, 0), (0, 0, 0), (0, 0), [])), (2, ((1, 1, 0, 0), (0, 0, 0), (0, 0), [])), (4, ((0, 0, 10, 1), (0, 0, 0), (0, 0), []))], [], [((2, 215, 4), 1, 11)]), 34, [(4, -3)]),
  (57, ([(0, ((2, 0, 0, 9), (0, 0, 0), (0, 0), [])), (1, ((0, 11, 11, 0), (0, 0, 0), (0, 0), [])), (2, ((1, 1, 0, 0), (0, 0, 0), (0, 0), [])), (4, ((0, 0, 11, 1), (0, 0, 0), (0, 0), []))], [], [((2, 215, 4), 0, 11)]), 0, [(4, 0)])]
def bl_X9_heapOf_at_11 : List aB := [(0, vb_X9_heapOf_0, some 16), (16, vb_X9_heapOf_16, some 51), (51, vb_X9_heapOf_51, some 57), (57, vb_X9_heapOf_57, none)]
def cz_X9_heapOf_at_11 : List (Nat × aC) := []
theorem ck_X9_heapOf_at_11 : csOK cz_X9_heapOf_at_11 := trivial
theorem cv_X9_heapOf_at_11 : blOK kd_X9_heapOf bl_X9_heapOf_at_11 := ⟨ve_X9_heapOf_0, ve_X9_heapOf_16, ve_X9_heapOf_51, ve_X9_heapOf_57, trivial⟩
theorem ch_X9_heapOf_at_11 : amchk ta_X9_heapOf_at_11 bl_X9_heapOf_at_11 cz_X9_heapOf_at_11 cc_X9_heapOf_at_11 = true := by decide +kernel
theorem ct_X9_heapOf_at_11 : CtOK cc_X9_heapOf_at_11 := am_ok' (T := ta_X9_heapOf_at_11) (B := bl_X9_heapOf_at_11) (cs := cz_X9_heapOf_at_11) vm_X9_heapOf cv_X9_heapOf_at_11 (by decide +kernel) ch_X9_heapOf_at_11 ck_X9_heapOf_at_11
def cc_X9_heapOf_at_12 : aC := (89, 1, [(2, 0, 0, 9), (0, 12, 12, 0)], some (0, 0, 12, 1), [], 0, [54, 5009], [((2, 215, 4), 0, 12)], [], [((2, 215, 4), 0, 13)])
def ta_X9_heapOf_at_12 : List aL := [(0, ([(0, ((2, 0, 0, 9), (0, 0, 0), (0, 0), [])), (1, ((0, 12, 12, 0), (0, 0, 0), (0, 0), []))], [], [((2, 215, 4), 0, 12)]), 40, [(4, 0)]),
  (16, ([(0, ((2, 0, 0, 9), (0, 0, 0), (0, 0), [])), (1, ((0, 12, 12, 0), (0, 0, 0), (0, 0), [])), (2, ((1, 1, 0, 0), (0, 0, 0), (0, 0), [])), (4, ((0, 0, 12, 1), (0, 0, 0), (0, 0), []))], [], [((2, 215, 4), 0, 12)]), 38, [(4, -3)]),
  (51, ([(0, ((2, 0, 0, 9), (0, 0, 0), (0, 0), [])), (1, ((0, 12, 12, 0), (0, 0, 0), (0, 0), [])), (2, ((1, 1, 0, 0), (0, 0, 0), (0, 0), [])), (4, ((0, 0, 11, 1), (0, 0, 0), (0, 0), []))], [], [((2, 215, 4), 1, 12)]), 37, [(4, -3)]),
  (57, ([(0, ((2, 0, 0, 9), (0, 0, 0), (0, 0), [])), (1, ((0, 12, 12, 0), (0, 0, 0), (0, 0), [])), (2, ((1, 1, 0, 0), (0, 0, 0), (0, 0), [])), (4, ((0, 0, 12, 1), (0, 0, 0), (0, 0), []))], [], [((2, 215, 4), 0, 12)]), 0, [(4, 0)])]
def bl_X9_heapOf_at_12 : List aB := [(0, vb_X9_heapOf_0, some 16), (16, vb_X9_heapOf_16, some 51), (51, vb_X9_heapOf_51, some 57), (57, vb_X9_heapOf_57, none)]
def cz_X9_heapOf_at_12 : List (Nat × aC) := []
theorem ck_X9_heapOf_at_12 : csOK cz_X9_heapOf_at_12 := trivial
theorem cv_X9_heapOf_at_12 : blOK kd_X9_heapOf bl_X9_heapOf_at_12 := ⟨ve_X9_heapOf_0, ve_X9_heapOf_16, ve_X9_heapOf_51, ve_X9_heapOf_57, trivial⟩
theorem ch_X9_heapOf_at_12 : amchk ta_X9_heapOf_at_12 bl_X9_heapOf_at_12 cz_X9_heapOf_at_12 cc_X9_heapOf_at_12 = true := by decide +kernel
theorem ct_X9_heapOf_at_12 : CtOK cc_X9_heapOf_at_12 := am_ok' (T := ta_X9_heapOf_at_12) (B := bl_X9_heapOf_at_12) (cs := cz_X9_heapOf_at_12) vm_X9_heapOf cv_X9_heapOf_at_12 (by decide +kernel) ch_X9_heapOf_at_12 ck_X9_heapOf_at_12
def cc_X9_heapOf_at_13 : aC := (89, 1, [(2, 0, 0, 9), (0, 13, 13, 0)], some (0, 0, 13, 1), [], 0, [54, 5009], [((2, 215, 4), 0, 13)], [], [((2, 215, 4), 0, 14)])
def ta_X9_heapOf_at_13 : List aL := [(0, ([(0, ((2, 0, 0, 9), (0, 0, 0), (0, 0), [])), (1, ((0, 13, 13, 0), (0, 0, 0), (0, 0), []))], [], [((2, 215, 4), 0, 13)]), 43, [(4, 0)]),
  (16, ([(0, ((2, 0, 0, 9), (0, 0, 0), (0, 0), [])), (1, ((0, 13, 13, 0), (0, 0, 0), (0, 0), [])), (2, ((1, 1, 0, 0), (0, 0, 0), (0, 0), [])), (4, ((0, 0, 13, 1), (0, 0, 0), (0, 0), []))], [], [((2, 215, 4), 0, 13)]), 41, [(4, -3)]),
  (51, ([(0, ((2, 0, 0, 9), (0, 0, 0), (0, 0), [])), (1, ((0, 13, 13, 0), (0, 0, 0), (0, 0), [])), (2, ((1, 1, 0, 0), (0, 0, 0), (0, 0), [])), (4, ((0, 0, 12, 1), (0, 0, 0), (0, 0), []))], [], [((2, 215, 4), 1, 13)]), 40, [(4, -3)]),
  (57, ([(0, ((2, 0, 0, 9), (0, 0, 0), (0, 0), [])), (1, ((0, 13, 13, 0), (0, 0, 0), (0, 0), [])), (2, ((1, 1, 0, 0), (0, 0, 0), (0, 0), [])), (4, ((0, 0, 13, 1), (0, 0, 0), (0, 0), []))], [], [((2, 215, 4), 0, 13)]), 0, [(4, 0)])]
def bl_X9_heapOf_at_13 : List aB := [(0, vb_X9_heapOf_0, some 16), (16, vb_X9_heapOf_16, some 51), (51, vb_X9_heapOf_51, some 57), (57, vb_X9_heapOf_57, none)]
def cz_X9_heapOf_at_13 : List (Nat × aC) := []
theorem ck_X9_heapOf_at_13 : csOK cz_X9_heapOf_at_13 := trivial
theorem cv_X9_heapOf_at_13 : blOK kd_X9_heapOf bl_X9_heapOf_at_13 := ⟨ve_X9_heapOf_0, ve_X9_heapOf_16, ve_X9_heapOf_51, ve_X9_heapOf_57, trivial⟩
theorem ch_X9_heapOf_at_13 : amchk ta_X9_heapOf_at_13 bl_X9_heapOf_at_13 cz_X9_heapOf_at_13 cc_X9_heapOf_at_13 = true := by decide +kernel
theorem ct_X9_heapOf_at_13 : CtOK cc_X9_heapOf_at_13 := am_ok' (T := ta_X9_heapOf_at_13) (B := bl_X9_heapOf_at_13) (cs := cz_X9_heapOf_at_13) vm_X9_heapOf cv_X9_heapOf_at_13 (by decide +kernel) ch_X9_heapOf_at_13 ck_X9_heapOf_at_13
def cc_X9_heapOf_at_14 : aC := (89, 1, [(2, 0, 0, 9), (0, 14, 14, 0)], some (0, 0, 14, 1), [], 0, [54, 5009], [((2, 215, 4), 0, 14)], [], [((2, 215, 4), 0, 15)])
def ta_X9_heapOf_at_14 : List aL := [(0, ([(0, ((2, 0, 0, 9), (0, 0, 0), (0, 0), [])), (1, ((0, 14, 14, 0), (0, 0, 0), (0, 0), []))], [], [((2, 215, 4), 0, 14)]), 49, [(4, 0)]),
  (16, ([(0, ((2, 0, 0, 9), (0, 0, 0), (0, 0), [])), (1, ((0, 14, 14, 0), (0, 0, 0), (0, 0), [])), (2, ((1, 1, 0, 0), (0, 0, 0), (0, 0), [])), (4, ((0, 0, 15, 1), (0, 0, 0), (0, 0), []))], [], [((2, 215, 4), 0, 14)]), 47, [(4, -3)]),
  (51, ([(0, ((2, 0, 0, 9), (0, 0, 0), (0, 0), [])), (1, ((0, 14, 14, 0), (0, 0, 0), (0, 0), [])), (2, ((1, 1, 0, 0), (0, 0, 0), (0, 0), [])), (4, ((0, 0, 14, 1), (0, 0, 0), (0, 0), []))], [], [((2, 215, 4), 1, 14)]), 46, [(4, -3)]),
  (57, ([(0, ((2, 0, 0, 9), (0, 0, 0), (0, 0), [])), (1, ((0, 14, 14, 0), (0, 0, 0), (0, 0), [])), (2, ((1, 1, 0, 0), (0, 0, 0), (0, 0), [])), (4, ((0, 0, 15, 1), (0, 0, 0), (0, 0), []))], [], [((2, 215, 4), 0, 14)]), 0, [(4, 0)])]
def bl_X9_heapOf_at_14 : List aB := [(0, vb_X9_heapOf_0, some 16), (16, vb_X9_heapOf_16, some 51), (51, vb_X9_heapOf_51, some 57), (57, vb_X9_heapOf_57, none)]
def cz_X9_heapOf_at_14 : List (Nat × aC) := []
theorem ck_X9_heapOf_at_14 : csOK cz_X9_heapOf_at_14 := trivial
theorem cv_X9_heapOf_at_14 : blOK kd_X9_heapOf bl_X9_heapOf_at_14 := ⟨ve_X9_heapOf_0, ve_X9_heapOf_16, ve_X9_heapOf_51, ve_X9_heapOf_57, trivial⟩
theorem ch_X9_heapOf_at_14 : amchk ta_X9_heapOf_at_14 bl_X9_heapOf_at_14 cz_X9_heapOf_at_14 cc_X9_heapOf_at_14 = true := by decide +kernel
theorem ct_X9_heapOf_at_14 : CtOK cc_X9_heapOf_at_14 := am_ok' (T := ta_X9_heapOf_at_14) (B := bl_X9_heapOf_at_14) (cs := cz_X9_heapOf_at_14) vm_X9_heapOf cv_X9_heapOf_at_14 (by decide +kernel) ch_X9_heapOf_at_14 ck_X9_heapOf_at_14
def cc_X9_heapOf_at_15 : aC := (89, 1, [(2, 0, 0, 9), (0, 15, 15, 0)], some (0, 0, 15, 1), [], 0, [54, 5009], [((2, 215, 4), 0, 15)], [], [((2, 215, 4), 0, 16)])
def ta_X9_heapOf_at_15 : List aL := [(0, ([(0, ((2, 0, 0, 9), (0, 0, 0), (0, 0), [])), (1, ((0, 15, 15, 0), (0, 0, 0), (0, 0), []))], [], [((2, 215, 4), 0, 15)]), 52, [(4, 0)]),
  (16, ([(0, ((2, 0, 0, 9), (0, 0, 0), (0, 0), [])), (1, ((0, 15, 15, 0), (0, 0, 0), (0, 0), [])), (2, ((1, 1, 0, 0), (0, 0, 0), (0, 0), [])), (4, ((0, 0, 16, 1), (0, 0, 0), (0, 0), []))], [], [((2, 215, 4), 0, 15)]), 50, [(4, -3)]),
  (51, ([(0, ((2, 0, 0, 9), (0, 0, 0), (0, 0), [])), (1, ((0, 15, 15, 0), (0, 0, 0), (0, 0), [])), (2, ((1, 1, 0, 0), (0, 0, 0), (0, 0), [])), (4, ((0, 0, 15, 1), (0, 0, 0), (0, 0), []))], [], [((2, 215, 4), 1, 15)]), 49, [(4, -3)]),
  (57, ([(0, ((2, 0, 0, 9), (0, 0, 0), (0, 0), [])), (1, ((0, 15, 15, 0), (0, 0, 0), (0, 0), [])), (2, ((1, 1, 0, 0), (0, 0, 0), (0, 0), [])), (4, ((0, 0, 16, 1), (0, 0, 0), (0, 0), []))], [], [((2, 215, 4), 0, 15)]), 0, [(4, 0)])]
def bl_X9_heapOf_at_15 : List aB := [(0, vb_X9_heapOf_0, some 16), (16, vb_X9_heapOf_16, some 51), (51, vb_X9_heapOf_51, some 57), (57, vb_X9_heapOf_57, none)]
def cz_X9_heapOf_at_15 : List (Nat × aC) := []
theorem ck_X9_heapOf_at_15 : csOK cz_X9_heapOf_at_15 := trivial
theorem cv_X9_heapOf_at_15 : blOK kd_X9_heapOf bl_X9_heapOf_at_15 := ⟨ve_X9_heapOf_0, ve_X9_heapOf_16, ve_X9_heapOf_51, ve_X9_heapOf_57, trivial⟩
theorem ch_X9_heapOf_at_15 : amchk ta_X9_heapOf_at_15 bl_X9_heapOf_at_15 cz_X9_heapOf_at_15 cc_X9_heapOf_at_15 = true := by decide +kernel
theorem ct_X9_heapOf_at_15 : CtOK cc_X9_heapOf_at_15 := am_ok' (T := ta_X9_heapOf_at_15) (B := bl_X9_heapOf_at_15) (cs := cz_X9_heapOf_at_15) vm_X9_heapOf cv_X9_heapOf_at_15 (by decide +kernel) ch_X9_heapOf_at_15 ck_X9_heapOf_at_15
def cc_X9_heapOf_at_16 : aC := (89, 1, [(2, 0, 0, 9), (0, 16, 16, 0)], some (0, 0, 16, 1), [], 0, [54, 5009], [((2, 215, 4), 0, 16)], [], [((2, 215, 4), 0, 17)])
def ta_X9_heapOf_at_16 : List aL := [(0, ([(0, ((2, 0, 0, 9), (0, 0, 0), (0, 0), [])), (1, ((0, 16, 16, 0), (0, 0, 0), (0, 0), []))], [], [((2, 215, 4), 0, 16)]), 55, [(4, 0)]),
  (16, ([(0, ((2, 0, 0, 9), (0, 0, 0), (0, 0), [])), (1, ((0, 16, 16, 0), (0, 0, 0), (0, 0), [])), (2, ((1, 1, 0, 0), (0, 0, 0), (0, 0), [])), (4, ((0, 0, 17, 1), (0, 0, 0), (0, 0), []))], [], [((2, 215, 4), 0, 16)]), 53, [(4, -3)]),
  (51, ([(0, ((2, 0, 0, 9), (0, 0, 0), (0, 0), [])), (1, ((0, 16, 16, 0), (0, 0, 0), (0, 0), [])), (2, ((1, 1, 0, 0), (0, 0, 0), (0, 0), [])), (4, ((0, 0, 16, 1), (0, 0, 0), (0, 0), []))], [], [((2, 215, 4), 1, 16)]), 52, [(4, -3)]),
  (57, ([(0, ((2, 0, 0, 9), (0, 0, 0), (0, 0), [])), (1, ((0, 16, 16, 0), (0, 0, 0), (0, 0), [])), (2, ((1, 1, 0, 0), (0, 0, 0), (0, 0), [])), (4, ((0, 0, 17, 1), (0, 0, 0), (0, 0), []))], [], [((2, 215, 4), 0, 16)]), 0, [(4, 0)])]
def bl_X9_heapOf_at_16 : List aB := [(0, vb_X9_heapOf_0, some 16), (16, vb_X9_heapOf_16, some 51), (51, vb_X9_heapOf_51, some 57), (57, vb_X9_heapOf_57, none)]
def cz_X9_heapOf_at_16 : List (Nat × aC) := []
theorem ck_X9_heapOf_at_16 : csOK cz_X9_heapOf_at_16 := trivial
theorem cv_X9_heapOf_at_16 : blOK kd_X9_heapOf bl_X9_heapOf_at_16 := ⟨ve_X9_heapOf_0, ve_X9_heapOf_16, ve_X9_heapOf_51, ve_X9_heapOf_57, trivial⟩
theorem ch_X9_heapOf_at_16 : amchk ta_X9_heapOf_at_16 bl_X9_heapOf_at_16 cz_X9_heapOf_at_16 cc_X9_heapOf_at_16 = true := by decide +kernel
theorem ct_X9_heapOf_at_16 : CtOK cc_X9_heapOf_at_16 := am_ok' (T := ta_X9_heapOf_at_16) (B := bl_X9_heapOf_at_16) (cs := cz_X9_heapOf_at_16) vm_X9_heapOf cv_X9_heapOf_at_16 (by decide +kernel) ch_X9_heapOf_at_16 ck_X9_heapOf_at_16
def cc_X9_heapOf_at_17 : aC := (89, 1, [(2, 0, 0, 9), (0, 17, 17, 0)], some (0, 0, 17, 1), [], 0, [54, 5009], [((2, 215, 4), 0, 17)], [], [((2, 215, 4), 0, 18)])
def ta_X9_heapOf_at_17 : List aL := [(0, ([(0, ((2, 0, 0, 9), (0, 0, 0), (0, 0), [])), (1, ((0, 17, 17, 0), (0, 0, 0), (0, 0), []))], [], [((2, 215, 4), 0, 17)]), 55, [(4, 0)]),
  (16, ([(0, ((2, 0, 0, 9), (0, 0, 0), (0, 0), [])), (1, ((0, 17, 17, 0), (0, 0, 0), (0, 0), [])), (2, ((1, 1, 0, 0), (0, 0, 0), (0, 0), [])), (4, ((0, 0, 17, 1), (0, 0, 0), (0, 0), []))], [], [((2, 215, 4), 0, 17)]), 53, [(4, -3)]),
  (51, ([(0, ((2, 0, 0, 9), (0, 0, 0), (0, 0), [])), (1, ((0, 17, 17, 0), (0, 0, 0), (0, 0), [])), (2, ((1, 1, 0, 0), (0, 0, 0), (0, 0), [])), (4, ((0, 0, 16, 1), (0, 0, 0), (0, 0), []))], [], [((2, 215, 4), 1, 17)]), 52, [(4, -3)]),
  (57, ([(0, ((2, 0, 0, 9), (0, 0, 0), (0, 0), [])), (1, ((0, 17, 17, 0), (0, 0, 0), (0, 0), [])), (2, ((1, 1, 0, 0), (0, 0, 0), (0, 0), [])), (4, ((0, 0, 17, 1), (0, 0, 0), (0, 0), []))], [], [((2, 215, 4), 0, 17)]), 0, [(4, 0)])]
def bl_X9_heapOf_at_17 : List aB := [(0, vb_X9_heapOf_0, some 16), (16, vb_X9_heapOf_16, some 51), (51, vb_X9_heapOf_51, some 57), (57, vb_X9_heapOf_57, none)]
def cz_X9_heapOf_at_17 : List (Nat × aC) := []
theorem ck_X9_heapOf_at_17 : csOK cz_X9_heapOf_at_17 := trivial
theorem cv_X9_heapOf_at_17 : blOK kd_X9_heapOf bl_X9_heapOf_at_17 := ⟨ve_X9_heapOf_0, ve_X9_heapOf_16, ve_X9_heapOf_51, ve_X9_heapOf_57, trivial⟩
theorem ch_X9_heapOf_at_17 : amchk ta_X9_heapOf_at_17 bl_X9_heapOf_at_17 cz_X9_heapOf_at_17 cc_X9_heapOf_at_17 = true := by decide +kernel
theorem ct_X9_heapOf_at_17 : CtOK cc_X9_heapOf_at_17 := am_ok' (T := ta_X9_heapOf_at_17) (B := bl_X9_heapOf_at_17) (cs := cz_X9_heapOf_at_17) vm_X9_heapOf cv_X9_heapOf_at_17 (by decide +kernel) ch_X9_heapOf_at_17 ck_X9_heapOf_at_17
def cc_X9_heapOf_at_18 : aC := (89, 1, [(2, 0, 0, 9), (0, 18, 18, 0)], some (0, 0, 18, 1), [], 0, [54, 5009], [((2, 215, 4), 0, 18)], [], [((2, 215, 4), 0, 19)])
def ta_X9_heapOf_at_18 : List aL := [(0, ([(0, ((2, 0, 0, 9), (0, 0, 0), (0, 0), [])), (1, ((0, 18, 18, 0), (0, 0, 0), (0, 0), []))], [], [((2, 215, 4), 0, 18)]), 61, [(4, 0)]),
  (16, ([(0, ((2, 0, 0, 9), (0, 0, 0), (0, 0), [])), (1, ((0, 18, 18, 0), (0, 0, 0), (0, 0), [])), (2, ((1, 1, 0, 0), (0, 0, 0), (0, 0), [])), (4, ((0, 0, 19, 1), (0, 0, 0), (0, 0), []))], [], [((2, 215, 4), 0, 18)]), 59, [(4, -3)]),
  (51, ([(0, ((2, 0, 0, 9), (0, 0, 0), (0, 0), [])), (1, ((0, 18, 18, 0), (0, 0, 0), (0, 0), [])), (2, ((1, 1, 0, 0), (0, 0, 0), (0, 0), [])), (4, ((0, 0, 18, 1), (0, 0, 0), (0, 0), []))], [], [((2, 215, 4), 1, 18)]), 58, [(4, -3)]),
  (57, ([(0, ((2, 0, 0, 9), (0, 0, 0), (0, 0), [])), (1, ((0, 18, 18, 0), (0, 0, 0), (0, 0), [])), (2, ((1, 1, 0, 0), (0, 0, 0), (0, 0), [])), (4, ((0, 0, 19, 1), (0, 0, 0), (0, 0), []))], [], [((2, 215, 4), 0, 18)]), 0, [(4, 0)])]
def bl_X9_heapOf_at_18 : List aB := [(0, vb_X9_heapOf_0, some 16), (16, vb_X9_heapOf_16, some 51), (51, vb_X9_heapOf_51, some 57), (57, vb_X9_heapOf_57, none)]
def cz_X9_heapOf_at_18 : List (Nat × aC) := []
theorem ck_X9_heapOf_at_18 : csOK cz_X9_heapOf_at_18 := trivial
theorem cv_X9_heapOf_at_18 : blOK kd_X9_heapOf bl_X9_heapOf_at_18 := ⟨ve_X9_heapOf_0, ve_X9_heapOf_16, ve_X9_heapOf_51, ve_X9_heapOf_57, trivial⟩
theorem ch_X9_heapOf_at_18 : amchk ta_X9_heapOf_at_18 bl_X9_heapOf_at_18 cz_X9_heapOf_at_18 cc_X9_heapOf_at_18 = true := by decide +kernel
theorem ct_X9_heapOf_at_18 : CtOK cc_X9_heapOf_at_18 := am_ok' (T := ta_X9_heapOf_at_18) (B := bl_X9_heapOf_at_18) (cs := cz_X9_heapOf_at_18) vm_X9_heapOf cv_X9_heapOf_at_18 (by decide +kernel) ch_X9_heapOf_at_18 ck_X9_heapOf_at_18
def cc_X9_heapOf_at_19 : aC := (89, 1, [(2, 0, 0, 9), (0, 19, 19, 0)], some (0, 0, 19, 1), [], 0, [54, 5009], [((2, 215, 4), 0, 19)], [], [((2, 215, 4), 0, 20)])
def ta_X9_heapOf_at_19 : List aL := [(0, ([(0, ((2, 0, 0, 9), (0, 0, 0), (0, 0), [])), (1, ((0, 19, 19, 0), (0, 0, 0), (0, 0), []))], [], [((2, 215, 4), 0, 19)]), 61, [(4, 0)]),
  (16, ([(0, ((2, 0, 0, 9), (0, 0, 0), (0, 0), [])), (1, ((0, 19, 19, 0), (0, 0, 0), (0, 0), [])), (2, ((1, 1, 0, 0), (0, 0, 0), (0, 0), [])), (4, ((0, 0, 19, 1), (0, 0, 0), (0, 0), []))], [], [((2, 215, 4), 0, 19)]), 59, [(4, -3)]),
  (51, ([(0, ((2, 0, 0, 9), (0, 0, 0), (0, 0), [])), (1, ((0, 19, 19, 0), (0, 0, 0), (0, 0), [])), (2, ((1, 1, 0, 0), (0, 0, 0), (0, 0), [])), (4, ((0, 0, 18, 1), (0, 0, 0), (0, 0), []))], [], [((2, 215, 4), 1, 19)]), 58, [(4, -3)]),
  (57, ([(0, ((2, 0, 0, 9), (0, 0, 0), (0, 0), [])), (1, ((0, 19, 19, 0), (0, 0, 0), (0, 0), [])), (2, ((1, 1, 0, 0), (0, 0, 0), (0, 0), [])), (4, ((0, 0, 19, 1), (0, 0, 0), (0, 0), []))], [], [((2, 215, 4), 0, 19)]), 0, [(4, 0)])]
def bl_X9_heapOf_at_19 : List aB := [(0, vb_X9_heapOf_0, some 16), (16, vb_X9_heapOf_16, some 51), (51, vb_X9_heapOf_51, some 57), (57, vb_X9_heapOf_57, none)]
def cz_X9_heapOf_at_19 : List (Nat × aC) := []
theorem ck_X9_heapOf_at_19 : csOK cz_X9_heapOf_at_19 := trivial
theorem cv_X9_heapOf_at_19 : blOK kd_X9_heapOf bl_X9_heapOf_at_19 := ⟨ve_X9_heapOf_0, ve_X9_heapOf_16, ve_X9_heapOf_51, ve_X9_heapOf_57, trivial⟩
theorem ch_X9_heapOf_at_19 : amchk ta_X9_heapOf_at_19 bl_X9_heapOf_at_19 cz_X9_heapOf_at_19 cc_X9_heapOf_at_19 = true := by decide +kernel
theorem ct_X9_heapOf_at_19 : CtOK cc_X9_heapOf_at_19 := am_ok' (T := ta_X9_heapOf_at_19) (B := bl_X9_heapOf_at_19) (cs := cz_X9_heapOf_at_19) vm_X9_heapOf cv_X9_heapOf_at_19 (by decide +kernel) ch_X9_heapOf_at_19 ck_X9_heapOf_at_19
def cc_X9_heapOf_at_2 : aC := (89, 1, [(2, 0, 0, 9), (0, 2, 2, 0)], some (0, 0, 2, 1), [], 0, [54, 5009], [((2, 215, 4), 0, 2)], [], [((2, 215, 4), 0, 3)])
def ta_X9_heapOf_at_2 : List aL := [(0, ([(0, ((2, 0, 0, 9), (0, 0, 0), (0, 0), [])), (1, ((0, 2, 2, 0), (0, 0, 0), (0, 0), []))], [], [((2, 215, 4), 0, 2)]), 10, [(4, 0)]),
  (16, ([(0, ((2, 0, 0, 9), (0, 0, 0), (0, 0), [])), (1, ((0, 2, 2, 0), (0, 0, 0), (0, 0), [])), (2, ((1, 1, 0, 0), (0, 0, 0), (0, 0), [])), (4, ((0, 0, 2, 1), (0, 0, 0), (0, 0), []))], [], [((2, 215, 4), 0, 2)]), 8, [(4, -3)]),
  (51, ([(0, ((2, 0, 0, 9), (0, 0, 0), (0, 0), [])), (1, ((0, 2, 2, 0), (0, 0, 0), (0, 0), [])), (2, ((1, 1, 0, 0), (0, 0, 0), (0, 0), [])), (4, ((0, 0, 1, 1), (0, 0, 0), (0, 0), []))], [], [((2, 215, 4), 1, 2)]), 7, [(4, -3)]),
  (57, ([(0, ((2, 0, 0, 9), (0, 0, 0), (0, 0), [])), (1, ((0, 2, 2, 0), (0, 0, 0), (0, 0), [])), (2, ((1, 1, 0, 0), (0, 0, 0), (0, 0), [])), (4, ((0, 0, 2, 1), (0, 0, 0), (0, 0), []))], [], [((2, 215, 4), 0, 2)]), 0, [(4, 0)])]
def bl_X9_heapOf_at_2 : List aB := [(0, vb_X9_heapOf_0, some 16), (16, vb_X9_heapOf_16, some 51), (51, vb_X9_heapOf_51, some 57), (57, vb_X9_heapOf_57, none)]
def cz_X9_heapOf_at_2 : List (Nat × aC) := []
theorem ck_X9_heapOf_at_2 : csOK cz_X9_heapOf_at_2 := trivial
theorem cv_X9_heapOf_at_2 : blOK kd_X9_heapOf bl_X9_heapOf_at_2 := ⟨ve_X9_heapOf_0, ve_X9_heapOf_16, ve_X9_heapOf_51, ve_X9_heapOf_57, trivial⟩
theorem ch_X9_heapOf_at_2 : amchk ta_X9_heapOf_at_2 bl_X9_heapOf_at_2 cz_X9_heapOf_at_2 cc_X9_heapOf_at_2 = true := by decide +kernel
theorem ct_X9_heapOf_at_2 : CtOK cc_X9_heapOf_at_2 := am_ok' (T := ta_X9_heapOf_at_2) (B := bl_X9_heapOf_at_2) (cs := cz_X9_heapOf_at_2) vm_X9_heapOf cv_X9_heapOf_at_2 (by decide +kernel) ch_X9_heapOf_at_2 ck_X9_heapOf_at_2
def cc_X9_heapOf_at_20 : aC := (89, 1, [(2, 0, 0, 9), (0, 20, 20, 0)], some (0, 0, 20, 1), [], 0, [54, 5009], [((2, 215, 4), 0, 20)], [], [((2, 215, 4), 0, 21)])
def ta_X9_heapOf_at_20 : List aL := [(0, ([(0, ((2, 0, 0, 9), (0, 0, 0), (0, 0), [])), (1, ((0, 20, 20, 0), (0, 0, 0), (0, 0), []))], [], [((2, 215, 4), 0, 20)]), 67, [(4, 0)]),
  (16, ([(0, ((2, 0, 0, 9), (0, 0, 0), (0, 0), [])), (1, ((0, 20, 20, 0), (0, 0, 0), (0, 0), [])), (2, ((1, 1, 0, 0), (0, 0, 0), (0, 0), [])), (4, ((0, 0, 21, 1), (0, 0, 0), (0, 0), []))], [], [((2, 215, 4), 0, 20)]), 65, [(4, -3)]),
  (51, ([(0, ((2, 0, 0, 9), (0, 0, 0), (0, 0), [])), (1, ((0, 20, 20, 0), (0, 0, 0), (0, 0), [])), (2, ((1, 1, 0, 0), (0, 0, 0), (0, 0), [])), (4, ((0, 0, 20, 1), (0, 0, 0), (0, 0), []))], [], [((2, 215, 4), 1, 20)]), 64, [(4, -3)]),
  (57, ([(0, ((2, 0, 0, 9), (0, 0, 0), (0, 0), [])), (1, ((0, 20, 20, 0), (0, 0, 0), (0, 0), [])), (2, ((1, 1, 0, 0), (0, 0, 0), (0, 0), [])), (4, ((0, 0, 21, 1), (0, 0, 0), (0, 0), []))], [], [((2, 215, 4), 0, 20)]), 0, [(4, 0)])]
def bl_X9_heapOf_at_20 : List aB := [(0, vb_X9_heapOf_0, some 16), (16, vb_X9_heapOf_16, some 51), (51, vb_X9_heapOf_51, some 57), (57, vb_X9_heapOf_57, none)]
def cz_X9_heapOf_at_20 : List (Nat × aC) := []
theorem ck_X9_heapOf_at_20 : csOK cz_X9_heapOf_at_20 := trivial
theorem cv_X9_heapOf_at_20 : blOK kd_X9_heapOf bl_X9_heapOf_at_20 := ⟨ve_X9_heapOf_0, ve_X9_heapOf_16, ve_X9_heapOf_51, ve_X9_heapOf_57, trivial⟩
theorem ch_X9_heapOf_at_20 : amchk ta_X9_heapOf_at_20 bl_X9_heapOf_at_20 cz_X9_heapOf_at_20 cc_X9_heapOf_at_20 = true := by decide +kernel
theorem ct_X9_heapOf_at_20 : CtOK cc_X9_heapOf_at_20 := am_ok' (T := ta_X9_heapOf_at_20) (B := bl_X9_heapOf_at_20) (cs := cz_X9_heapOf_at_20) vm_X9_heapOf cv_X9_heapOf_at_20 (by decide +kernel) ch_X9_heapOf_at_20 ck_X9_heapOf_at_20
def cc_X9_heapOf_at_21 : aC := (89, 1, [(2, 0, 0, 9), (0, 21, 21, 0)], some (0, 0, 21, 1), [], 0, [54, 5009], [((2, 215, 4), 0, 21)], [], [((2, 215, 4), 0, 22)])
def ta_X9_heapOf_at_21 : List aL := [(0, ([(0, ((2, 0, 0, 9), (0, 0, 0), (0, 0), [])), (1, ((0, 21, 21, 0), (0, 0, 0), (0, 0), []))], [], [((2, 215, 4), 0, 21)]), 67, [(4, 0)]),
  (16, ([(0, ((2, 0, 0, 9), (0, 0, 0), (0, 0), [])), (1, ((0, 21, 21, 0), (0, 0, 0), (0, 0), [])), (2, ((1, 1, 0, 0), (0, 0, 0), (0, 0), [])), (4, ((0, 0, 21, 1), (0, 0, 0), (0, 0), []))], [], [((2, 215, 4), 0, 21)]), 65, [(4, -3)]),
  (51, ([(0, ((2, 0, 0, 9), (0, 0, 0), (0, 0), [])), (1, ((0, 21, 21, 0), (0, 0, 0), (0, 0), [])), (2, ((1, 1, 0, 0), (0, 0, 0), (0, 0), [])), (4, ((0, 0, 20, 1), (0, 0, 0), (0, 0), []))], [], [((2, 215, 4), 1, 21)]), 64, [(4, -3)]),
  (57, ([(0, ((2, 0, 0, 9), (0, 0, 0), (0, 0), [])), (1, ((0, 21, 21, 0), (0, 0, 0), (0, 0), [])), (2, ((1, 1, 0, 0), (0, 0, 0), (0, 0), [])), (4, ((0, 0, 21, 1), (0, 0, 0), (0, 0), []))], [], [((2, 215, 4), 0, 21)]), 0, [(4, 0)])]
def bl_X9_heapOf_at_21 : List aB := [(0, vb_X9_heapOf_0, some 16), (16, vb_X9_heapOf_16, some 51), (51, vb_X9_heapOf_51, some 57), (57, vb_X9_heapOf_57, none)]
def cz_X9_heapOf_at_21 : List (Nat × aC) := []
theorem ck_X9_heapOf_at_21 : csOK cz_X9_heapOf_at_21 := trivial
theorem cv_X9_heapOf_at_21 : blOK kd_X9_heapOf bl_X9_heapOf_at_21 := ⟨ve_X9_heapOf_0, ve_X9_heapOf_16, ve_X9_heapOf_51, ve_X9_heapOf_57, trivial⟩
theorem ch_X9_heapOf_at_21 : amchk ta_X9_heapOf_at_21 bl_X9_heapOf_at_21 cz_X9_heapOf_at_21 cc_X9_heapOf_at_21 = true := by decide +kernel
theorem ct_X9_heapOf_at_21 : CtOK cc_X9_heapOf_at_21 := am_ok' (T := ta_X9_heapOf_at_21) (B := bl_X9_heapOf_at_21) (cs := cz_X9_heapOf_at_21) vm_X9_heapOf cv_X9_heapOf_at_21 (by decide +kernel) ch_X9_heapOf_at_21 ck_X9_heapOf_at_21
def cc_X9_heapOf_at_22 : aC := (89, 1, [(2, 0, 0, 9), (0, 22, 22, 0)], some (0, 0, 22, 1), [], 0, [54, 5009], [((2, 215, 4), 0, 22)], [], [((2, 215, 4), 0, 23)])
def ta_X9_heapOf_at_22 : List aL := [(0, ([(0, ((2, 0, 0, 9), (0, 0, 0), (0, 0), [])), (1, ((0, 22, 22, 0), (0, 0, 0), (0, 0), []))], [], [((2, 215, 4), 0, 22)]), 73, [(4, 0)]),
  (16, ([(0, ((2, 0, 0, 9), (0, 0, 0), (0, 0), [])), (1, ((0, 22, 22, 0), (0, 0, 0), (0, 0), [])), (2, ((1, 1, 0, 0), (0, 0, 0), (0, 0), [])), (4, ((0, 0, 23, 1), (0, 0, 0), (0, 0), []))], [], [((2, 215, 4), 0, 22)]), 71, [(4, -3)]),
  (51, ([(0, ((2, 0, 0, 9), (0, 0, 0), (0, 0), [])), (1, ((0, 22, 22, 0), (0, 0, 0), (0, 0), [])), (2, ((1, 1, 0, 0), (0, 0, 0), (0, 0), [])), (4, ((0, 0, 22, 1), (0, 0, 0), (0, 0), []))], [], [((2, 215, 4), 1, 22)]), 70, [(4, -3)]),
  (57, ([(0, ((2, 0, 0, 9), (0, 0, 0), (0, 0), [])), (1, ((0, 22, 22, 0), (0, 0, 0), (0, 0), [])), (2, ((1, 1, 0, 0), (0, 0, 0), (0, 0), [])), (4, ((0, 0, 23, 1), (0, 0, 0), (0, 0), []))], [], [((2, 215, 4), 0, 22)]), 0, [(4, 0)])]
def bl_X9_heapOf_at_22 : List aB := [(0, vb_X9_heapOf_0, some 16), (16, vb_X9_heapOf_16, some 51), (51, vb_X9_heapOf_51, some 57), (57, vb_X9_heapOf_57, none)]
def cz_X9_heapOf_at_22 : List (Nat × aC) := []
theorem ck_X9_heapOf_at_22 : csOK cz_X9_heapOf_at_22 := trivial
theorem cv_X9_heapOf_at_22 : blOK kd_X9_heapOf bl_X9_heapOf_at_22 := ⟨ve_X9_heapOf_0, ve_X9_heapOf_16, ve_X9_heapOf_51, ve_X9_heapOf_57, trivial⟩
theorem ch_X9_heapOf_at_22 : amchk ta_X9_heapOf_at_22 bl_X9_heapOf_at_22 cz_X9_heapOf_at_22 cc_X9_heapOf_at_22 = true := by decide +kernel
theorem ct_X9_heapOf_at_22 : CtOK cc_X9_heapOf_at_22 := am_ok' (T := ta_X9_heapOf_at_22) (B := bl_X9_heapOf_at_22) (cs := cz_X9_heapOf_at_22) vm_X9_heapOf cv_X9_heapOf_at_22 (by decide +kernel) ch_X9_heapOf_at_22 ck_X9_heapOf_at_22
def cc_X9_heapOf_at_23 : aC := (89, 1, [(2, 0, 0, 9), (0, 23, 23, 0)], some (0, 0, 23, 1), [], 0, [54, 5009], [((2, 215, 4), 0, 23)], [], [((2, 215, 4), 0, 24)])
def ta_X9_heapOf_at_23 : List aL := [(0, ([(0, ((2, 0, 0, 9), (0, 0, 0), (0, 0), [])), (1, ((0, 23, 23, 0), (0, 0, 0), (0, 0), []))], [], [((2, 215, 4), 0, 23)]), 73, [(4, 0)]),
  (16, ([(0, ((2, 0, 0, 9), (0, 0, 0), (0, 0), [])), (1, ((0, 23, 23, 0), (0, 0, 0), (0, 0), [])), (2, ((1, 1, 0, 0), (0, 0, 0), (0, 0), [])), (4, ((0, 0, 23, 1), (0, 0, 0), (0, 0), []))], [], [((2, 215, 4), 0, 23)]), 71, [(4, -3)]),
  (51, ([(0, ((2, 0, 0, 9), (0, 0, 0), (0, 0), [])), (1, ((0, 23, 23, 0), (0, 0, 0), (0, 0), [])), (2, ((1, 1, 0, 0), (0, 0, 0), (0, 0), [])), (4, ((0, 0, 22, 1), (0, 0, 0), (0, 0), []))], [], [((2, 215, 4), 1, 23)]), 70, [(4, -3)]),
  (57, ([(0, ((2, 0, 0, 9), (0, 0, 0), (0, 0), [])), (1, ((0, 23, 23, 0), (0, 0, 0), (0, 0), [])), (2, ((1, 1, 0, 0), (0, 0, 0), (0, 0), [])), (4, ((0, 0, 23, 1), (0, 0, 0), (0, 0), []))], [], [((2, 215, 4), 0, 23)]), 0, [(4, 0)])]
def bl_X9_heapOf_at_23 : List aB := [(0, vb_X9_heapOf_0, some 16), (16, vb_X9_heapOf_16, some 51), (51, vb_X9_heapOf_51, some 57), (57, vb_X9_heapOf_57, none)]
def cz_X9_heapOf_at_23 : List (Nat × aC) := []
theorem ck_X9_heapOf_at_23 : csOK cz_X9_heapOf_at_23 := trivial
theorem cv_X9_heapOf_at_23 : blOK kd_X9_heapOf bl_X9_heapOf_at_23 := ⟨ve_X9_heapOf_0, ve_X9_heapOf_16, ve_X9_heapOf_51, ve_X9_heapOf_57, trivial⟩
theorem ch_X9_heapOf_at_23 : amchk ta_X9_heapOf_at_23 bl_X9_heapOf_at_23 cz_X9_heapOf_at_23 cc_X9_heapOf_at_23 = true := by decide +kernel
theorem ct_X9_heapOf_at_23 : CtOK cc_X9_heapOf_at_23 := am_ok' (T := ta_X9_heapOf_at_23) (B := bl_X9_heapOf_at_23) (cs := cz_X9_heapOf_at_23) vm_X9_heapOf cv_X9_heapOf_at_23 (by decide +kernel) ch_X9_heapOf_at_23 ck_X9_heapOf_at_23
def cc_X9_heapOf_at_24 : aC := (89, 1, [(2, 0, 0, 9), (0, 24, 24, 0)], some (0, 0, 24, 1), [], 0, [54, 5009], [((2, 215, 4), 0, 24)], [], [((2, 215, 4), 0, 25)])
def ta_X9_heapOf_at_24 : List aL := [(0, ([(0, ((2, 0, 0, 9), (0, 0, 0), (0, 0), [])), (1, ((0, 24, 24, 0), (0, 0, 0), (0, 0), []))], [], [((2, 215, 4), 0, 24)]), 79, [(4, 0)]),
  (16, ([(0, ((2, 0, 0, 9), (0, 0, 0), (0, 0), [])), (1, ((0, 24, 24, 0), (0, 0, 0), (0, 0), [])), (2, ((1, 1, 0, 0), (0, 0, 0), (0, 0), [])), (4, ((0, 0, 25, 1), (0, 0, 0), (0, 0), []))], [], [((2, 215, 4), 0, 24)]), 77, [(4, -3)]),
  (51, ([(0, ((2, 0, 0, 9), (0, 0, 0), (0, 0), [])), (1, ((0, 24, 24, 0), (0, 0, 0), (0, 0), [])), (2, ((1, 1, 0, 0), (0, 0, 0), (0, 0), [])), (4, ((0, 0, 24, 1), (0, 0, 0), (0, 0), []))], [], [((2, 215, 4), 1, 24)]), 76, [(4, -3)]),
  (57, ([(0, ((2, 0, 0, 9), (0, 0, 0), (0, 0), [])), (1, ((0, 24, 24, 0), (0, 0, 0), (0, 0), [])), (2, ((1, 1, 0, 0), (0, 0, 0), (0, 0), [])), (4, ((0, 0, 25, 1), (0, 0, 0), (0, 0), []))], [], [((2, 215, 4), 0, 24)]), 0, [(4, 0)])]
def bl_X9_heapOf_at_24 : List aB := [(0, vb_X9_heapOf_0, some 16), (16, vb_X9_heapOf_16, some 51), (51, vb_X9_heapOf_51, some 57), (57, vb_X9_heapOf_57, none)]
def cz_X9_heapOf_at_24 : List (Nat × aC) := []
theorem ck_X9_heapOf_at_24 : csOK cz_X9_heapOf_at_24 := trivial
theorem cv_X9_heapOf_at_24 : blOK kd_X9_heapOf bl_X9_heapOf_at_24 := ⟨ve_X9_heapOf_0, ve_X9_heapOf_16, ve_X9_heapOf_51, ve_X9_heapOf_57, trivial⟩
theorem ch_X9_heapOf_at_24 : amchk ta_X9_heapOf_at_24 bl_X9_heapOf_at_24 cz_X9_heapOf_at_24 cc_X9_heapOf_at_24 = true := by decide +kernel
theorem ct_X9_heapOf_at_24 : CtOK cc_X9_heapOf_at_24 := am_ok' (T := ta_X9_heapOf_at_24) (B := bl_X9_heapOf_at_24) (cs := cz_X9_heapOf_at_24) vm_X9_heapOf cv_X9_heapOf_at_24 (by decide +kernel) ch_X9_heapOf_at_24 ck_X9_heapOf_at_24
def cc_X9_heapOf_at_25 : aC := (89, 1, [(2, 0, 0, 9), (0, 25, 25, 0)], some (0, 0, 25, 1), [], 0, [54, 5009], [((2, 215, 4), 0, 25)], [], [((2, 215, 4), 0, 26)])
def ta_X9_heapOf_at_25 : List aL := [(0, ([(0, ((2, 0, 0, 9), (0, 0, 0), (0, 0), [])), (1, ((0, 25, 25, 0), (0, 0, 0), (0, 0), []))], [], [((2, 215, 4), 0, 25)]), 79, [(4, 0)]),
  (16, ([(0, ((2, 0, 0, 9), (0, 0, 0), (0, 0), [])), (1, ((0, 25, 25, 0), (0, 0, 0), (0, 0), [])), (2, ((1, 1, 0, 0), (0, 0, 0), (0, 0), [])), (4, ((0, 0, 25, 1), (0, 0, 0), (0, 0), []))], [], [((2, 215, 4), 0, 25)]), 77, [(4, -3)]),
  (51, ([(0, ((2, 0, 0, 9), (0, 0, 0), (0, 0), [])), (1, ((0, 25, 25, 0), (0, 0, 0), (0, 0), [])), (2, ((1, 1, 0, 0), (0, 0, 0), (0, 0), [])), (4, ((0, 0, 24, 1), (0, 0, 0), (0, 0), []))], [], [((2, 215, 4), 1, 25)]), 76, [(4, -3)]),
  (57, ([(0, ((2, 0, 0, 9), (0, 0, 0), (0, 0), [])), (1, ((0, 25, 25, 0), (0, 0, 0), (0, 0), [])), (2, ((1, 1, 0, 0), (0, 0, 0), (0, 0), [])), (4, ((0, 0, 25, 1), (0, 0, 0), (0, 0), []))], [], [((2, 215, 4), 0, 25)]), 0, [(4, 0)])]
def bl_X9_heapOf_at_25 : List aB := [(0, vb_X9_heapOf_0, some 16), (16, vb_X9_heapOf_16, some 51), (51, vb_X9_heapOf_51, some 57), (57, vb_X9_heapOf_57, none)]
def cz_X9_heapOf_at_25 : List (Nat × aC) := []
theorem ck_X9_heapOf_at_25 : csOK cz_X9_heapOf_at_25 := trivial
theorem cv_X9_heapOf_at_25 : blOK kd_X9_heapOf bl_X9_heapOf_at_25 := ⟨ve_X9_heapOf_0, ve_X9_heapOf_16, ve_X9_heapOf_51, ve_X9_heapOf_57, trivial⟩
theorem ch_X9_heapOf_at_25 : amchk ta_X9_heapOf_at_25 bl_X9_heapOf_at_25 cz_X9_heapOf_at_25 cc_X9_heapOf_at_25 = true := by decide +kernel
theorem ct_X9_heapOf_at_25 : CtOK cc_X9_heapOf_at_25 := am_ok' (T := ta_X9_heapOf_at_25) (B := bl_X9_heapOf_at_25) (cs := cz_X9_heapOf_at_25) vm_X9_heapOf cv_X9_heapOf_at_25 (by decide +kernel) ch_X9_heapOf_at_25 ck_X9_heapOf_at_25
def cc_X9_heapOf_at_26 : aC := (89, 1, [(2, 0, 0, 9), (0, 26, 26, 0)], some (0, 0, 26, 1), [], 0, [54, 5009], [((2, 215, 4), 0, 26)], [], [((2, 215, 4), 0, 27)])
def ta_X9_heapOf_at_26 : List aL := [(0, ([(0, ((2, 0, 0, 9), (0, 0, 0), (0, 0), [])), (1, ((0, 26, 26, 0), (0, 0, 0), (0, 0), []))], [], [((2, 215, 4), 0, 26)]), 85, [(4, 0)]),
  (16, ([(0, ((2, 0, 0, 9), (0, 0, 0), (0, 0), [])), (1, ((0, 26, 26, 0), (0, 0, 0), (0, 0), [])), (2, ((1, 1, 0, 0), (0, 0, 0), (0, 0), [])), (4, ((0, 0, 27, 1), (0, 0, 0), (0, 0), []))], [], [((2, 215, 4), 0, 26)]), 83, [(4, -3)]),
  (51, ([(0, ((2, 0, 0, 9), (0, 0, 0), (0, 0), [])), (1, ((0, 26, 26, 0), (0, 0, 0), (0, 0), [])), (2, ((1, 1, 0, 0), (0, 0, 0), (0, 0), [])), (4, ((0, 0, 26, 1), (0, 0, 0), (0, 0), []))], [], [((2, 215, 4), 1, 26)]), 82, [(4, -3)]),
  (57, ([(0, ((2, 0, 0, 9), (0, 0, 0), (0, 0), [])), (1, ((0, 26, 26, 0), (0, 0, 0), (0, 0), [])), (2, ((1, 1, 0, 0), (0, 0, 0), (0, 0), [])), (4, ((0, 0, 27, 1), (0, 0, 0), (0, 0), []))], [], [((2, 215, 4), 0, 26)]), 0, [(4, 0)])]
def bl_X9_heapOf_at_26 : List aB := [(0, vb_X9_heapOf_0, some 16), (16, vb_X9_heapOf_16, some 51), (51, vb_X9_heapOf_51, some 57), (57, vb_X9_heapOf_57, none)]
def cz_X9_heapOf_at_26 : List (Nat × aC) := []
theorem ck_X9_heapOf_at_26 : csOK cz_X9_heapOf_at_26 := trivial
theorem cv_X9_heapOf_at_26 : blOK kd_X9_heapOf bl_X9_heapOf_at_26 := ⟨ve_X9_heapOf_0, ve_X9_heapOf_16, ve_X9_heapOf_51, ve_X9_heapOf_57, trivial⟩
theorem ch_X9_heapOf_at_26 : amchk ta_X9_heapOf_at_26 bl_X9_heapOf_at_26 cz_X9_heapOf_at_26 cc_X9_heapOf_at_26 = true := by decide +kernel
theorem ct_X9_heapOf_at_26 : CtOK cc_X9_heapOf_at_26 := am_ok' (T := ta_X9_heapOf_at_26) (B := bl_X9_heapOf_at_26) (cs := cz_X9_heapOf_at_26) vm_X9_heapOf cv_X9_heapOf_at_26 (by decide +kernel) ch_X9_heapOf_at_26 ck_X9_heapOf_at_26
def cc_X9_heapOf_at_27 : aC := (89, 1, [(2, 0, 0, 9), (0, 27, 27, 0)], some (0, 0, 27, 1), [], 0, [54, 5009], [((2, 215, 4), 0, 27)], [], [((2, 215, 4), 0, 28)])
def ta_X9_heapOf_at_27 : List aL := [(0, ([(0, ((2, 0, 0, 9), (0, 0, 0), (0, 0), [])), (1, ((0, 27, 27, 0), (0, 0, 0), (0, 0), []))], [], [((2, 215, 4), 0, 27)]), 85, [(4, 0)]),
  (16, ([(0, ((2, 0, 0, 9), (0, 0, 0), (0, 0), [])), (1, ((0, 27, 27, 0), (0, 0, 0), (0, 0), [])), (2, ((1, 1, 0, 0), (0, 0, 0), (0, 0), [])), (4, ((0, 0, 27, 1), (0, 0, 0), (0, 0), []))], [], [((2, 215, 4), 0, 27)]), 83, [(4, -3)]),
  (51, ([(0, ((2, 0, 0, 9), (0, 0, 0), (0, 0), [])), (1, ((0, 27, 27, 0), (0, 0, 0), (0, 0), [])), (2, ((1, 1, 0, 0), (0, 0, 0), (0, 0), [])), (4, ((0, 0, 26, 1), (0, 0, 0), (0, 0), []))], [], [((2, 215, 4), 1, 27)]), 82, [(4, -3)]),
  (57, ([(0, ((2, 0, 0, 9), (0, 0, 0), (0, 0), [])), (1, ((0, 27, 27, 0), (0, 0, 0), (0, 0), [])), (2, ((1, 1, 0, 0), (0, 0, 0), (0, 0), [])), (4, ((0, 0, 27, 1), (0, 0, 0), (0, 0), []))], [], [((2, 215, 4), 0, 27)]), 0, [(4, 0)])]
def bl_X9_heapOf_at_27 : List aB := [(0, vb_X9_heapOf_0, some 16), (16, vb_X9_heapOf_16, some 51), (51, vb_X9_heapOf_51, some 57), (57, vb_X9_heapOf_57, none)]
def cz_X9_heapOf_at_27 : List (Nat × aC) := []
theorem ck_X9_heapOf_at_27 : csOK cz_X9_heapOf_at_27 := trivial
theorem cv_X9_heapOf_at_27 : blOK kd_X9_heapOf bl_X9_heapOf_at_27 := ⟨ve_X9_heapOf_0, ve_X9_heapOf_16, ve_X9_heapOf_51, ve_X9_heapOf_57, trivial⟩
theorem ch_X9_heapOf_at_27 : amchk ta_X9_heapOf_at_27 bl_X9_heapOf_at_27 cz_X9_heapOf_at_27 cc_X9_heapOf_at_27 = true := by decide +kernel
theorem ct_X9_heapOf_at_27 : CtOK cc_X9_heapOf_at_27 := am_ok' (T := ta_X9_heapOf_at_27) (B := bl_X9_heapOf_at_27) (cs := cz_X9_heapOf_at_27) vm_X9_heapOf cv_X9_heapOf_at_27 (by decide +kernel) ch_X9_heapOf_at_27 ck_X9_heapOf_at_27
def cc_X9_heapOf_at_28 : aC := (89, 1, [(2, 0, 0, 9), (0, 28, 28, 0)], some (0, 0, 28, 1), [], 0, [54, 5009], [((2, 215, 4), 0, 28)], [], [((2, 215, 4), 0, 29)])
def ta_X9_heapOf_at_28 : List aL := [(0, ([(0, ((2, 0, 0, 9), (0, 0, 0), (0, 0), [])), (1, ((0, 28, 28, 0), (0, 0, 0), (0, 0), []))], [], [((2, 215, 4), 0, 28)]), 91, [(4, 0)]),
  (16, ([(0, ((2, 0, 0, 9), (0, 0, 0), (0, 0), [])), (1, ((0, 28, 28, 0), (0, 0, 0), (0, 0), [])), (2, ((1, 1, 0, 0), (0, 0, 0), (0, 0), [])), (4, ((0, 0, 29, 1), (0, 0, 0), (0, 0), []))], [], [((2, 215, 4), 0, 28)]), 89, [(4, -3)]),
  (51, ([(0, ((2, 0, 0, 9), (0, 0, 0), (0, 0), [])), (1, ((0, 28, 28, 0), (0, 0, 0), (0, 0), [])), (2, ((1, 1, 0, 0), (0, 0, 0), (0, 0), [])), (4, ((0, 0, 28, 1), (0, 0, 0), (0, 0), []))], [], [((2, 215, 4), 1, 28)]), 88, [(4, -3)]),
  (57, ([(0, ((2, 0, 0, 9), (0, 0, 0), (0, 0), [])), (1, ((0, 28, 28, 0), (0, 0, 0), (0, 0), [])), (2, ((1, 1, 0, 0), (0, 0, 0), (0, 0), [])), (4, ((0, 0, 29, 1), (0, 0, 0), (0, 0), []))], [], [((2, 215, 4), 0, 28)]), 0, [(4, 0)])]
def bl_X9_heapOf_at_28 : List aB := [(0, vb_X9_heapOf_0, some 16), (16, vb_X9_heapOf_16, some 51), (51, vb_X9_heapOf_51, some 57), (57, vb_X9_heapOf_57, none)]
def cz_X9_heapOf_at_28 : List (Nat × aC) := []
theorem ck_X9_heapOf_at_28 : csOK cz_X9_heapOf_at_28 := trivial
theorem cv_X9_heapOf_at_28 : blOK kd_X9_heapOf bl_X9_heapOf_at_28 := ⟨ve_X9_heapOf_0, ve_X9_heapOf_16, ve_X9_heapOf_51, ve_X9_heapOf_57, trivial⟩
theorem ch_X9_heapOf_at_28 : amchk ta_X9_heapOf_at_28 bl_X9_heapOf_at_28 cz_X9_heapOf_at_28 cc_X9_heapOf_at_28 = true := by decide +kernel
theorem ct_X9_heapOf_at_28 : CtOK cc_X9_heapOf_at_28 := am_ok' (T := ta_X9_heapOf_at_28) (B := bl_X9_heapOf_at_28) (cs := cz_X9_heapOf_at_28) vm_X9_heapOf cv_X9_heapOf_at_28 (by decide +kernel) ch_X9_heapOf_at_28 ck_X9_heapOf_at_28
def cc_X9_heapOf_at_29 : aC := (89, 1, [(2, 0, 0, 9), (0, 29, 29, 0)], some (0, 0, 29, 1), [], 0, [54, 5009], [((2, 215, 4), 0, 29)], [], [((2, 215, 4), 0, 30)])
def ta_X9_heapOf_at_29 : List aL := [(0, ([(0, ((2, 0, 0, 9), (0, 0, 0), (0, 0), [])), (1, ((0, 29, 29, 0), (0, 0, 0), (0, 0), []))], [], [((2, 215, 4), 0, 29)]), 91, [(4, 0)]),
  (16, ([(0, ((2, 0, 0, 9), (0, 0, 0), (0, 0), [])), (1, ((0, 29, 29, 0), (0, 0, 0), (0, 0), [])), (2, ((1, 1, 0, 0), (0, 0, 0), (0, 0), [])), (4, ((0, 0, 29, 1), (0, 0, 0), (0, 0), []))], [], [((2, 215, 4), 0, 29)]), 89, [(4, -3)]),
  (51, ([(0, ((2, 0, 0, 9), (0, 0, 0), (0, 0), [])), (1, ((0, 29, 29, 0), (0, 0, 0), (0, 0), [])), (2, ((1, 1, 0, 0), (0, 0, 0), (0, 0), [])), (4, ((0, 0, 28, 1), (0, 0, 0), (0, 0), []))], [], [((2, 215, 4), 1, 29)]), 88, [(4, -3)]),
  (57, ([(0, ((2, 0, 0, 9), (0, 0, 0), (0, 0), [])), (1, ((0, 29, 29, 0), (0, 0, 0), (0, 0), [])), (2, ((1, 1, 0, 0), (0, 0, 0), (0, 0), [])), (4, ((0, 0, 29, 1), (0, 0, 0), (0, 0), []))], [], [((2, 215, 4), 0, 29)]), 0, [(4, 0)])]
def bl_X9_heapOf_at_29 : List aB := [(0, vb_X9_heapOf_0, some 16), (16, vb_X9_heapOf_16, some 51), (51, vb_X9_heapOf_51, some 57), (57, vb_X9_heapOf_57, none)]
def cz_X9_heapOf_at_29 : List (Nat × aC) := []
theorem ck_X9_heapOf_at_29 : csOK cz_X9_heapOf_at_29 := trivial
theorem cv_X9_heapOf_at_29 : blOK kd_X9_heapOf bl_X9_heapOf_at_29 := ⟨ve_X9_heapOf_0, ve_X9_heapOf_16, ve_X9_heapOf_51, ve_X9_heapOf_57, trivial⟩
theorem ch_X9_heapOf_at_29 : amchk ta_X9_heapOf_at_29 bl_X9_heapOf_at_29 cz_X9_heapOf_at_29 cc_X9_heapOf_at_29 = true := by decide +kernel
theorem ct_X9_heapOf_at_29 : CtOK cc_X9_heapOf_at_29 := am_ok' (T := ta_X9_heapOf_at_29) (B := bl_X9_heapOf_at_29) (cs := cz_X9_heapOf_at_29) vm_X9_heapOf cv_X9_heapOf_at_29 (by decide +kernel) ch_X9_heapOf_at_29 ck_X9_heapOf_at_29
def cc_X9_heapOf_at_3 : aC := (89, 1, [(2, 0, 0, 9), (0, 3, 3, 0)], some (0, 0, 3, 1), [], 0, [54, 5009], [((2, 215, 4), 0, 3)], [], [((2, 215, 4), 0, 4)])
def ta_X9_heapOf_at_3 : List aL := [(0, ([(0, ((2, 0, 0, 9), (0, 0, 0), (0, 0), [])), (1, ((0, 3, 3, 0), (0, 0, 0), (0, 0), []))], [], [((2, 215, 4), 0, 3)]), 13, [(4, 0)]),
  (16, ([(0, ((2, 0, 0, 9), (0, 0, 0), (0, 0), [])), (1, ((0, 3, 3, 0), (0, 0, 0), (0, 0), [])), (2, ((1, 1, 0, 0), (0, 0, 0), (0, 0), [])), (4, ((0, 0, 3, 1), (0, 0, 0), (0, 0), []))], [], [((2, 215, 4), 0, 3)]), 11, [(4, -3)]),
  (51, ([(0, ((2, 0, 0, 9), (0, 0, 0), (0, 0), [])), (1, ((0, 3, 3, 0), (0, 0, 0), (0, 0), [])), (2, ((1, 1, 0, 0), (0, 0, 0), (0, 0), [])), (4, ((0, 0, 2, 1), (0, 0, 0), (0, 0), []))], [], [((2, 215, 4), 1, 3)]), 10, [(4, -3)]),
  (57, ([(0, ((2, 0, 0, 9), (0, 0, 0), (0, 0), [])), (1, ((0, 3, 3, 0), (0, 0, 0), (0, 0), [])), (2, ((1, 1, 0, 0), (0, 0, 0), (0, 0), [])), (4, ((0, 0, 3, 1), (0, 0, 0), (0, 0), []))], [], [((2, 215, 4), 0, 3)]), 0, [(4, 0)])]
def bl_X9_heapOf_at_3 : List aB := [(0, vb_X9_heapOf_0, some 16), (16, vb_X9_heapOf_16, some 51), (51, vb_X9_heapOf_51, some 57), (57, vb_X9_heapOf_57, none)]
def cz_X9_heapOf_at_3 : List (Nat × aC) := []
theorem ck_X9_heapOf_at_3 : csOK cz_X9_heapOf_at_3 := trivial
theorem cv_X9_heapOf_at_3 : blOK kd_X9_heapOf bl_X9_heapOf_at_3 := ⟨ve_X9_heapOf_0, ve_X9_heapOf_16, ve_X9_heapOf_51, ve_X9_heapOf_57, trivial⟩
theorem ch_X9_heapOf_at_3 : amchk ta_X9_heapOf_at_3 bl_X9_heapOf_at_3 cz_X9_heapOf_at_3 cc_X9_heapOf_at_3 = true := by decide +kernel
theorem ct_X9_heapOf_at_3 : CtOK cc_X9_heapOf_at_3 := am_ok' (T := ta_X9_heapOf_at_3) (B := bl_X9_heapOf_at_3) (cs := cz_X9_heapOf_at_3) vm_X9_heapOf cv_X9_heapOf_at_3 (by decide +kernel) ch_X9_heapOf_at_3 ck_X9_heapOf_at_3
def cc_X9_heapOf_at_30 : aC := (89, 1, [(2, 0, 0, 9), (0, 30, 30, 0)], some (0, 0, 30, 1), [], 0, [54, 5009], [((2, 215, 4), 0, 30)], [], [((2, 215, 4), 0, 31)])
def ta_X9_heapOf_at_30 : List aL := [(0, ([(0, ((2, 0, 0, 9), (0, 0, 0), (0, 0), [])), (1, ((0, 30, 30, 0), (0, 0, 0), (0, 0), []))], [], [((2, 215, 4), 0, 30)]), 97, [(4, 0)]),
  (16, ([(0, ((2, 0, 0, 9), (0, 0, 0), (0, 0), [])), (1, ((0, 30, 30, 0), (0, 0, 0), (0, 0), [])), (2, ((1, 1, 0, 0), (0, 0, 0), (0, 0), [])), (4, ((0, 0, 31, 1), (0, 0, 0), (0, 0), []))], [], [((2, 215, 4), 0, 30)]), 95, [(4, -3)]),
  (51, ([(0, ((2, 0, 0, 9), (0, 0, 0), (0, 0), [])), (1, ((0, 30, 30, 0), (0, 0, 0), (0, 0), [])), (2, ((1, 1, 0, 0), (0, 0, 0), (0, 0), [])), (4, ((0, 0, 30, 1), (0, 0, 0), (0, 0), []))], [], [((2, 215, 4), 1, 30)]), 94, [(4, -3)]),
  (57, ([(0, ((2, 0, 0, 9), (0, 0, 0), (0, 0), [])), (1, ((0, 30, 30, 0), (0, 0, 0), (0, 0), [])), (2, ((1, 1, 0, 0), (0, 0, 0), (0, 0), [])), (4, ((0, 0, 31, 1), (0, 0, 0), (0, 0), []))], [], [((2, 215, 4), 0, 30)]), 0, [(4, 0)])]
def bl_X9_heapOf_at_30 : List aB := [(0, vb_X9_heapOf_0, some 16), (16, vb_X9_heapOf_16, some 51), (51, vb_X9_heapOf_51, some 57), (57, vb_X9_heapOf_57, none)]
def cz_X9_heapOf_at_30 : List (Nat × aC) := []
theorem ck_X9_heapOf_at_30 : csOK cz_X9_heapOf_at_30 := trivial
theorem cv_X9_heapOf_at_30 : blOK kd_X9_heapOf bl_X9_heapOf_at_30 := ⟨ve_X9_heapOf_0, ve_X9_heapOf_16, ve_X9_heapOf_51, ve_X9_heapOf_57, trivial⟩
theorem ch_X9_heapOf_at_30 : amchk ta_X9_heapOf_at_30 bl_X9_heapOf_at_30 cz_X9_heapOf_at_30 cc_X9_heapOf_at_30 = true := by decide +kernel
theorem ct_X9_heapOf_at_30 : CtOK cc_X9_heapOf_at_30 := am_ok' (T := ta_X9_heapOf_at_30) (B := bl_X9_heapOf_at_30) (cs := cz_X9_heapOf_at_30) vm_X9_heapOf cv_X9_heapOf_at_30 (by decide +kernel) ch_X9_heapOf_at_30 ck_X9_heapOf_at_30
def cc_X9_heapOf_at_31 : aC := (89, 1, [(2, 0, 0, 9), (0, 31, 31, 0)], some (0, 0, 31, 1), [], 0, [54, 5009], [((2, 215, 4), 0, 31)], [], [((2, 215, 4), 0, 32)])
def ta_X9_heapOf_at_31 : List aL := [(0, ([(0, ((2, 0, 0, 9), (0, 0, 0), (0, 0), [])), (1, ((0, 31, 31, 0), (0, 0, 0), (0, 0), []))], [], [((2, 215, 4), 0, 31)]), 97, [(4, 0)]),
  (16, ([(0, ((2, 0, 0, 9), (0, 0, 0), (0, 0), [])), (1, ((0, 31, 31, 0), (0, 0, 0), (0, 0), [])), (2, ((1, 1, 0, 0), (0, 0, 0), (0, 0), [])), (4, ((0, 0, 31, 1), (0, 0, 0), (0, 0), []))], [], [((2, 215, 4), 0, 31)]), 95, [(4, -3)]),
  (51, ([(0, ((2, 0, 0, 9), (0, 0, 0), (0, 0), [])), (1, ((0, 31, 31, 0), (0, 0, 0), (0, 0), [])), (2, ((1, 1, 0, 0), (0, 0, 0), (0, 0), [])), (4, ((0, 0, 30, 1), (0, 0, 0), (0, 0), []))], [], [((2, 215, 4), 1, 31)]), 94, [(4, -3)]),
  (57, ([(0, ((2, 0, 0, 9), (0, 0, 0), (0, 0), [])), (1, ((0, 31, 31, 0), (0, 0, 0), (0, 0), [])), (2, ((1, 1, 0, 0), (0, 0, 0), (0, 0), [])), (4, ((0, 0, 31, 1), (0, 0, 0), (0, 0), []))], [], [((2, 215, 4), 0, 31)]), 0, [(4, 0)])]
def bl_X9_heapOf_at_31 : List aB := [(0, vb_X9_heapOf_0, some 16), (16, vb_X9_heapOf_16, some 51), (51, vb_X9_heapOf_51, some 57), (57, vb_X9_heapOf_57, none)]
def cz_X9_heapOf_at_31 : List (Nat × aC) := []
theorem ck_X9_heapOf_at_31 : csOK cz_X9_heapOf_at_31 := trivial
theorem cv_X9_heapOf_at_31 : blOK kd_X9_heapOf bl_X9_heapOf_at_31 := ⟨ve_X9_heapOf_0, ve_X9_heapOf_16, ve_X9_heapOf_51, ve_X9_heapOf_57, trivial⟩
theorem ch_X9_heapOf_at_31 : amchk ta_X9_heapOf_at_31 bl_X9_heapOf_at_31 cz_X9_heapOf_at_31 cc_X9_heapOf_at_31 = true := by decide +kernel
theorem ct_X9_heapOf_at_31 : CtOK cc_X9_heapOf_at_31 := am_ok' (T := ta_X9_heapOf_at_31) (B := bl_X9_heapOf_at_31) (cs := cz_X9_heapOf_at_31) vm_X9_heapOf cv_X9_heapOf_at_31 (by decide +kernel) ch_X9_heapOf_at_31 ck_X9_heapOf_at_31
def cc_X9_heapOf_at_32 : aC := (89, 1, [(2, 0, 0, 9), (0, 32, 32, 0)], some (0, 0, 32, 1), [], 0, [54, 5009], [((2, 215, 4), 0, 32)], [], [((2, 215, 4), 0, 33)])
def ta_X9_heapOf_at_32 : List aL := [(0, ([(0, ((2, 0, 0, 9), (0, 0, 0), (0, 0), [])), (1, ((0, 32, 32, 0), (0, 0, 0), (0, 0), []))], [], [((2, 215, 4), 0, 32)]), 100, [(4, 0)]),
  (16, ([(0, ((2, 0, 0, 9), (0, 0, 0), (0, 0), [])), (1, ((0, 32, 32, 0), (0, 0, 0), (0, 0), [])), (2, ((1, 1, 0, 0), (0, 0, 0), (0, 0), [])), (4, ((0, 0, 32, 1), (0, 0, 0), (0, 0), []))], [], [((2, 215, 4), 0, 32)]), 98, [(4, -3)]),
  (51, ([(0, ((2, 0, 0, 9), (0, 0, 0), (0, 0), [])), (1, ((0, 32, 32, 0), (0, 0, 0), (0, 0), [])), (2, ((1, 1, 0, 0), (0, 0, 0), (0, 0), [])), (4, ((0, 0, 31, 1), (0, 0, 0), (0, 0), []))], [], [((2, 215, 4), 1, 32)]), 97, [(4, -3)]),
  (57, ([(0, ((2, 0, 0, 9), (0, 0, 0), (0, 0), [])), (1, ((0, 32, 32, 0), (0, 0, 0), (0, 0), [])), (2, ((1, 1, 0, 0), (0, 0, 0), (0, 0), [])), (4, ((0, 0, 32, 1), (0, 0, 0), (0, 0), []))], [], [((2, 215, 4), 0, 32)]), 0, [(4, 0)])]
def bl_X9_heapOf_at_32 : List aB := [(0, vb_X9_heapOf_0, some 16), (16, vb_X9_heapOf_16, some 51), (51, vb_X9_heapOf_51, some 57), (57, vb_X9_heapOf_57, none)]
def cz_X9_heapOf_at_32 : List (Nat × aC) := []
theorem ck_X9_heapOf_at_32 : csOK cz_X9_heapOf_at_32 := trivial
theorem cv_X9_heapOf_at_32 : blOK kd_X9_heapOf bl_X9_heapOf_at_32 := ⟨ve_X9_heapOf_0, ve_X9_heapOf_16, ve_X9_heapOf_51, ve_X9_heapOf_57, trivial⟩
theorem ch_X9_heapOf_at_32 : amchk ta_X9_heapOf_at_32 bl_X9_heapOf_at_32 cz_X9_heapOf_at_32 cc_X9_heapOf_at_32 = true := by decide +kernel
theorem ct_X9_heapOf_at_32 : CtOK cc_X9_heapOf_at_32 := am_ok' (T := ta_X9_heapOf_at_32) (B := bl_X9_heapOf_at_32) (cs := cz_X9_heapOf_at_32) vm_X9_heapOf cv_X9_heapOf_at_32 (by decide +kernel) ch_X9_heapOf_at_32 ck_X9_heapOf_at_32
def cc_X9_heapOf_at_33 : aC := (89, 1, [(2, 0, 0, 9), (0, 33, 33, 0)], some (0, 0, 33, 1), [], 0, [54, 5009], [((2, 215, 4), 0, 33)], [], [((2, 215, 4), 0, 34)])
def ta_X9_heapOf_at_33 : List aL := [(0, ([(0, ((2, 0, 0, 9), (0, 0, 0), (0, 0), [])), (1, ((0, 33, 33, 0), (0, 0, 0), (0, 0), []))], [], [((2, 215, 4), 0, 33)]), 103, [(4, 0)]),
  (16, ([(0, ((2, 0, 0, 9), (0, 0, 0), (0, 0), [])), (1, ((0, 33, 33, 0), (0, 0, 0), (0, 0), [])), (2, ((1, 1, 0, 0), (0, 0, 0), (0, 0), [])), (4, ((0, 0, 33, 1), (0, 0, 0), (0, 0), []))], [], [((2, 215, 4), 0, 33)]), 101, [(4, -3)]),
  (51, ([(0, ((2, 0, 0, 9), (0, 0, 0), (0, 0), [])), (1, ((0, 33, 33, 0), (0, 0, 0), (0, 0), [])), (2, ((1, 1, 0, 0), (0, 0, 0), (0, 0), [])), (4, ((0, 0, 32, 1), (0, 0, 0), (0, 0), []))], [], [((2, 215, 4), 1, 33)]), 100, [(4, -3)]),
  (57, ([(0, ((2, 0, 0, 9), (0, 0, 0), (0, 0), [])), (1, ((0, 33, 33, 0), (0, 0, 0), (0, 0), [])), (2, ((1, 1, 0, 0), (0, 0, 0), (0, 0), [])), (4, ((0, 0, 33, 1), (0, 0, 0), (0, 0), []))], [], [((2, 215, 4), 0, 33)]), 0, [(4, 0)])]
def bl_X9_heapOf_at_33 : List aB := [(0, vb_X9_heapOf_0, some 16), (16, vb_X9_heapOf_16, some 51), (51, vb_X9_heapOf_51, some 57), (57, vb_X9_heapOf_57, none)]
def cz_X9_heapOf_at_33 : List (Nat × aC) := []
theorem ck_X9_heapOf_at_33 : csOK cz_X9_heapOf_at_33 := trivial
theorem cv_X9_heapOf_at_33 : blOK kd_X9_heapOf bl_X9_heapOf_at_33 := ⟨ve_X9_heapOf_0, ve_X9_heapOf_16, ve_X9_heapOf_51, ve_X9_heapOf_57, trivial⟩
theorem ch_X9_heapOf_at_33 : amchk ta_X9_heapOf_at_33 bl_X9_heapOf_at_33 cz_X9_heapOf_at_33 cc_X9_heapOf_at_33 = true := by decide +kernel
theorem ct_X9_heapOf_at_33 : CtOK cc_X9_heapOf_at_33 := am_ok' (T := ta_X9_heapOf_at_33) (B := bl_X9_heapOf_at_33) (cs := cz_X9_heapOf_at_33) vm_X9_heapOf cv_X9_heapOf_at_33 (by decide +kernel) ch_X9_heapOf_at_33 ck_X9_heapOf_at_33
def cc_X9_heapOf_at_34 : aC := (89, 1, [(2, 0, 0, 9), (0, 34, 34, 0)], some (0, 0, 34, 1), [], 0, [54, 5009], [((2, 215, 4), 0, 34)], [], [((2, 215, 4), 0, 35)])
def ta_X9_heapOf_at_34 : List aL := [(0, ([(0, ((2, 0, 0, 9), (0, 0, 0), (0, 0), [])), (1, ((0, 34, 34, 0), (0, 0, 0), (0, 0), []))], [], [((2, 215, 4), 0, 34)]), 109, [(4, 0)]),
  (16, ([(0, ((2, 0, 0, 9), (0, 0, 0), (0, 0), [])), (1, ((0, 34, 34, 0), (0, 0, 0), (0, 0), [])), (2, ((1, 1, 0, 0), (0, 0, 0), (0, 0), [])), (4, ((0, 0, 35, 1), (0, 0, 0), (0, 0), []))], [], [((2, 215, 4), 0, 34)]), 107, [(4, -3)]),
  (51, ([(0, ((2, 0, 0, 9), (0, 0, 0), (0, 0), [])), (1, ((0, 34, 34, 0), (0, 0, 0), (0, 0), [])), (2, ((1, 1, 0, 0), (0, 0, 0), (0, 0), [])), (4, ((0, 0, 34, 1), (0, 0, 0), (0, 0), []))], [], [((2, 215, 4), 1, 34)]), 106, [(4, -3)]),
  (57, ([(0, ((2, 0, 0, 9), (0, 0, 0), (0, 0), [])), (1, ((0, 34, 34, 0), (0, 0, 0), (0, 0), [])), (2, ((1, 1, 0, 0), (0, 0, 0), (0, 0), [])), (4, ((0, 0, 35, 1), (0, 0, 0), (0, 0), []))], [], [((2, 215, 4), 0, 34)]), 0, [(4, 0)])]
def bl_X9_heapOf_at_34 : List aB := [(0, vb_X9_heapOf_0, some 16), (16, vb_X9_heapOf_16, some 51), (51, vb_X9_heapOf_51, some 57), (57, vb_X9_heapOf_57, none)]
def cz_X9_heapOf_at_34 : List (Nat × aC) := []
theorem ck_X9_heapOf_at_34 : csOK cz_X9_heapOf_at_34 := trivial
theorem cv_X9_heapOf_at_34 : blOK kd_X9_heapOf bl_X9_heapOf_at_34 := ⟨ve_X9_heapOf_0, ve_X9_heapOf_16, ve_X9_heapOf_51, ve_X9_heapOf_57, trivial⟩
theorem ch_X9_heapOf_at_34 : amchk ta_X9_heapOf_at_34 bl_X9_heapOf_at_34 cz_X9_heapOf_at_34 cc_X9_heapOf_at_34 = true := by decide +kernel
theorem ct_X9_heapOf_at_34 : CtOK cc_X9_heapOf_at_34 := am_ok' (T := ta_X9_heapOf_at_34) (B := bl_X9_heapOf_at_34) (cs := cz_X9_heapOf_at_34) vm_X9_heapOf cv_X9_heapOf_at_34 (by decide +kernel) ch_X9_heapOf_at_34 ck_X9_heapOf_at_34
def cc_X9_heapOf_at_35 : aC := (89, 1, [(2, 0, 0, 9), (0, 35, 35, 0)], some (0, 0, 35, 1), [], 0, [54, 5009], [((2, 215, 4), 0, 35)], [], [((2, 215, 4), 0, 36)])
def ta_X9_heapOf_at_35 : List aL := [(0, ([(0, ((2, 0, 0, 9), (0, 0, 0), (0, 0), [])), (1, ((0, 35, 35, 0), (0, 0, 0), (0, 0), []))], [], [((2, 215, 4), 0, 35)]), 112, [(4, 0)]),
  (16, ([(0, ((2, 0, 0, 9), (0, 0, 0), (0, 0), [])), (1, ((0, 35, 35, 0), (0, 0, 0), (0, 0), [])), (2, ((1, 1, 0, 0), (0, 0, 0), (0, 0), [])), (4, ((0, 0, 36, 1), (0, 0, 0), (0, 0), []))], [], [((2, 215, 4), 0, 35)]), 110, [(4, -3)]),
  (51, ([(0, ((2, 0, 0, 9), (0, 0, 0), (0, 0), [])), (1, ((0, 35, 35, 0), (0, 0, 0), (0, 0), [])), (2, ((1, 1, 0, 0), (0, 0, 0), (0, 0), [])), (4, ((0, 0, 35, 1), (0, 0, 0), (0, 0), []))], [], [((2, 215, 4), 1, 35)]), 109, [(4, -3)]),
  (57, ([(0, ((2, 0, 0, 9), (0, 0, 0), (0, 0), [])), (1, ((0, 35, 35, 0), (0, 0, 0), (0, 0), [])), (2, ((1, 1, 0, 0), (0, 0, 0), (0, 0), [])), (4, ((0, 0, 36, 1), (0, 0, 0), (0, 0), []))], [], [((2, 215, 4), 0, 35)]), 0, [(4, 0)])]
def bl_X9_heapOf_at_35 : List aB := [(0, vb_X9_heapOf_0, some 16), (16, vb_X9_heapOf_16, some 51), (51, vb_X9_heapOf_51, some 57), (57, vb_X9_heapOf_57, none)]
def cz_X9_heapOf_at_35 : List (Nat × aC) := []
theorem ck_X9_heapOf_at_35 : csOK cz_X9_heapOf_at_35 := trivial
theorem cv_X9_heapOf_at_35 : blOK kd_X9_heapOf bl_X9_heapOf_at_35 := ⟨ve_X9_heapOf_0, ve_X9_heapOf_16, ve_X9_heapOf_51, ve_X9_heapOf_57, trivial⟩
theorem ch_X9_heapOf_at_35 : amchk ta_X9_heapOf_at_35 bl_X9_heapOf_at_35 cz_X9_heapOf_at_35 cc_X9_heapOf_at_35 = true := by decide +kernel
theorem ct_X9_heapOf_at_35 : CtOK cc_X9_heapOf_at_35 := am_ok' (T := ta_X9_heapOf_at_35) (B := bl_X9_heapOf_at_35) (cs := cz_X9_heapOf_at_35) vm_X9_heapOf cv_X9_heapOf_at_35 (by decide +kernel) ch_X9_heapOf_at_35 ck_X9_heapOf_at_35
def cc_X9_heapOf_at_36 : aC := (89, 1, [(2, 0, 0, 9), (0, 36, 36, 0)], some (0, 0, 36, 1), [], 0, [54, 5009], [((2, 215, 4), 0, 36)], [], [((2, 215, 4), 0, 37)])
def ta_X9_heapOf_at_36 : List aL := [(0, ([(0, ((2, 0, 0, 9), (0, 0, 0), (0, 0), [])), (1, ((0, 36, 36, 0), (0, 0, 0), (0, 0), []))], [], [((2, 215, 4), 0, 36)]), 115, [(4, 0)]),
  (16, ([(0, ((2, 0, 0, 9), (0, 0, 0), (0, 0), [])), (1, ((0, 36, 36, 0), (0, 0, 0), (0, 0), [])), (2, ((1, 1, 0, 0), (0, 0, 0), (0, 0), [])), (4, ((0, 0, 37, 1), (0, 0, 0), (0, 0), []))], [], [((2, 215, 4), 0, 36)]), 113, [(4, -3)]),
  (51, ([(0, ((2, 0, 0, 9), (0, 0, 0), (0, 0), [])), (1, ((0, 36, 36, 0), (0, 0, 0), (0, 0), [])), (2, ((1, 1, 0, 0), (0, 0, 0), (0, 0), [])), (4, ((0, 0, 36, 1), (0, 0, 0), (0, 0), []))], [], [((2, 215, 4), 1, 36)]), 112, [(4, -3)]),
  (57, ([(0, ((2, 0, 0, 9), (0, 0, 0), (0, 0), [])), (1, ((0, 36, 36, 0), (0, 0, 0), (0, 0), [])), (2, ((1, 1, 0, 0), (0, 0, 0), (0, 0), [])), (4, ((0, 0, 37, 1), (0, 0, 0), (0, 0), []))], [], [((2, 215, 4), 0, 36)]), 0, [(4, 0)])]
def bl_X9_heapOf_at_36 : List aB := [(0, vb_X9_heapOf_0, some 16), (16, vb_X9_heapOf_16, some 51), (51, vb_X9_heapOf_51, some 57), (57, vb_X9_heapOf_57, none)]
def cz_X9_heapOf_at_36 : List (Nat × aC) := []
theorem ck_X9_heapOf_at_36 : csOK cz_X9_heapOf_at_36 := trivial
theorem cv_X9_heapOf_at_36 : blOK kd_X9_heapOf bl_X9_heapOf_at_36 := ⟨ve_X9_heapOf_0, ve_X9_heapOf_16, ve_X9_heapOf_51, ve_X9_heapOf_57, trivial⟩
theorem ch_X9_heapOf_at_36 : amchk ta_X9_heapOf_at_36 bl_X9_heapOf_at_36 cz_X9_heapOf_at_36 cc_X9_heapOf_at_36 = true := by decide +kernel
theorem ct_X9_heapOf_at_36 : CtOK cc_X9_heapOf_at_36 := am_ok' (T := ta_X9_heapOf_at_36) (B := bl_X9_heapOf_at_36) (cs := cz_X9_heapOf_at_36) vm_X9_heapOf cv_X9_heapOf_at_36 (by decide +kernel) ch_X9_heapOf_at_36 ck_X9_heapOf_at_36
def cc_X9_heapOf_at_37 : aC := (89, 1, [(2, 0, 0, 9), (0, 37, 37, 0)], some (0, 0, 37, 1), [], 0, [54, 5009], [((2, 215, 4), 0, 37)], [], [((2, 215, 4), 0, 38)])
def ta_X9_heapOf_at_37 : List aL := [(0, ([(0, ((2, 0, 0, 9), (0, 0, 0), (0, 0), [])), (1, ((0, 37, 37, 0), (0, 0, 0), (0, 0), []))], [], [((2, 215, 4), 0, 37)]), 115, [(4, 0)]),
  (16, ([(0, ((2, 0, 0, 9), (0, 0, 0), (0, 0), [])), (1, ((0, 37, 37, 0), (0, 0, 0), (0, 0), [])), (2, ((1, 1, 0, 0), (0, 0, 0), (0, 0), [])), (4, ((0, 0, 37, 1), (0, 0, 0), (0, 0), []))], [], [((2, 215, 4), 0, 37)]), 113, [(4, -3)]),
  (51, ([(0, ((2, 0, 0, 9), (0, 0, 0), (0, 0), [])), (1, ((0, 37, 37, 0), (0, 0, 0), (0, 0), [])), (2, ((1, 1, 0, 0), (0, 0, 0), (0, 0), [])), (4, ((0, 0, 36, 1), (0, 0, 0), (0, 0), []))], [], [((2, 215, 4), 1, 37)]), 112, [(4, -3)]),
  (57, ([(0, ((2, 0, 0, 9), (0, 0, 0), (0, 0), [])), (1, ((0, 37, 37, 0), (0, 0, 0), (0, 0), [])), (2, ((1, 1, 0, 0), (0, 0, 0), (0, 0), [])), (4, ((0, 0, 37, 1), (0, 0, 0), (0, 0), []))], [], [((2, 215, 4), 0, 37)]), 0, [(4, 0)])]
def bl_X9_heapOf_at_37 : List aB := [(0, vb_X9_heapOf_0, some 16), (16, vb_X9_heapOf_16, some 51), (51, vb_X9_heapOf_51, some 57), (57, vb_X9_heapOf_57, none)]
def cz_X9_heapOf_at_37 : List (Nat × aC) := []
theorem ck_X9_heapOf_at_37 : csOK cz_X9_heapOf_at_37 := trivial
theorem cv_X9_heapOf_at_37 : blOK kd_X9_heapOf bl_X9_heapOf_at_37 := ⟨ve_X9_heapOf_0, ve_X9_heapOf_16, ve_X9_heapOf_51, ve_X9_heapOf_57, trivial⟩
theorem ch_X9_heapOf_at_37 : amchk ta_X9_heapOf_at_37 bl_X9_heapOf_at_37 cz_X9_heapOf_at_37 cc_X9_heapOf_at_37 = true := by decide +kernel
theorem ct_X9_heapOf_at_37 : CtOK cc_X9_heapOf_at_37 := am_ok' (T := ta_X9_heapOf_at_37) (B := bl_X9_heapOf_at_37) (cs := cz_X9_heapOf_at_37) vm_X9_heapOf cv_X9_heapOf_at_37 (by decide +kernel) ch_X9_heapOf_at_37 ck_X9_heapOf_at_37
def cc_X9_heapOf_at_38 : aC := (89, 1, [(2, 0, 0, 9), (0, 38, 38, 0)], some (0, 0, 38, 1), [], 0, [54, 5009], [((2, 215, 4), 0, 38)], [], [((2, 215, 4), 0, 39)])
def ta_X9_heapOf_at_38 : List aL := [(0, ([(0, ((2, 0, 0, 9), (0, 0, 0), (0, 0), [])), (1, ((0, 38, 38, 0), (0, 0, 0), (0, 0), []))], [], [((2, 215, 4), 0, 38)]), 118, [(4, 0)]),
  (16, ([(0, ((2, 0, 0, 9), (0, 0, 0), (0, 0), [])), (1, ((0, 38, 38, 0), (0, 0, 0), (0, 0), [])), (2, ((1, 1, 0, 0), (0, 0, 0), (0, 0), [])), (4, ((0, 0, 38, 1), (0, 0, 0), (0, 0), []))], [], [((2, 215, 4), 0, 38)]), 116, [(4, -3)]),
  (51, ([(0, ((2, 0, 0, 9), (0, 0, 0), (0, 0), [])), (1, ((0, 38, 38, 0), (0, 0, 0), (0, 0), [])), (2, ((1, 1, 0, 0), (0, 0, 0), (0, 0), [])), (4, ((0, 0, 37, 1), (0, 0, 0), (0, 0), []))], [], [((2, 215, 4), 1, 38)]), 115, [(4, -3)]),
  (57, ([(0, ((2, 0, 0, 9), (0, 0, 0), (0, 0), [])), (1, ((0, 38, 38, 0), (0, 0, 0), (0, 0), [])), (2, ((1, 1, 0, 0), (0, 0, 0), (0, 0), [])), (4, ((0, 0, 38, 1), (0, 0, 0), (0, 0), []))], [], [((2, 215, 4), 0, 38)]), 0, [(4, 0)])]
def bl_X9_heapOf_at_38 : List aB := [(0, vb_X9_heapOf_0, some 16), (16, vb_X9_heapOf_16, some 51), (51, vb_X9_heapOf_51, some 57), (57, vb_X9_heapOf_57, none)]
def cz_X9_heapOf_at_38 : List (Nat × aC) := []
theorem ck_X9_heapOf_at_38 : csOK cz_X9_heapOf_at_38 := trivial
theorem cv_X9_heapOf_at_38 : blOK kd_X9_heapOf bl_X9_heapOf_at_38 := ⟨ve_X9_heapOf_0, ve_X9_heapOf_16, ve_X9_heapOf_51, ve_X9_heapOf_57, trivial⟩
theorem ch_X9_heapOf_at_38 : amchk ta_X9_heapOf_at_38 bl_X9_heapOf_at_38 cz_X9_heapOf_at_38 cc_X9_heapOf_at_38 = true := by decide +kernel
theorem ct_X9_heapOf_at_38 : CtOK cc_X9_heapOf_at_38 := am_ok' (T := ta_X9_heapOf_at_38) (B := bl_X9_heapOf_at_38) (cs := cz_X9_heapOf_at_38) vm_X9_heapOf cv_X9_heapOf_at_38 (by decide +kernel) ch_X9_heapOf_at_38 ck_X9_heapOf_at_38
def cc_X9_heapOf_at_39 : aC := (89, 1, [(2, 0, 0, 9), (0, 39, 39, 0)], some (0, 0, 39, 1), [], 0, [54, 5009], [((2, 215, 4), 0, 39)], [], [((2, 215, 4), 0, 40)])
def ta_X9_heapOf_at_39 : List aL := [(0, ([(0, ((2, 0, 0, 9), (0, 0, 0), (0, 0), [])), (1, ((0, 39, 39, 0), (0, 0, 0), (0, 0), []))], [], [((2, 215, 4), 0, 39)]), 121, [(4, 0)]),
  (16, ([(0, ((2, 0, 0, 9), (0, 0, 0), (0, 0), [])), (1, ((0, 39, 39, 0), (0, 0, 0), (0, 0), [])), (2, ((1, 1, 0, 0), (0, 0, 0), (0, 0), [])), (4, ((0, 0, 39, 1), (0, 0, 0), (0, 0), []))], [], [((2, 215, 4), 0, 39)]), 119, [(4, -3)]),
  (51, ([(0, ((2, 0, 0, 9), (0, 0, 0), (0, 0), [])), (1, ((0, 39, 39, 0), (0, 0, 0), (0, 0), [])), (2, ((1, 1, 0, 0), (0, 0, 0), (0, 0), [])), (4, ((0, 0, 38, 1), (0, 0, 0), (0, 0), []))], [], [((2, 215, 4), 1, 39)]), 118, [(4, -3)]),
  (57, ([(0, ((2, 0, 0, 9), (0, 0, 0), (0, 0), [])), (1, ((0, 39, 39, 0), (0, 0, 0), (0, 0), [])), (2, ((1, 1, 0, 0), (0, 0, 0), (0, 0), [])), (4, ((0, 0, 39, 1), (0, 0, 0), (0, 0), []))], [], [((2, 215, 4), 0, 39)]), 0, [(4, 0)])]
def bl_X9_heapOf_at_39 : List aB := [(0, vb_X9_heapOf_0, some 16), (16, vb_X9_heapOf_16, some 51), (51, vb_X9_heapOf_51, some 57), (57, vb_X9_heapOf_57, none)]
def cz_X9_heapOf_at_39 : List (Nat × aC) := []
theorem ck_X9_heapOf_at_39 : csOK cz_X9_heapOf_at_39 := trivial
theorem cv_X9_heapOf_at_39 : blOK kd_X9_heapOf bl_X9_heapOf_at_39 := ⟨ve_X9_heapOf_0, ve_X9_heapOf_16, ve_X9_heapOf_51, ve_X9_heapOf_57, trivial⟩
theorem ch_X9_heapOf_at_39 : amchk ta_X9_heapOf_at_39 bl_X9_heapOf_at_39 cz_X9_heapOf_at_39 cc_X9_heapOf_at_39 = true := by decide +kernel
theorem ct_X9_heapOf_at_39 : CtOK cc_X9_heapOf_at_39 := am_ok' (T := ta_X9_heapOf_at_39) (B := bl_X9_heapOf_at_39) (cs := cz_X9_heapOf_at_39) vm_X9_heapOf cv_X9_heapOf_at_39 (by decide +kernel) ch_X9_heapOf_at_39 ck_X9_heapOf_at_39
def cc_X9_heapOf_at_4 : aC := (89, 1, [(2, 0, 0, 9), (0, 4, 4, 0)], some (0, 0, 4, 1), [], 0, [54, 5009], [((2, 215, 4), 0, 4)], [], [((2, 215, 4), 0, 5)])
def ta_X9_heapOf_at_4 : List aL := [(0, ([(0, ((2, 0, 0, 9), (0, 0, 0), (0, 0), [])), (1, ((0, 4, 4, 0), (0, 0, 0), (0, 0), []))], [], [((2, 215, 4), 0, 4)]), 16, [(4, 0)]),
  (16, ([(0, ((2, 0, 0, 9), (0, 0, 0), (0, 0), [])), (1, ((0, 4, 4, 0), (0, 0, 0), (0, 0), [])), (2, ((1, 1, 0, 0), (0, 0, 0), (0, 0), [])), (4, ((0, 0, 4, 1), (0, 0, 0), (0, 0), []))], [], [((2, 215, 4), 0, 4)]), 14, [(4, -3)]),
  (51, ([(0, ((2, 0, 0, 9), (0, 0, 0), (0, 0), [])), (1, ((0, 4, 4, 0), (0, 0, 0), (0, 0), [])), (2, ((1, 1, 0, 0), (0, 0, 0), (0, 0), [])), (4, ((0, 0, 3, 1), (0, 0, 0), (0, 0), []))], [], [((2, 215, 4), 1, 4)]), 13, [(4, -3)]),
  (57, ([(0, ((2, 0, 0, 9), (0, 0, 0), (0, 0), [])), (1, ((0, 4, 4, 0), (0, 0, 0), (0, 0), [])), (2, ((1, 1, 0, 0), (0, 0, 0), (0, 0), [])), (4, ((0, 0, 4, 1), (0, 0, 0), (0, 0), []))], [], [((2, 215, 4), 0, 4)]), 0, [(4, 0)])]
def bl_X9_heapOf_at_4 : List aB := [(0, vb_X9_heapOf_0, some 16), (16, vb_X9_heapOf_16, some 51), (51, vb_X9_heapOf_51, some 57), (57, vb_X9_heapOf_57, none)]
def cz_X9_heapOf_at_4 : List (Nat × aC) := []
theorem ck_X9_heapOf_at_4 : csOK cz_X9_heapOf_at_4 := trivial
theorem cv_X9_heapOf_at_4 : blOK kd_X9_heapOf bl_X9_heapOf_at_4 := ⟨ve_X9_heapOf_0, ve_X9_heapOf_16, ve_X9_heapOf_51, ve_X9_heapOf_57, trivial⟩
theorem ch_X9_heapOf_at_4 : amchk ta_X9_heapOf_at_4 bl_X9_heapOf_at_4 cz_X9_heapOf_at_4 cc_X9_heapOf_at_4 = true := by decide +kernel
theorem ct_X9_heapOf_at_4 : CtOK cc_X9_heapOf_at_4 := am_ok' (T := ta_X9_heapOf_at_4) (B := bl_X9_heapOf_at_4) (cs := cz_X9_heapOf_at_4) vm_X9_heapOf cv_X9_heapOf_at_4 (by decide +kernel) ch_X9_heapOf_at_4 ck_X9_heapOf_at_4
def cc_X9_heapOf_at_40 : aC := (89, 1, [(2, 0, 0, 9), (0, 40, 40, 0)], some (0, 0, 40, 1), [], 0, [54, 5009], [((2, 215, 4), 0, 40)], [], [((2, 215, 4), 0, 41)])
def ta_X9_heapOf_at_40 : List aL := [(0, ([(0, ((2, 0, 0, 9), (0, 0, 0), (0, 0), [])), (1, ((0, 40, 40, 0), (0, 0, 0), (0, 0), []))], [], [((2, 215, 4), 0, 40)]), 127, [(4, 0)]),
  (16, ([(0, ((2, 0, 0, 9), (0, 0, 0), (0, 0), [])), (1, ((0, 40, 40, 0), (0, 0, 0), (0, 0), [])), (2, ((1, 1, 0, 0), (0, 0, 0), (0, 0), [])), (4, ((0, 0, 41, 1), (0, 0, 0), (0, 0), []))], [], [((2, 215, 4), 0, 40)]), 125, [(4, -3)]),
  (51, ([(0, ((2, 0, 0, 9), (0, 0, 0), (0, 0), [])), (1, ((0, 40, 40, 0), (0, 0, 0), (0, 0), [])), (2, ((1, 1, 0, 0), (0, 0, 0), (0, 0), [])), (4, ((0, 0, 40, 1), (0, 0, 0), (0, 0), []))], [], [((2, 215, 4), 1, 40)]), 124, [(4, -3)]),
  (57, ([(0, ((2, 0, 0, 9), (0, 0, 0), (0, 0), [])), (1, ((0, 40, 40, 0), (0, 0, 0), (0, 0), [])), (2, ((1, 1, 0, 0), (0, 0, 0), (0, 0), [])), (4, ((0, 0, 41, 1), (0, 0, 0), (0, 0), []))], [], [((2, 215, 4), 0, 40)]), 0, [(4, 0)])]
def bl_X9_heapOf_at_40 : List aB := [(0, vb_X9_heapOf_0, some 16), (16, vb_X9_heapOf_16, some 51), (51, vb_X9_heapOf_51, some 57), (57, vb_X9_heapOf_57, none)]
def cz_X9_heapOf_at_40 : List (Nat × aC) := []
theorem ck_X9_heapOf_at_40 : csOK cz_X9_heapOf_at_40 := trivial
theorem cv_X9_heapOf_at_40 : blOK kd_X9_heapOf bl_X9_heapOf_at_40 := ⟨ve_X9_heapOf_0, ve_X9_heapOf_16, ve_X9_heapOf_51, ve_X9_heapOf_57, trivial⟩
theorem ch_X9_heapOf_at_40 : amchk ta_X9_heapOf_at_40 bl_X9_heapOf_at_40 cz_X9_heapOf_at_40 cc_X9_heapOf_at_40 = true := by decide +kernel
theorem ct_X9_heapOf_at_40 : CtOK cc_X9_heapOf_at_40 := am_ok' (T := ta_X9_heapOf_at_40) (B := bl_X9_heapOf_at_40) (cs := cz_X9_heapOf_at_40) vm_X9_heapOf cv_X9_heapOf_at_40 (by decide +kernel) ch_X9_heapOf_at_40 ck_X9_heapOf_at_40
def cc_X9_heapOf_at_41 : aC := (89, 1, [(2, 0, 0, 9), (0, 41, 41, 0)], some (0, 0, 41, 1), [], 0, [54, 5009], [((2, 215, 4), 0, 41)], [], [((2, 215, 4), 0, 42)])
def ta_X9_heapOf_at_41 : List aL := [(0, ([(0, ((2, 0, 0, 9), (0, 0, 0), (0, 0), [])), (1, ((0, 41, 41, 0), (0, 0, 0), (0, 0), []))], [], [((2, 215, 4), 0, 41)]), 130, [(4, 0)]),
  (16, ([(0, ((2, 0, 0, 9), (0, 0, 0), (0, 0), [])), (1, ((0, 41, 41, 0), (0, 0, 0), (0, 0), [])), (2, ((1, 1, 0, 0), (0, 0, 0), (0, 0), [])), (4, ((0, 0, 42, 1), (0, 0, 0), (0, 0), []))], [], [((2, 215, 4), 0, 41)]), 128, [(4, -3)]),
  (51, ([(0, ((2, 0, 0, 9), (0, 0, 0), (0, 0), [])), (1, ((0, 41, 41, 0), (0, 0, 0), (0, 0), [])), (2, ((1, 1, 0, 0), (0, 0, 0), (0, 0), [])), (4, ((0, 0, 41, 1), (0, 0, 0), (0, 0), []))], [], [((2, 215, 4), 1, 41)]), 127, [(4, -3)]),
  (57, ([(0, ((2, 0, 0, 9), (0, 0, 0), (0, 0), [])), (1, ((0, 41, 41, 0), (0, 0, 0), (0, 0), [])), (2, ((1, 1, 0, 0), (0, 0, 0), (0, 0), [])), (4, ((0, 0, 42, 1), (0, 0, 0), (0, 0), []))], [], [((2, 215, 4), 0, 41)]), 0, [(4, 0)])]
def bl_X9_heapOf_at_41 : List aB := [(0, vb_X9_heapOf_0, some 16), (16, vb_X9_heapOf_16, some 51), (51, vb_X9_heapOf_51, some 57), (57, vb_X9_heapOf_57, none)]
def cz_X9_heapOf_at_41 : List (Nat × aC) := []
theorem ck_X9_heapOf_at_41 : csOK cz_X9_heapOf_at_41 := trivial
theorem cv_X9_heapOf_at_41 : blOK kd_X9_heapOf bl_X9_heapOf_at_41 := ⟨ve_X9_heapOf_0, ve_X9_heapOf_16, ve_X9_heapOf_51, ve_X9_heapOf_57, trivial⟩
theorem ch_X9_heapOf_at_41 : amchk ta_X9_heapOf_at_41 bl_X9_heapOf_at_41 cz_X9_heapOf_at_41 cc_X9_heapOf_at_41 = true := by decide +kernel
theorem ct_X9_heapOf_at_41 : CtOK cc_X9_heapOf_at_41 := am_ok' (T := ta_X9_heapOf_at_41) (B := bl_X9_heapOf_at_41) (cs := cz_X9_heapOf_at_41) vm_X9_heapOf cv_X9_heapOf_at_41 (by decide +kernel) ch_X9_heapOf_at_41 ck_X9_heapOf_at_41
def cc_X9_heapOf_at_42 : aC := (89, 1, [(2, 0, 0, 9), (0, 42, 42, 0)], some (0, 0, 42, 1), [], 0, [54, 5009], [((2, 215, 4), 0, 42)], [], [((2, 215, 4), 0, 43)])
def ta_X9_heapOf_at_42 : List aL := [(0, ([(0, ((2, 0, 0, 9), (0, 0, 0), (0, 0), [])), (1, ((0, 42, 42, 0), (0, 0, 0), (0, 0), []))], [], [((2, 215, 4), 0, 42)]), 133, [(4, 0)]),
  (16, ([(0, ((2, 0, 0, 9), (0, 0, 0), (0, 0), [])), (1, ((0, 42, 42, 0), (0, 0, 0), (0, 0), [])), (2, ((1, 1, 0, 0), (0, 0, 0), (0, 0), [])), (4, ((0, 0, 43, 1), (0, 0, 0), (0, 0), []))], [], [((2, 215, 4), 0, 42)]), 131, [(4, -3)]),
  (51, ([(0, ((2, 0, 0, 9), (0, 0, 0), (0, 0), [])), (1, ((0, 42, 42, 0), (0, 0, 0), (0, 0), [])), (2, ((1, 1, 0, 0), (0, 0, 0), (0, 0), [])), (4, ((0, 0, 42, 1), (0, 0, 0), (0, 0), []))], [], [((2, 215, 4), 1, 42)]), 130, [(4, -3)]),
  (57, ([(0, ((2, 0, 0, 9), (0, 0, 0), (0, 0), [])), (1, ((0, 42, 42, 0), (0, 0, 0), (0, 0), [])), (2, ((1, 1, 0, 0), (0, 0, 0), (0, 0), [])), (4, ((0, 0, 43, 1), (0, 0, 0), (0, 0), []))], [], [((2, 215, 4), 0, 42)]), 0, [(4, 0)])]
def bl_X9_heapOf_at_42 : List aB := [(0, vb_X9_heapOf_0, some 16), (16, vb_X9_heapOf_16, some 51), (51, vb_X9_heapOf_51, some 57), (57, vb_X9_heapOf_57, none)]
def cz_X9_heapOf_at_42 : List (Nat × aC) := []
theorem ck_X9_heapOf_at_42 : csOK cz_X9_heapOf_at_42 := trivial
theorem cv_X9_heapOf_at_42 : blOK kd_X9_heapOf bl_X9_heapOf_at_42 := ⟨ve_X9_heapOf_0, ve_X9_heapOf_16, ve_X9_heapOf_51, ve_X9_heapOf_57, trivial⟩
theorem ch_X9_heapOf_at_42 : amchk ta_X9_heapOf_at_42 bl_X9_heapOf_at_42 cz_X9_heapOf_at_42 cc_X9_heapOf_at_42 = true := by decide +kernel
theorem ct_X9_heapOf_at_42 : CtOK cc_X9_heapOf_at_42 := am_ok' (T := ta_X9_heapOf_at_42) (B := bl_X9_heapOf_at_42) (cs := cz_X9_heapOf_at_42) vm_X9_heapOf cv_X9_heapOf_at_42 (by decide +kernel) ch_X9_heapOf_at_42 ck_X9_heapOf_at_42
def cc_X9_heapOf_at_43 : aC := (89, 1, [(2, 0, 0, 9), (0, 43, 43, 0)], some (0, 0, 43, 1), [], 0, [54, 5009], [((2, 215, 4), 0, 43)], [], [((2, 215, 4), 0, 44)])
def ta_X9_heapOf_at_43 : List aL := [(0, ([(0, ((2, 0, 0, 9), (0, 0, 0), (0, 0), [])), (1, ((0, 43, 43, 0), (0, 0, 0), (0, 0), []))], [], [((2, 215, 4), 0, 43)]), 136, [(4, 0)]),
  (16, ([(0, ((2, 0, 0, 9), (0, 0, 0), (0, 0), [])), (1, ((0, 43, 43, 0), (0, 0, 0), (0, 0), [])), (2, ((1, 1, 0, 0), (0, 0, 0), (0, 0), [])), (4, ((0, 0, 44, 1), (0, 0, 0), (0, 0), []))], [], [((2, 215, 4), 0, 43)]), 134, [(4, -3)]),
  (51, ([(0, ((2, 0, 0, 9), (0, 0, 0), (0, 0), [])), (1, ((0, 43, 43, 0), (0, 0, 0), (0, 0), [])), (2, ((1, 1, 0, 0), (0, 0, 0), (0, 0), [])), (4, ((0, 0, 43, 1), (0, 0, 0), (0, 0), []))], [], [((2, 215, 4), 1, 43)]), 133, [(4, -3)]),
  (57, ([(0, ((2, 0, 0, 9), (0, 0, 0), (0, 0), [])), (1, ((0, 43, 43, 0), (0, 0, 0), (0, 0), [])), (2, ((1, 1, 0, 0), (0, 0, 0), (0, 0), [])), (4, ((0, 0, 44, 1), (0, 0, 0), (0, 0), []))], [], [((2, 215, 4), 0, 43)]), 0, [(4, 0)])]
def bl_X9_heapOf_at_43 : List aB := [(0, vb_X9_heapOf_0, some 16), (16, vb_X9_heapOf_16, some 51), (51, vb_X9_heapOf_51, some 57), (57, vb_X9_heapOf_57, none)]
def cz_X9_heapOf_at_43 : List (Nat × aC) := []
theorem ck_X9_heapOf_at_43 : csOK cz_X9_heapOf_at_43 := trivial
theorem cv_X9_heapOf_at_43 : blOK kd_X9_heapOf bl_X9_heapOf_at_43 := ⟨ve_X9_heapOf_0, ve_X9_heapOf_16, ve_X9_heapOf_51, ve_X9_heapOf_57, trivial⟩
theorem ch_X9_heapOf_at_43 : amchk ta_X9_heapOf_at_43 bl_X9_heapOf_at_43 cz_X9_heapOf_at_43 cc_X9_heapOf_at_43 = true := by decide +kernel
theorem ct_X9_heapOf_at_43 : CtOK cc_X9_heapOf_at_43 := am_ok' (T := ta_X9_heapOf_at_43) (B := bl_X9_heapOf_at_43) (cs := cz_X9_heapOf_at_43) vm_X9_heapOf cv_X9_heapOf_at_43 (by decide +kernel) ch_X9_heapOf_at_43 ck_X9_heapOf_at_43
def cc_X9_heapOf_at_44 : aC := (89, 1, [(2, 0, 0, 9), (0, 44, 44, 0)], some (0, 0, 44, 1), [], 0, [54, 5009], [((2, 215, 4), 0, 44)], [], [((2, 215, 4), 0, 45)])
def ta_X9_heapOf_at_44 : List aL := [(0, ([(0, ((2, 0, 0, 9), (0, 0, 0), (0, 0), [])), (1, ((0, 44, 44, 0), (0, 0, 0), (0, 0), []))], [], [((2, 215, 4), 0, 44)]), 139, [(4, 0)]),
  (16, ([(0, ((2, 0, 0, 9), (0, 0, 0), (0, 0), [])), (1, ((0, 44, 44, 0), (0, 0, 0), (0, 0), [])), (2, ((1, 1, 0, 0), (0, 0, 0), (0, 0), [])), (4, ((0, 0, 45, 1), (0, 0, 0), (0, 0), []))], [], [((2, 215, 4), 0, 44)]), 137, [(4, -3)]),
  (51, ([(0, ((2, 0, 0, 9), (0, 0, 0), (0, 0), [])), (1, ((0, 44, 44, 0), (0, 0, 0), (0, 0), [])), (2, ((1, 1, 0, 0), (0, 0, 0), (0, 0), [])), (4, ((0, 0, 44, 1), (0, 0, 0), (0, 0), []))], [], [((2, 215, 4), 1, 44)]), 136, [(4, -3)]),
  (57, ([(0, ((2, 0, 0, 9), (0, 0, 0), (0, 0), [])), (1, ((0, 44, 44, 0), (0, 0, 0), (0, 0), [])), (2, ((1, 1, 0, 0), (0, 0, 0), (0, 0), [])), (4, ((0, 0, 45, 1), (0, 0, 0), (0, 0), []))], [], [((2, 215, 4), 0, 44)]), 0, [(4, 0)])]
def bl_X9_heapOf_at_44 : List aB := [(0, vb_X9_heapOf_0, some 16), (16, vb_X9_heapOf_16, some 51), (51, vb_X9_heapOf_51, some 57), (57, vb_X9_heapOf_57, none)]
def cz_X9_heapOf_at_44 : List (Nat × aC) := []
theorem ck_X9_heapOf_at_44 : csOK cz_X9_heapOf_at_44 := trivial
theorem cv_X9_heapOf_at_44 : blOK kd_X9_heapOf bl_X9_heapOf_at_44 := ⟨ve_X9_heapOf_0, ve_X9_heapOf_16, ve_X9_heapOf_51, ve_X9_heapOf_57, trivial⟩
theorem ch_X9_heapOf_at_44 : amchk ta_X9_heapOf_at_44 bl_X9_heapOf_at_44 cz_X9_heapOf_at_44 cc_X9_heapOf_at_44 = true := by decide +kernel
theorem ct_X9_heapOf_at_44 : CtOK cc_X9_heapOf_at_44 := am_ok' (T := ta_X9_heapOf_at_44) (B := bl_X9_heapOf_at_44) (cs := cz_X9_heapOf_at_44) vm_X9_heapOf cv_X9_heapOf_at_44 (by decide +kernel) ch_X9_heapOf_at_44 ck_X9_heapOf_at_44
def cc_X9_heapOf_at_45 : aC := (89, 1, [(2, 0, 0, 9), (0, 45, 45, 0)], some (0, 0, 45, 1), [], 0, [54, 5009], [((2, 215, 4), 0, 45)], [], [((2, 215, 4), 0, 46)])
def ta_X9_heapOf_at_45 : List aL := [(0, ([(0, ((2, 0, 0, 9), (0, 0, 0), (0, 0), [])), (1, ((0, 45, 45, 0), (0, 0, 0), (0, 0), []))], [], [((2, 215, 4), 0, 45)]), 142, [(4, 0)]),
  (16, ([(0, ((2, 0, 0, 9), (0, 0, 0), (0, 0), [])), (1, ((0, 45, 45, 0), (0, 0, 0), (0, 0), [])), (2, ((1, 1, 0, 0), (0, 0, 0), (0, 0), [])), (4, ((0, 0, 46, 1), (0, 0, 0), (0, 0), []))], [], [((2, 215, 4), 0, 45)]), 140, [(4, -3)]),
  (51, ([(0, ((2, 0, 0, 9), (0, 0, 0), (0, 0), [])), (1, ((0, 45, 45, 0), (0, 0, 0), (0, 0), [])), (2, ((1, 1, 0, 0), (0, 0, 0), (0, 0), [])), (4, ((0, 0, 45, 1), (0, 0, 0), (0, 0), []))], [], [((2, 215, 4), 1, 45)]), 139, [(4, -3)]),
  (57, ([(0, ((2, 0, 0, 9), (0, 0, 0), (0, 0), [])), (1, ((0, 45, 45, 0), (0, 0, 0), (0, 0), [])), (2, ((1, 1, 0, 0), (0, 0, 0), (0, 0), [])), (4, ((0, 0, 46, 1), (0, 0, 0), (0, 0), []))], [], [((2, 215, 4), 0, 45)]), 0, [(4, 0)])]
def bl_X9_heapOf_at_45 : List aB := [(0, vb_X9_heapOf_0, some 16), (16, vb_X9_heapOf_16, some 51), (51, vb_X9_heapOf_51, some 57), (57, vb_X9_heapOf_57, none)]
def cz_X9_heapOf_at_45 : List (Nat × aC) := []
theorem ck_X9_heapOf_at_45 : csOK cz_X9_heapOf_at_45 := trivial
theorem cv_X9_heapOf_at_45 : blOK kd_X9_heapOf bl_X9_heapOf_at_45 := ⟨ve_X9_heapOf_0, ve_X9_heapOf_16, ve_X9_heapOf_51, ve_X9_heapOf_57, trivial⟩
theorem ch_X9_heapOf_at_45 : amchk ta_X9_heapOf_at_45 bl_X9_heapOf_at_45 cz_X9_heapOf_at_45 cc_X9_heapOf_at_45 = true := by decide +kernel
theorem ct_X9_heapOf_at_45 : CtOK cc_X9_heapOf_at_45 := am_ok' (T := ta_X9_heapOf_at_45) (B := bl_X9_heapOf_at_45) (cs := cz_X9_heapOf_at_45) vm_X9_heapOf cv_X9_heapOf_at_45 (by decide +kernel) ch_X9_heapOf_at_45 ck_X9_heapOf_at_45
def cc_X9_heapOf_at_46 : aC := (89, 1, [(2, 0, 0, 9), (0, 46, 46, 0)], some (0, 0, 46, 1), [], 0, [54, 5009], [((2, 215, 4), 0, 46)], [], [((2, 215, 4), 0, 47)])
def ta_X9_heapOf_at_46 : List aL := [(0, ([(0, ((2, 0, 0, 9), (0, 0, 0), (0, 0), [])), (1, ((0, 46, 46, 0), (0, 0, 0), (0, 0), []))], [], [((2, 215, 4), 0, 46)]), 145, [(4, 0)]),
  (16, ([(0, ((2, 0, 0, 9), (0, 0, 0), (0, 0), [])), (1, ((0, 46, 46, 0), (0, 0, 0), (0, 0), [])), (2, ((1, 1, 0, 0), (0, 0, 0), (0, 0), [])), (4, ((0, 0, 47, 1), (0, 0, 0), (0, 0), []))], [], [((2, 215, 4), 0, 46)]), 143, [(4, -3)]),
  (51, ([(0, ((2, 0, 0, 9), (0, 0, 0), (0, 0), [])), (1, ((0, 46, 46, 0), (0, 0, 0), (0, 0), [])), (2, ((1, 1, 0, 0), (0, 0, 0), (0, 0), [])), (4, ((0, 0, 46, 1), (0, 0, 0), (0, 0), []))], [], [((2, 215, 4), 1, 46)]), 142, [(4, -3)]),
  (57, ([(0, ((2, 0, 0, 9), (0, 0, 0), (0, 0), [])), (1, ((0, 46, 46, 0), (0, 0, 0), (0, 0), [])), (2, ((1, 1, 0, 0), (0, 0, 0), (0, 0), [])), (4, ((0, 0, 47, 1), (0, 0, 0), (0, 0), []))], [], [((2, 215, 4), 0, 46)]), 0, [(4, 0)])]
def bl_X9_heapOf_at_46 : List aB := [(0, vb_X9_heapOf_0, some 16), (16, vb_X9_heapOf_16, some 51), (51, vb_X9_heapOf_51, some 57), (57, vb_X9_heapOf_57, none)]
def cz_X9_heapOf_at_46 : List (Nat × aC) := []
theorem ck_X9_heapOf_at_46 : csOK cz_X9_heapOf_at_46 := trivial
theorem cv_X9_heapOf_at_46 : blOK kd_X9_heapOf bl_X9_heapOf_at_46 := ⟨ve_X9_heapOf_0, ve_X9_heapOf_16, ve_X9_heapOf_51, ve_X9_heapOf_57, trivial⟩
theorem ch_X9_heapOf_at_46 : amchk ta_X9_heapOf_at_46 bl_X9_heapOf_at_46 cz_X9_heapOf_at_46 cc_X9_heapOf_at_46 = true := by decide +kernel
theorem ct_X9_heapOf_at_46 : CtOK cc_X9_heapOf_at_46 := am_ok' (T := ta_X9_heapOf_at_46) (B := bl_X9_heapOf_at_46) (cs := cz_X9_heapOf_at_46) vm_X9_heapOf cv_X9_heapOf_at_46 (by decide +kernel) ch_X9_heapOf_at_46 ck_X9_heapOf_at_46
def cc_X9_heapOf_at_47 : aC := (89, 1, [(2, 0, 0, 9), (0, 47, 47, 0)], some (0, 0, 47, 1), [], 0, [54, 5009], [((2, 215, 4), 0, 47)], [], [((2, 215, 4), 0, 48)])
def ta_X9_heapOf_at_47 : List aL := [(0, ([(0, ((2, 0, 0, 9), (0, 0, 0), (0, 0), [])), (1, ((0, 47, 47, 0), (0, 0, 0), (0, 0), []))], [], [((2, 215, 4), 0, 47)]), 148, [(4, 0)]),
  (16, ([(0, ((2, 0, 0, 9), (0, 0, 0), (0, 0), [])), (1, ((0, 47, 47, 0), (0, 0, 0), (0, 0), [])), (2, ((1, 1, 0, 0), (0, 0, 0), (0, 0), [])), (4, ((0, 0, 48, 1), (0, 0, 0), (0, 0), []))], [], [((2, 215, 4), 0, 47)]), 146, [(4, -3)]),
  (51, ([(0, ((2, 0, 0, 9), (0, 0, 0), (0, 0), [])), (1, ((0, 47, 47, 0), (0, 0, 0), (0, 0), [])), (2, ((1, 1, 0, 0), (0, 0, 0), (0, 0), [])), (4, ((0, 0, 47, 1), (0, 0, 0), (0, 0), []))], [], [((2, 215, 4), 1, 47)]), 145, [(4, -3)]),
  (57, ([(0, ((2, 0, 0, 9), (0, 0, 0), (0, 0), [])), (1, ((0, 47, 47, 0), (0, 0, 0), (0, 0), [])), (2, ((1, 1, 0, 0), (0, 0, 0), (0, 0), [])), (4, ((0, 0, 48, 1), (0, 0, 0), (0, 0), []))], [], [((2, 215, 4), 0, 47)]), 0, [(4, 0)])]
def bl_X9_heapOf_at_47 : List aB := [(0, vb_X9_heapOf_0, some 16), (16, vb_X9_heapOf_16, some 51), (51, vb_X9_heapOf_51, some 57), (57, vb_X9_heapOf_57, none)]
def cz_X9_heapOf_at_47 : List (Nat × aC) := []
theorem ck_X9_heapOf_at_47 : csOK cz_X9_heapOf_at_47 := trivial
theorem cv_X9_heapOf_at_47 : blOK kd_X9_heapOf bl_X9_heapOf_at_47 := ⟨ve_X9_heapOf_0, ve_X9_heapOf_16, ve_X9_heapOf_51, ve_X9_heapOf_57, trivial⟩
theorem ch_X9_heapOf_at_47 : amchk ta_X9_heapOf_at_47 bl_X9_heapOf_at_47 cz_X9_heapOf_at_47 cc_X9_heapOf_at_47 = true := by decide +kernel
theorem ct_X9_heapOf_at_47 : CtOK cc_X9_heapOf_at_47 := am_ok' (T := ta_X9_heapOf_at_47) (B := bl_X9_heapOf_at_47) (cs := cz_X9_heapOf_at_47) vm_X9_heapOf cv_X9_heapOf_at_47 (by decide +kernel) ch_X9_heapOf_at_47 ck_X9_heapOf_at_47
def cc_X9_heapOf_at_48 : aC := (89, 1, [(2, 0, 0, 9), (0, 48, 48, 0)], some (0, 0, 48, 1), [], 0, [54, 5009], [((2, 215, 4), 0, 48)], [], [((2, 215, 4), 0, 49)])
def ta_X9_heapOf_at_48 : List aL := [(0, ([(0, ((2, 0, 0, 9), (0, 0, 0), (0, 0), [])), (1, ((0, 48, 48, 0), (0, 0, 0), (0, 0), []))], [], [((2, 215, 4), 0, 48)]), 151, [(4, 0)]),
  (16, ([(0, ((2, 0, 0, 9), (0, 0, 0), (0, 0), [])), (1, ((0, 48, 48, 0), (0, 0, 0), (0, 0), [])), (2, ((1, 1, 0, 0), (0, 0, 0), (0, 0), [])), (4, ((0, 0, 49, 1), (0, 0, 0), (0, 0), []))], [], [((2, 215, 4), 0, 48)]), 149, [(4, -3)]),
  (51, ([(0, ((2, 0, 0, 9), (0, 0, 0), (0, 0), [])), (1, ((0, 48, 48, 0), (0, 0, 0), (0, 0), [])), (2, ((1, 1, 0, 0), (0, 0, 0), (0, 0), [])), (4, ((0, 0, 48, 1), (0, 0, 0), (0, 0), []))], [], [((2, 215, 4), 1, 48)]), 148, [(4, -3)]),
  (57, ([(0, ((2, 0, 0, 9), (0, 0, 0), (0, 0), [])), (1, ((0, 48, 48, 0), (0, 0, 0), (0, 0), [])), (2, ((1, 1, 0, 0), (0, 0, 0), (0, 0), [])), (4, ((0, 0, 49, 1), (0, 0, 0), (0, 0), []))], [], [((2, 215, 4), 0, 48)]), 0, [(4, 0)])]
def bl_X9_heapOf_at_48 : List aB := [(0, vb_X9_heapOf_0, some 16), (16, vb_X9_heapOf_16, some 51), (51, vb_X9_heapOf_51, some 57), (57, vb_X9_heapOf_57, none)]
def cz_X9_heapOf_at_48 : List (Nat × aC) := []
theorem ck_X9_heapOf_at_48 : csOK cz_X9_heapOf_at_48 := trivial
theorem cv_X9_heapOf_at_48 : blOK kd_X9_heapOf bl_X9_heapOf_at_48 := ⟨ve_X9_heapOf_0, ve_X9_heapOf_16, ve_X9_heapOf_51, ve_X9_heapOf_57, trivial⟩
theorem ch_X9_heapOf_at_48 : amchk ta_X9_heapOf_at_48 bl_X9_heapOf_at_48 cz_X9_heapOf_at_48 cc_X9_heapOf_at_48 = true := by decide +kernel
theorem ct_X9_heapOf_at_48 : CtOK cc_X9_heapOf_at_48 := am_ok' (T := ta_X9_heapOf_at_48) (B := bl_X9_heapOf_at_48) (cs := cz_X9_heapOf_at_48) vm_X9_heapOf cv_X9_heapOf_at_48 (by decide +kernel) ch_X9_heapOf_at_48 ck_X9_heapOf_at_48
def cc_X9_heapOf_at_49 : aC := (89, 1, [(2, 0, 0, 9), (0, 49, 49, 0)], some (0, 0, 49, 1), [], 0, [54, 5009], [((2, 215, 4), 0, 49)], [], [((2, 215, 4), 0, 50)])
def ta_X9_heapOf_at_49 : List aL := [(0, ([(0, ((2, 0, 0, 9), (0, 0, 0), (0, 0), [])), (1, ((0, 49, 49, 0), (0, 0, 0), (0, 0), []))], [], [((2, 215, 4), 0, 49)]), 154, [(4, 0)]),
  (16, ([(0, ((2, 0, 0, 9), (0, 0, 0), (0, 0), [])), (1, ((0, 49, 49, 0), (0, 0, 0), (0, 0), [])), (2, ((1, 1, 0, 0), (0, 0, 0), (0, 0), [])), (4, ((0, 0, 50, 1), (0, 0, 0), (0, 0), []))], [], [((2, 215, 4), 0, 49)]), 152, [(4, -3)]),
  (51, ([(0, ((2, 0, 0, 9), (0, 0, 0), (0, 0), [])), (1, ((0, 49, 49, 0), (0, 0, 0), (0, 0), [])), (2, ((1, 1, 0, 0), (0, 0, 0), (0, 0), [])), (4, ((0, 0, 49, 1), (0, 0, 0), (0, 0), []))], [], [((2, 215, 4), 1, 49)]), 151, [(4, -3)]),
  (57, ([(0, ((2, 0, 0, 9), (0, 0, 0), (0, 0), [])), (1, ((0, 49, 49, 0), (0, 0, 0), (0, 0), [])), (2, ((1, 1, 0, 0), (0, 0, 0), (0, 0), [])), (4, ((0, 0, 50, 1), (0, 0, 0), (0, 0), []))], [], [((2, 215, 4), 0, 49)]), 0, [(4, 0)])]
def bl_X9_heapOf_at_49 : List aB := [(0, vb_X9_heapOf_0, some 16), (16, vb_X9_heapOf_16, some 51), (51, vb_X9_heapOf_51, some 57), (57, vb_X9_heapOf_57, none)]
def cz_X9_heapOf_at_49 : List (Nat × aC) := []
theorem ck_X9_heapOf_at_49 : csOK cz_X9_heapOf_at_49 := trivial
theorem cv_X9_heapOf_at_49 : blOK kd_X9_heapOf bl_X9_heapOf_at_49 := ⟨ve_X9_heapOf_0, ve_X9_heapOf_16, ve_X9_heapOf_51, ve_X9_heapOf_57, trivial⟩
theorem ch_X9_heapOf_at_49 : amchk ta_X9_heapOf_at_49 bl_X9_heapOf_at_49 cz_X9_heapOf_at_49 cc_X9_heapOf_at_49 = true := by decide +kernel
theorem ct_X9_heapOf_at_49 : CtOK cc_X9_heapOf_at_49 := am_ok' (T := ta_X9_heapOf_at_49) (B := bl_X9_heapOf_at_49) (cs := cz_X9_heapOf_at_49) vm_X9_heapOf cv_X9_heapOf_at_49 (by decide +kernel) ch_X9_heapOf_at_49 ck_X9_heapOf_at_49
def cc_X9_heapOf_at_5 : aC := (89, 1, [(2, 0, 0, 9), (0, 5, 5, 0)], some (0, 0, 5, 1), [], 0, [54, 5009], [((2, 215, 4), 0, 5)], [], [((2, 215, 4), 0, 6)])
def ta_X9_heapOf_at_5 : List aL := [(0, ([(0, ((2, 0, 0, 9), (0, 0, 0), (0, 0), [])), (1, ((0, 5, 5, 0), (0, 0, 0), (0, 0), []))], [], [((2, 215, 4), 0, 5)]), 22, [(4, 0)]),
  (16, ([(0, ((2, 0, 0, 9), (0, 0, 0), (0, 0), [])), (1, ((0, 5, 5, 0), (0, 0, 0), (0, 0), [])), (2, ((1, 1, 0, 0), (0, 0, 0), (0, 0), [])), (4, ((0, 0, 6, 1), (0, 0, 0), (0, 0), []))], [], [((2, 215, 4), 0, 5)]), 20, [(4, -3)]),
  (51, ([(0, ((2, 0, 0, 9), (0, 0, 0), (0, 0), [])), (1, ((0, 5, 5, 0), (0, 0, 0), (0, 0), [])), (2, ((1, 1, 0, 0), (0, 0, 0), (0, 0), [])), (4, ((0, 0, 5, 1), (0, 0, 0), (0, 0), []))], [], [((2, 215, 4), 1, 5)]), 19, [(4, -3)]),
  (57, ([(0, ((2, 0, 0, 9), (0, 0, 0), (0, 0), [])), (1, ((0, 5, 5, 0), (0, 0, 0), (0, 0), [])), (2, ((1, 1, 0, 0), (0, 0, 0), (0, 0), [])), (4, ((0, 0, 6, 1), (0, 0, 0), (0, 0), []))], [], [((2, 215, 4), 0, 5)]), 0, [(4, 0)])]
def bl_X9_heapOf_at_5 : List aB := [(0, vb_X9_heapOf_0, some 16), (16, vb_X9_heapOf_16, some 51), (51, vb_X9_heapOf_51, some 57), (57, vb_X9_heapOf_57, none)]
def cz_X9_heapOf_at_5 : List (Nat × aC) := []
theorem ck_X9_heapOf_at_5 : csOK cz_X9_heapOf_at_5 := trivial
theorem cv_X9_heapOf_at_5 : blOK kd_X9_heapOf bl_X9_heapOf_at_5 := ⟨ve_X9_heapOf_0, ve_X9_heapOf_16, ve_X9_heapOf_51, ve_X9_heapOf_57, trivial⟩
theorem ch_X9_heapOf_at_5 : amchk ta_X9_heapOf_at_5 bl_X9_heapOf_at_5 cz_X9_heapOf_at_5 cc_X9_heapOf_at_5 = true := by decide +kernel
theorem ct_X9_heapOf_at_5 : CtOK cc_X9_heapOf_at_5 := am_ok' (T := ta_X9_heapOf_at_5) (B := bl_X9_heapOf_at_5) (cs := cz_X9_heapOf_at_5) vm_X9_heapOf cv_X9_heapOf_at_5 (by decide +kernel) ch_X9_heapOf_at_5 ck_X9_heapOf_at_5
def cc_X9_heapOf_at_50 : aC := (89, 1, [(2, 0, 0, 9), (0, 50, 50, 0)], some (0, 0, 50, 1), [], 0, [54, 5009], [((2, 215, 4), 0, 50)], [], [((2, 215, 4), 0, 51)])
def ta_X9_heapOf_at_50 : List aL := [(0, ([(0, ((2, 0, 0, 9), (0, 0, 0), (0, 0), [])), (1, ((0, 50, 50, 0), (0, 0, 0), (0, 0), []))], [], [((2, 215, 4), 0, 50)]), 157, [(4, 0)]),
  (16, ([(0, ((2, 0, 0, 9), (0, 0, 0), (0, 0), [])), (1, ((0, 50, 50, 0), (0, 0, 0), (0, 0), [])), (2, ((1, 1, 0, 0), (0, 0, 0), (0, 0), [])), (4, ((0, 0, 51, 1), (0, 0, 0), (0, 0), []))], [], [((2, 215, 4), 0, 50)]), 155, [(4, -3)]),
  (51, ([(0, ((2, 0, 0, 9), (0, 0, 0), (0, 0), [])), (1, ((0, 50, 50, 0), (0, 0, 0), (0, 0), [])), (2, ((1, 1, 0, 0), (0, 0, 0), (0, 0), [])), (4, ((0, 0, 50, 1), (0, 0, 0), (0, 0), []))], [], [((2, 215, 4), 1, 50)]), 154, [(4, -3)]),
  (57, ([(0, ((2, 0, 0, 9), (0, 0, 0), (0, 0), [])), (1, ((0, 50, 50, 0), (0, 0, 0), (0, 0), [])), (2, ((1, 1, 0, 0), (0, 0, 0), (0, 0), [])), (4, ((0, 0, 51, 1), (0, 0, 0), (0, 0), []))], [], [((2, 215, 4), 0, 50)]), 0, [(4, 0)])]
def bl_X9_heapOf_at_50 : List aB := [(0, vb_X9_heapOf_0, some 16), (16, vb_X9_heapOf_16, some 51), (51, vb_X9_heapOf_51, some 57), (57, vb_X9_heapOf_57, none)]
def cz_X9_heapOf_at_50 : List (Nat × aC) := []
theorem ck_X9_heapOf_at_50 : csOK cz_X9_heapOf_at_50 := trivial
theorem cv_X9_heapOf_at_50 : blOK kd_X9_heapOf bl_X9_heapOf_at_50 := ⟨ve_X9_heapOf_0, ve_X9_heapOf_16, ve_X9_heapOf_51, ve_X9_heapOf_57, trivial⟩
theorem ch_X9_heapOf_at_50 : amchk ta_X9_heapOf_at_50 bl_X9_heapOf_at_50 cz_X9_heapOf_at_50 cc_X9_heapOf_at_50 = true := by decide +kernel
theorem ct_X9_heapOf_at_50 : CtOK cc_X9_heapOf_at_50 := am_ok' (T := ta_X9_heapOf_at_50) (B := bl_X9_heapOf_at_50) (cs := cz_X9_heapOf_at_50) vm_X9_heapOf cv_X9_heapOf_at_50 (by decide +kernel) ch_X9_heapOf_at_50 ck_X9_heapOf_at_50
def cc_X9_heapOf_at_51 : aC := (89, 1, [(2, 0, 0, 9), (0, 51, 51, 0)], some (0, 0, 51, 1), [], 0, [54, 5009], [((2, 215, 4), 0, 51)], [], [((2, 215, 4), 0, 52)])
def ta_X9_heapOf_at_51 : List aL := [(0, ([(0, ((2, 0, 0, 9), (0, 0, 0), (0, 0), [])), (1, ((0, 51, 51, 0), (0, 0, 0), (0, 0), []))], [], [((2, 215, 4), 0, 51)]), 160, [(4, 0)]),
  (16, ([(0, ((2, 0, 0, 9), (0, 0, 0), (0, 0), [])), (1, ((0, 51, 51, 0), (0, 0, 0), (0, 0), [])), (2, ((1, 1, 0, 0), (0, 0, 0), (0, 0), [])), (4, ((0, 0, 52, 1), (0, 0, 0), (0, 0), []))], [], [((2, 215, 4), 0, 51)]), 158, [(4, -3)]),
  (51, ([(0, ((2, 0, 0, 9), (0, 0, 0), (0, 0), [])), (1, ((0, 51, 51, 0), (0, 0, 0), (0, 0), [])), (2, ((1, 1, 0, 0), (0, 0, 0), (0, 0), [])), (4, ((0, 0, 51, 1), (0, 0, 0), (0, 0), []))], [], [((2, 215, 4), 1, 51)]), 157, [(4, -3)]),
  (57, ([(0, ((2, 0, 0, 9), (0, 0, 0), (0, 0), [])), (1, ((0, 51, 51, 0), (0, 0, 0), (0, 0), [])), (2, ((1, 1, 0, 0), (0, 0, 0), (0, 0), [])), (4, ((0, 0, 52, 1), (0, 0, 0), (0, 0), []))], [], [((2, 215, 4), 0, 51)]), 0, [(4, 0)])]
def bl_X9_heapOf_at_51 : List aB := [(0, vb_X9_heapOf_0, some 16), (16, vb_X9_heapOf_16, some 51), (51, vb_X9_heapOf_51, some 57), (57, vb_X9_heapOf_57, none)]
def cz_X9_heapOf_at_51 : List (Nat × aC) := []
theorem ck_X9_heapOf_at_51 : csOK cz_X9_heapOf_at_51 := trivial
theorem cv_X9_heapOf_at_51 : blOK kd_X9_heapOf bl_X9_heapOf_at_51 := ⟨ve_X9_heapOf_0, ve_X9_heapOf_16, ve_X9_heapOf_51, ve_X9_heapOf_57, trivial⟩
theorem ch_X9_heapOf_at_51 : amchk ta_X9_heapOf_at_51 bl_X9_heapOf_at_51 cz_X9_heapOf_at_51 cc_X9_heapOf_at_51 = true := by decide +kernel
theorem ct_X9_heapOf_at_51 : CtOK cc_X9_heapOf_at_51 := am_ok' (T := ta_X9_heapOf_at_51) (B := bl_X9_heapOf_at_51) (cs := cz_X9_heapOf_at_51) vm_X9_heapOf cv_X9_heapOf_at_51 (by decide +kernel) ch_X9_heapOf_at_51 ck_X9_heapOf_at_51
def cc_X9_heapOf_at_52 : aC := (89, 1, [(2, 0, 0, 9), (0, 52, 52, 0)], some (0, 0, 52, 1), [], 0, [54, 5009], [((2, 215, 4), 0, 52)], [], [((2, 215, 4), 0, 53)])
def ta_X9_heapOf_at_52 : List aL := [(0, ([(0, ((2, 0, 0, 9), (0, 0, 0), (0, 0), [])), (1, ((0, 52, 52, 0), (0, 0, 0), (0, 0), []))], [], [((2, 215, 4), 0, 52)]), 163, [(4, 0)]),
  (16, ([(0, ((2, 0, 0, 9), (0, 0, 0), (0, 0), [])), (1, ((0, 52, 52, 0), (0, 0, 0), (0, 0), [])), (2, ((1, 1, 0, 0), (0, 0, 0), (0, 0), [])), (4, ((0, 0, 53, 1), (0, 0, 0), (0, 0), []))], [], [((2, 215, 4), 0, 52)]), 161, [(4, -3)]),
  (51, ([(0, ((2, 0, 0, 9), (0, 0, 0), (0, 0), [])), (1, ((0, 52, 52, 0), (0, 0, 0), (0, 0), [])), (2, ((1, 1, 0, 0), (0, 0, 0), (0, 0), [])), (4, ((0, 0, 52, 1), (0, 0, 0), (0, 0), []))], [], [((2, 215, 4), 1, 52)]), 160, [(4, -3)]),
  (57, ([(0, ((2, 0, 0, 9), (0, 0, 0), (0, 0), [])), (1, ((0, 52, 52, 0), (0, 0, 0), (0, 0), [])), (2, ((1, 1, 0, 0), (0, 0, 0), (0, 0), [])), (4, ((0, 0, 53, 1), (0, 0, 0), (0, 0), []))], [], [((2, 215, 4), 0, 52)]), 0, [(4, 0)])]
def bl_X9_heapOf_at_52 : List aB := [(0, vb_X9_heapOf_0, some 16), (16, vb_X9_heapOf_16, some 51), (51, vb_X9_heapOf_51, some 57), (57, vb_X9_heapOf_57, none)]
def cz_X9_heapOf_at_52 : List (Nat × aC) := []
theorem ck_X9_heapOf_at_52 : csOK cz_X9_heapOf_at_52 := trivial
theorem cv_X9_heapOf_at_52 : blOK kd_X9_heapOf bl_X9_heapOf_at_52 := ⟨ve_X9_heapOf_0, ve_X9_heapOf_16, ve_X9_heapOf_51, ve_X9_heapOf_57, trivial⟩
theorem ch_X9_heapOf_at_52 : amchk ta_X9_heapOf_at_52 bl_X9_heapOf_at_52 cz_X9_heapOf_at_52 cc_X9_heapOf_at_52 = true := by decide +kernel
theorem ct_X9_heapOf_at_52 : CtOK cc_X9_heapOf_at_52 := am_ok' (T := ta_X9_heapOf_at_52) (B := bl_X9_heapOf_at_52) (cs := cz_X9_heapOf_at_52) vm_X9_heapOf cv_X9_heapOf_at_52 (by decide +kernel) ch_X9_heapOf_at_52 ck_X9_heapOf_at_52
def cc_X9_heapOf_at_53 : aC := (89, 1, [(2, 0, 0, 9), (0, 53, 53, 0)], some (0, 0, 53, 1), [], 0, [54, 5009], [((2, 215, 4), 0, 53)], [], [((2, 215, 4), 0, 54)])
def ta_X9_heapOf_at_53 : List aL := [(0, ([(0, ((2, 0, 0, 9), (0, 0, 0), (0, 0), [])), (1, ((0, 53, 53, 0), (0, 0, 0), (0, 0), []))], [], [((2, 215, 4), 0, 53)]), 166, [(4, 0)]),
  (16, ([(0, ((2, 0, 0, 9), (0, 0, 0), (0, 0), [])), (1, ((0, 53, 53, 0), (0, 0, 0), (0, 0), [])), (2, ((1, 1, 0, 0), (0, 0, 0), (0, 0), [])), (4, ((0, 0, 54, 1), (0, 0, 0), (0, 0), []))], [], [((2, 215, 4), 0, 53)]), 164, [(4, -3)]),
  (51, ([(0, ((2, 0, 0, 9), (0, 0, 0), (0, 0), [])), (1, ((0, 53, 53, 0), (0, 0, 0), (0, 0), [])), (2, ((1, 1, 0, 0), (0, 0, 0), (0, 0), [])), (4, ((0, 0, 53, 1), (0, 0, 0), (0, 0), []))], [], [((2, 215, 4), 1, 53)]), 163, [(4, -3)]),
  (57, ([(0, ((2, 0, 0, 9), (0, 0, 0), (0, 0), [])), (1, ((0, 53, 53, 0), (0, 0, 0), (0, 0), [])), (2, ((1, 1, 0, 0), (0, 0, 0), (0, 0), [])), (4, ((0, 0, 54, 1), (0, 0, 0), (0, 0), []))], [], [((2, 215, 4), 0, 53)]), 0, [(4, 0)])]
def bl_X9_heapOf_at_53 : List aB := [(0, vb_X9_heapOf_0, some 16), (16, vb_X9_heapOf_16, some 51), (51, vb_X9_heapOf_51, some 57), (57, vb_X9_heapOf_57, none)]
def cz_X9_heapOf_at_53 : List (Nat × aC) := []
theorem ck_X9_heapOf_at_53 : csOK cz_X9_heapOf_at_53 := trivial
theorem cv_X9_heapOf_at_53 : blOK kd_X9_heapOf bl_X9_heapOf_at_53 := ⟨ve_X9_heapOf_0, ve_X9_heapOf_16, ve_X9_heapOf_51, ve_X9_heapOf_57, trivial⟩
theorem ch_X9_heapOf_at_53 : amchk ta_X9_heapOf_at_53 bl_X9_heapOf_at_53 cz_X9_heapOf_at_53 cc_X9_heapOf_at_53 = true := by decide +kernel
theorem ct_X9_heapOf_at_53 : CtOK cc_X9_heapOf_at_53 := am_ok' (T := ta_X9_heapOf_at_53) (B := bl_X9_heapOf_at_53) (cs := cz_X9_heapOf_at_53) vm_X9_heapOf cv_X9_heapOf_at_53 (by decide +kernel) ch_X9_heapOf_at_53 ck_X9_heapOf_at_53
def cc_X9_heapOf_at_54 : aC := (89, 1, [(2, 0, 0, 9), (0, 54, 54, 0)], some (0, 0, 54, 1), [], 0, [54, 5009], [((2, 215, 4), 0, 54)], [], [((2, 215, 4), 0, 55)])
def ta_X9_heapOf_at_54 : List aL := [(0, ([(0, ((2, 0, 0, 9), (0, 0, 0), (0, 0), [])), (1, ((0, 54, 54, 0), (0, 0, 0), (0, 0), []))], [], [((2, 215, 4), 0, 54)]), 169, [(4, 0)]),
  (16, ([(0, ((2, 0, 0, 9), (0, 0, 0), (0, 0), [])), (1, ((0, 54, 54, 0), (0, 0, 0), (0, 0), [])), (2, ((1, 1, 0, 0), (0, 0, 0), (0, 0), [])), (4, ((0, 0, 55, 1), (0, 0, 0), (0, 0), []))], [], [((2, 215, 4), 0, 54)]), 167, [(4, -3)]),
  (51, ([(0, ((2, 0, 0, 9), (0, 0, 0), (0, 0), [])), (1, ((0, 54, 54, 0), (0, 0, 0), (0, 0), [])), (2, ((1, 1, 0, 0), (0, 0, 0), (0, 0), [])), (4, ((0, 0, 54, 1), (0, 0, 0), (0, 0), []))], [], [((2, 215, 4), 1, 54)]), 166, [(4, -3)]),
  (57, ([(0, ((2, 0, 0, 9), (0, 0, 0), (0, 0), [])), (1, ((0, 54, 54, 0), (0, 0, 0), (0, 0), [])), (2, ((1, 1, 0, 0), (0, 0, 0), (0, 0), [])), (4, ((0, 0, 55, 1), (0, 0, 0), (0, 0), []))], [], [((2, 215, 4), 0, 54)]), 0, [(4, 0)])]
def bl_X9_heapOf_at_54 : List aB := [(0, vb_X9_heapOf_0, some 16), (16, vb_X9_heapOf_16, some 51), (51, vb_X9_heapOf_51, some 57), (57, vb_X9_heapOf_57, none)]
def cz_X9_heapOf_at_54 : List (Nat × aC) := []
theorem ck_X9_heapOf_at_54 : csOK cz_X9_heapOf_at_54 := trivial
theorem cv_X9_heapOf_at_54 : blOK kd_X9_heapOf bl_X9_heapOf_at_54 := ⟨ve_X9_heapOf_0, ve_X9_heapOf_16, ve_X9_heapOf_51, ve_X9_heapOf_57, trivial⟩
theorem ch_X9_heapOf_at_54 : amchk ta_X9_heapOf_at_54 bl_X9_heapOf_at_54 cz_X9_heapOf_at_54 cc_X9_heapOf_at_54 = true := by decide +kernel
theorem ct_X9_heapOf_at_54 : CtOK cc_X9_heapOf_at_54 := am_ok' (T := ta_X9_heapOf_at_54) (B := bl_X9_heapOf_at_54) (cs := cz_X9_heapOf_at_54) vm_X9_heapOf cv_X9_heapOf_at_54 (by decide +kernel) ch_X9_heapOf_at_54 ck_X9_heapOf_at_54
def cc_X9_heapOf_at_55 : aC := (89, 1, [(2, 0, 0, 9), (0, 55, 55, 0)], some (0, 0, 55, 1), [], 0, [54, 5009], [((2, 215, 4), 0, 55)], [], [((2, 215, 4), 0, 56)])
def ta_X9_heapOf_at_55 : List aL := [(0, ([(0, ((2, 0, 0, 9), (0, 0, 0), (0, 0), [])), (1, ((0, 55, 55, 0), (0, 0, 0), (0, 0), []))], [], [((2, 215, 4), 0, 55)]), 172, [(4, 0)]),
  (16, ([(0, ((2, 0, 0, 9), (0, 0, 0), (0, 0), [])), (1, ((0, 55, 55, 0), (0, 0, 0), (0, 0), [])), (2, ((1, 1, 0, 0), (0, 0, 0), (0, 0), [])), (4, ((0, 0, 56, 1), (0, 0, 0), (0, 0), []))], [], [((2, 215, 4), 0, 55)]), 170, [(4, -3)]),
  (51, ([(0, ((2, 0, 0, 9), (0, 0, 0), (0, 0), [])), (1, ((0, 55, 55, 0), (0, 0, 0), (0, 0), [])), (2, ((1, 1, 0, 0), (0, 0, 0), (0, 0), [])), (4, ((0, 0, 55, 1), (0, 0, 0), (0, 0), []))], [], [((2, 215, 4), 1, 55)]), 169, [(4, -3)]),
  (57, ([(0, ((2, 0, 0, 9), (0, 0, 0), (0, 0), [])), (1, ((0, 55, 55, 0), (0, 0, 0), (0, 0), [])), (2, ((1, 1, 0, 0), (0, 0, 0), (0, 0), [])), (4, ((0, 0, 56, 1), (0, 0, 0), (0, 0), []))], [], [((2, 215, 4), 0, 55)]), 0, [(4, 0)])]
def bl_X9_heapOf_at_55 : List aB := [(0, vb_X9_heapOf_0, some 16), (16, vb_X9_heapOf_16, some 51), (51, vb_X9_heapOf_51, some 57), (57, vb_X9_heapOf_57, none)]
def cz_X9_heapOf_at_55 : List (Nat × aC) := []
theorem ck_X9_heapOf_at_55 : csOK cz_X9_heapOf_at_55 := trivial
theorem cv_X9_heapOf_at_55 : blOK kd_X9_heapOf bl_X9_heapOf_at_55 := ⟨ve_X9_heapOf_0, ve_X9_heapOf_16, ve_X9_heapOf_51, ve_X9_heapOf_57, trivial⟩
theorem ch_X9_heapOf_at_55 : amchk ta_X9_heapOf_at_55 bl_X9_heapOf_at_55 cz_X9_heapOf_at_55 cc_X9_heapOf_at_55 = true := by decide +kernel
theorem ct_X9_heapOf_at_55 : CtOK cc_X9_heapOf_at_55 := am_ok' (T := ta_X9_heapOf_at_55) (B := bl_X9_heapOf_at_55) (cs := cz_X9_heapOf_at_55) vm_X9_heapOf cv_X9_heapOf_at_55 (by decide +kernel) ch_X9_heapOf_at_55 ck_X9_heapOf_at_55
def cc_X9_heapOf_at_56 : aC := (89, 1, [(2, 0, 0, 9), (0, 56, 56, 0)], some (0, 0, 56, 1), [], 0, [54, 5009], [((2, 215, 4), 0, 56)], [], [((2, 215, 4), 0, 57)])
def ta_X9_heapOf_at_56 : List aL := [(0, ([(0, ((2, 0, 0, 9), (0, 0, 0), (0, 0), [])), (1, ((0, 56, 56, 0), (0, 0, 0), (0, 0), []))], [], [((2, 215, 4), 0, 56)]), 175, [(4, 0)]),
  (16, ([(0, ((2, 0, 0, 9), (0, 0, 0), (0, 0), [])), (1, ((0, 56, 56, 0), (0, 0, 0), (0, 0), [])), (2, ((1, 1, 0, 0), (0, 0, 0), (0, 0), [])), (4, ((0, 0, 57, 1), (0, 0, 0), (0, 0), []))], [], [((2, 215, 4), 0, 56)]), 173, [(4, -3)]),
  (51, ([(0, ((2, 0, 0, 9), (0, 0, 0), (0, 0), [])), (1, ((0, 56, 56, 0), (0, 0, 0), (0, 0), [])), (2, ((1, 1, 0, 0), (0, 0, 0), (0, 0), [])), (4, ((0, 0, 56, 1), (0, 0, 0), (0, 0), []))], [], [((2, 215, 4), 1, 56)]), 172, [(4, -3)]),
  (57, ([(0, ((2, 0, 0, 9), (0, 0, 0), (0, 0), [])), (1, ((0, 56, 56, 0), (0, 0, 0), (0, 0), [])), (2, ((1, 1, 0, 0), (0, 0, 0), (0, 0), [])), (4, ((0, 0, 57, 1), (0, 0, 0), (0, 0), []))], [], [((2, 215, 4), 0, 56)]), 0, [(4, 0)])]
def bl_X9_heapOf_at_56 : List aB := [(0, vb_X9_heapOf_0, some 16), (16, vb_X9_heapOf_16, some 51), (51, vb_X9_heapOf_51, some 57), (57, vb_X9_heapOf_57, none)]
def cz_X9_heapOf_at_56 : List (Nat × aC) := []
theorem ck_X9_heapOf_at_56 : csOK cz_X9_heapOf_at_56 := trivial
theorem cv_X9_heapOf_at_56 : blOK kd_X9_heapOf bl_X9_heapOf_at_56 := ⟨ve_X9_heapOf_0, ve_X9_heapOf_16, ve_X9_heapOf_51, ve_X9_heapOf_57, trivial⟩
theorem ch_X9_heapOf_at_56 : amchk ta_X9_heapOf_at_56 bl_X9_heapOf_at_56 cz_X9_heapOf_at_56 cc_X9_heapOf_at_56 = true := by decide +kernel
theorem ct_X9_heapOf_at_56 : CtOK cc_X9_heapOf_at_56 := am_ok' (T := ta_X9_heapOf_at_56) (B := bl_X9_heapOf_at_56) (cs := cz_X9_heapOf_at_56) vm_X9_heapOf cv_X9_heapOf_at_56 (by decide +kernel) ch_X9_heapOf_at_56 ck_X9_heapOf_at_56
def cc_X9_heapOf_at_57 : aC := (89, 1, [(2, 0, 0, 9), (0, 57, 57, 0)], some (0, 0, 57, 1), [], 0, [54, 5009], [((2, 215, 4), 0, 57)], [], [((2, 215, 4), 0, 58)])
def ta_X9_heapOf_at_57 : List aL := [(0, ([(0, ((2, 0, 0, 9), (0, 0, 0), (0, 0), [])), (1, ((0, 57, 57, 0), (0, 0, 0), (0, 0), []))], [], [((2, 215, 4), 0, 57)]), 178, [(4, 0)]),
  (16, ([(0, ((2, 0, 0, 9), (0, 0, 0), (0, 0), [])), (1, ((0, 57, 57, 0), (0, 0, 0), (0, 0), [])), (2, ((1, 1, 0, 0), (0, 0, 0), (0, 0), [])), (4, ((0, 0, 58, 1), (0, 0, 0), (0, 0), []))], [], [((2, 215, 4), 0, 57)]), 176, [(4, -3)]),
  (51, ([(0, ((2, 0, 0, 9), (0, 0, 0), (0, 0), [])), (1, ((0, 57, 57, 0), (0, 0, 0), (0, 0), [])), (2, ((1, 1, 0, 0), (0, 0, 0), (0, 0), [])), (4, ((0, 0, 57, 1), (0, 0, 0), (0, 0), []))], [], [((2, 215, 4), 1, 57)]), 175, [(4, -3)]),
  (57, ([(0, ((2, 0, 0, 9), (0, 0, 0), (0, 0), [])), (1, ((0, 57, 57, 0), (0, 0, 0), (0, 0), [])), (2, ((1, 1, 0, 0), (0, 0, 0), (0, 0), [])), (4, ((0, 0, 58, 1), (0, 0, 0), (0, 0), []))], [], [((2, 215, 4), 0, 57)]), 0, [(4, 0)])]
def bl_X9_heapOf_at_57 : List aB := [(0, vb_X9_heapOf_0, some 16), (16, vb_X9_heapOf_16, some 51), (51, vb_X9_heapOf_51, some 57), (57, vb_X9_heapOf_57, none)]
def cz_X9_heapOf_at_57 : List (Nat × aC) := []
theorem ck_X9_heapOf_at_57 : csOK cz_X9_heapOf_at_57 := trivial
theorem cv_X9_heapOf_at_57 : blOK kd_X9_heapOf bl_X9_heapOf_at_57 := ⟨ve_X9_heapOf_0, ve_X9_heapOf_16, ve_X9_heapOf_51, ve_X9_heapOf_57, trivial⟩
theorem ch_X9_heapOf_at_57 : amchk ta_X9_heapOf_at_57 bl_X9_heapOf_at_57 cz_X9_heapOf_at_57 cc_X9_heapOf_at_57 = true := by decide +kernel
theorem ct_X9_heapOf_at_57 : CtOK cc_X9_heapOf_at_57 := am_ok' (T := ta_X9_heapOf_at_57) (B := bl_X9_heapOf_at_57) (cs := cz_X9_heapOf_at_57) vm_X9_heapOf cv_X9_heapOf_at_57 (by decide +kernel) ch_X9_heapOf_at_57 ck_X9_heapOf_at_57
def cc_X9_heapOf_at_58 : aC := (89, 1, [(2, 0, 0, 9), (0, 58, 58, 0)], some (0, 0, 58, 1), [], 0, [54, 5009], [((2, 215, 4), 0, 58)], [], [((2, 215, 4), 0, 59)])
def ta_X9_heapOf_at_58 : List aL := [(0, ([(0, ((2, 0, 0, 9), (0, 0, 0), (0, 0), [])), (1, ((0, 58, 58, 0), (0, 0, 0), (0, 0), []))], [], [((2, 215, 4), 0, 58)]), 181, [(4, 0)]),
  (16, ([(0, ((2, 0, 0, 9), (0, 0, 0), (0, 0), [])), (1, ((0, 58, 58, 0), (0, 0, 0), (0, 0), [])), (2, ((1, 1, 0, 0), (0, 0, 0), (0, 0), [])), (4, ((0, 0, 59, 1), (0, 0, 0), (0, 0), []))], [], [((2, 215, 4), 0, 58)]), 179, [(4, -3)]),
  (51, ([(0, ((2, 0, 0, 9), (0, 0, 0), (0, 0), [])), (1, ((0, 58, 58, 0), (0, 0, 0), (0, 0), [])), (2, ((1, 1, 0, 0), (0, 0, 0), (0, 0), [])), (4, ((0, 0, 58, 1), (0, 0, 0), (0, 0), []))], [], [((2, 215, 4), 1, 58)]), 178, [(4, -3)]),
  (57, ([(0, ((2, 0, 0, 9), (0, 0, 0), (0, 0), [])), (1, ((0, 58, 58, 0), (0, 0, 0), (0, 0), [])), (2, ((1, 1, 0, 0), (0, 0, 0), (0, 0), [])), (4, ((0, 0, 59, 1), (0, 0, 0), (0, 0), []))], [], [((2, 215, 4), 0, 58)]), 0, [(4, 0)])]
def bl_X9_heapOf_at_58 : List aB := [(0, vb_X9_heapOf_0, some 16), (16, vb_X9_heapOf_16, some 51), (51, vb_X9_heapOf_51, some 57), (57, vb_X9_heapOf_57, none)]
def cz_X9_heapOf_at_58 : List (Nat × aC) := []
theorem ck_X9_heapOf_at_58 : csOK cz_X9_heapOf_at_58 := trivial
theorem cv_X9_heapOf_at_58 : blOK kd_X9_heapOf bl_X9_heapOf_at_58 := ⟨ve_X9_heapOf_0, ve_X9_heapOf_16, ve_X9_heapOf_51, ve_X9_heapOf_57, trivial⟩
theorem ch_X9_heapOf_at_58 : amchk ta_X9_heapOf_at_58 bl_X9_heapOf_at_58 cz_X9_heapOf_at_58 cc_X9_heapOf_at_58 = true := by decide +kernel
theorem ct_X9_heapOf_at_58 : CtOK cc_X9_heapOf_at_58 := am_ok' (T := ta_X9_heapOf_at_58) (B := bl_X9_heapOf_at_58) (cs := cz_X9_heapOf_at_58) vm_X9_heapOf cv_X9_heapOf_at_58 (by decide +kernel) ch_X9_heapOf_at_58 ck_X9_heapOf_at_58
def cc_X9_heapOf_at_59 : aC := (89, 1, [(2, 0, 0, 9), (0, 59, 59, 0)], some (0, 0, 59, 1), [], 0, [54, 5009], [((2, 215, 4), 0, 59)], [], [((2, 215, 4), 0, 60)])
def ta_X9_heapOf_at_59 : List aL := [(0, ([(0, ((2, 0, 0, 9), (0, 0, 0), (0, 0), [])), (1, ((0, 59, 59, 0), (0, 0, 0), (0, 0), []))], [], [((2, 215, 4), 0, 59)]), 184, [(4, 0)]),
  (16, ([(0, ((2, 0, 0, 9), (0, 0, 0), (0, 0), [])), (1, ((0, 59, 59, 0), (0, 0, 0), (0, 0), [])), (2, ((1, 1, 0, 0), (0, 0, 0), (0, 0), [])), (4, ((0, 0, 60, 1), (0, 0, 0), (0, 0), []))], [], [((2, 215, 4), 0, 59)]), 182, [(4, -3)]),
  (51, ([(0, ((2, 0, 0, 9), (0, 0, 0), (0, 0), [])), (1, ((0, 59, 59, 0), (0, 0, 0), (0, 0), [])), (2, ((1, 1, 0, 0), (0, 0, 0), (0, 0), [])), (4, ((0, 0, 59, 1), (0, 0, 0), (0, 0), []))], [], [((2, 215, 4), 1, 59)]), 181, [(4, -3)]),
  (57, ([(0, ((2, 0, 0, 9), (0, 0, 0), (0, 0), [])), (1, ((0, 59, 59, 0), (0, 0, 0), (0, 0), [])), (2, ((1, 1, 0, 0), (0, 0, 0), (0, 0), [])), (4, ((0, 0, 60, 1), (0, 0, 0), (0, 0), []))], [], [((2, 215, 4), 0, 59)]), 0, [(4, 0)])]
def bl_X9_heapOf_at_59 : List aB := [(0, vb_X9_heapOf_0, some 16), (16, vb_X9_heapOf_16, some 51), (51, vb_X9_heapOf_51, some 57), (57, vb_X9_heapOf_57, none)]
def cz_X9_heapOf_at_59 : List (Nat × aC) := []
theorem ck_X9_heapOf_at_59 : csOK cz_X9_heapOf_at_59 := trivial
theorem cv_X9_heapOf_at_59 : blOK kd_X9_heapOf bl_X9_heapOf_at_59 := ⟨ve_X9_heapOf_0, ve_X9_heapOf_16, ve_X9_heapOf_51, ve_X9_heapOf_57, trivial⟩
theorem ch_X9_heapOf_at_59 : amchk ta_X9_heapOf_at_59 bl_X9_heapOf_at_59 cz_X9_heapOf_at_59 cc_X9_heapOf_at_59 = true := by decide +kernel
theorem ct_X9_heapOf_at_59 : CtOK cc_X9_heapOf_at_59 := am_ok' (T := ta_X9_heapOf_at_59) (B := bl_X9_heapOf_at_59) (cs := cz_X9_heapOf_at_59) vm_X9_heapOf cv_X9_heapOf_at_59 (by decide +kernel) ch_X9_heapOf_at_59 ck_X9_heapOf_at_59
def cc_X9_heapOf_at_6 : aC := (89, 1, [(2, 0, 0, 9), (0, 6, 6, 0)], some (0, 0, 6, 1), [], 0, [54, 5009], [((2, 215, 4), 0, 6)], [], [((2, 215, 4), 0, 7)])
def ta_X9_heapOf_at_6 : List aL := [(0, ([(0, ((2, 0, 0, 9), (0, 0, 0), (0, 0), [])), (1, ((0, 6, 6, 0), (0, 0, 0), (0, 0), []))], [], [((2, 215, 4), 0, 6)]), 22, [(4, 0)]),
  (16, ([(0, ((2, 0, 0, 9), (0, 0, 0), (0, 0), [])), (1, ((0, 6, 6, 0), (0, 0, 0), (0, 0), [])), (2, ((1, 1, 0, 0), (0, 0, 0), (0, 0), [])), (4, ((0, 0, 6, 1), (0, 0, 0), (0, 0), []))], [], [((2, 215, 4), 0, 6)]), 20, [(4, -3)]),
  (51, ([(0, ((2, 0, 0, 9), (0, 0, 0), (0, 0), [])), (1, ((0, 6, 6, 0), (0, 0, 0), (0, 0), [])), (2, ((1, 1, 0, 0), (0, 0, 0), (0, 0), [])), (4, ((0, 0, 5, 1), (0, 0, 0), (0, 0), []))], [], [((2, 215, 4), 1, 6)]), 19, [(4, -3)]),
  (57, ([(0, ((2, 0, 0, 9), (0, 0, 0), (0, 0), [])), (1, ((0, 6, 6, 0), (0, 0, 0), (0, 0), [])), (2, ((1, 1, 0, 0), (0, 0, 0), (0, 0), [])), (4, ((0, 0, 6, 1), (0, 0, 0), (0, 0), []))], [], [((2, 215, 4), 0, 6)]), 0, [(4, 0)])]
def bl_X9_heapOf_at_6 : List aB := [(0, vb_X9_heapOf_0, some 16), (16, vb_X9_heapOf_16, some 51), (51, vb_X9_heapOf_51, some 57), (57, vb_X9_heapOf_57, none)]
def cz_X9_heapOf_at_6 : List (Nat × aC) := []
theorem ck_X9_heapOf_at_6 : csOK cz_X9_heapOf_at_6 := trivial
theorem cv_X9_heapOf_at_6 : blOK kd_X9_heapOf bl_X9_heapOf_at_6 := ⟨ve_X9_heapOf_0, ve_X9_heapOf_16, ve_X9_heapOf_51, ve_X9_heapOf_57, trivial⟩
theorem ch_X9_heapOf_at_6 : amchk ta_X9_heapOf_at_6 bl_X9_heapOf_at_6 cz_X9_heapOf_at_6 cc_X9_heapOf_at_6 = true := by decide +kernel
theorem ct_X9_heapOf_at_6 : CtOK cc_X9_heapOf_at_6 := am_ok' (T := ta_X9_heapOf_at_6) (B := bl_X9_heapOf_at_6) (cs := cz_X9_heapOf_at_6) vm_X9_heapOf cv_X9_heapOf_at_6 (by decide +kernel) ch_X9_heapOf_at_6 ck_X9_heapOf_at_6
def cc_X9_heapOf_at_7 : aC := (89, 1, [(2, 0, 0, 9), (0, 7, 7, 0)], some (0, 0, 7, 1), [], 0, [54, 5009], [((2, 215, 4), 0, 7)], [], [((2, 215, 4), 0, 8)])
def ta_X9_heapOf_at_7 : List aL := [(0, ([(0, ((2, 0, 0, 9), (0, 0, 0), (0, 0), [])), (1, ((0, 7, 7, 0), (0, 0, 0), (0, 0), []))], [], [((2, 215, 4), 0, 7)]), 25, [(4, 0)]),
  (16, ([(0, ((2, 0, 0, 9), (0, 0, 0), (0, 0), [])), (1, ((0, 7, 7, 0), (0, 0, 0), (0, 0), [])), (2, ((1, 1, 0, 0), (0, 0, 0), (0, 0), [])), (4, ((0, 0, 7, 1), (0, 0, 0), (0, 0), []))], [], [((2, 215, 4), 0, 7)]), 23, [(4, -3)]),
  (51, ([(0, ((2, 0, 0, 9), (0, 0, 0), (0, 0), [])), (1, ((0, 7, 7, 0), (0, 0, 0), (0, 0), [])), (2, ((1, 1, 0, 0), (0, 0, 0), (0, 0), [])), (4, ((0, 0, 6, 1), (0, 0, 0), (0, 0), []))], [], [((2, 215, 4), 1, 7)]), 22, [(4, -3)]),
  (57, ([(0, ((2, 0, 0, 9), (0, 0, 0), (0, 0), [])), (1, ((0, 7, 7, 0), (0, 0, 0), (0, 0), [])), (2, ((1, 1, 0, 0), (0, 0, 0), (0, 0), [])), (4, ((0, 0, 7, 1), (0, 0, 0), (0, 0), []))], [], [((2, 215, 4), 0, 7)]), 0, [(4, 0)])]
def bl_X9_heapOf_at_7 : List aB := [(0, vb_X9_heapOf_0, some 16), (16, vb_X9_heapOf_16, some 51), (51, vb_X9_heapOf_51, some 57), (57, vb_X9_heapOf_57, none)]
def cz_X9_heapOf_at_7 : List (Nat × aC) := []
theorem ck_X9_heapOf_at_7 : csOK cz_X9_heapOf_at_7 := trivial
theorem cv_X9_heapOf_at_7 : blOK kd_X9_heapOf bl_X9_heapOf_at_7 := ⟨ve_X9_heapOf_0, ve_X9_heapOf_16, ve_X9_heapOf_51, ve_X9_heapOf_57, trivial⟩
theorem ch_X9_heapOf_at_7 : amchk ta_X9_heapOf_at_7 bl_X9_heapOf_at_7 cz_X9_heapOf_at_7 cc_X9_heapOf_at_7 = true := by decide +kernel
theorem ct_X9_heapOf_at_7 : CtOK cc_X9_heapOf_at_7 := am_ok' (T := ta_X9_heapOf_at_7) (B := bl_X9_heapOf_at_7) (cs := cz_X9_heapOf_at_7) vm_X9_heapOf cv_X9_heapOf_at_7 (by decide +kernel) ch_X9_heapOf_at_7 ck_X9_heapOf_at_7
def cc_X9_heapOf_at_8 : aC := (89, 1, [(2, 0, 0, 9), (0, 8, 8, 0)], some (0, 0, 8, 1), [], 0, [54, 5009], [((2, 215, 4), 0, 8)], [], [((2, 215, 4), 0, 9)])
def ta_X9_heapOf_at_8 : List aL := [(0, ([(0, ((2, 0, 0, 9), (0, 0, 0), (0, 0), [])), (1, ((0, 8, 8, 0), (0, 0, 0), (0, 0), []))], [], [((2, 215, 4), 0, 8)]), 28, [(4, 0)]),
  (16, ([(0, ((2, 0, 0, 9), (0, 0, 0), (0, 0), [])), (1, ((0, 8, 8, 0), (0, 0, 0), (0, 0), [])), (2, ((1, 1, 0, 0), (0, 0, 0), (0, 0), [])), (4, ((0, 0, 8, 1), (0, 0, 0), (0, 0), []))], [], [((2, 215, 4), 0, 8)]), 26, [(4, -3)]),
  (51, ([(0, ((2, 0, 0, 9), (0, 0, 0), (0, 0), [])), (1, ((0, 8, 8, 0), (0, 0, 0), (0, 0), [])), (2, ((1, 1, 0, 0), (0, 0, 0), (0, 0), [])), (4, ((0, 0, 7, 1), (0, 0, 0), (0, 0), []))], [], [((2, 215, 4), 1, 8)]), 25, [(4, -3)]),
  (57, ([(0, ((2, 0, 0, 9), (0, 0, 0), (0, 0), [])), (1, ((0, 8, 8, 0), (0, 0, 0), (0, 0), [])), (2, ((1, 1, 0, 0), (0, 0, 0), (0, 0), [])), (4, ((0, 0, 8, 1), (0, 0, 0), (0, 0), []))], [], [((2, 215, 4), 0, 8)]), 0, [(4, 0)])]
def bl_X9_heapOf_at_8 : List aB := [(0, vb_X9_heapOf_0, some 16), (16, vb_X9_heapOf_16, some 51), (51, vb_X9_heapOf_51, some 57), (57, vb_X9_heapOf_57, none)]
def cz_X9_heapOf_at_8 : List (Nat × aC) := []
theorem ck_X9_heapOf_at_8 : csOK cz_X9_heapOf_at_8 := trivial
theorem cv_X9_heapOf_at_8 : blOK kd_X9_heapOf bl_X9_heapOf_at_8 := ⟨ve_X9_heapOf_0, ve_X9_heapOf_16, ve_X9_heapOf_51, ve_X9_heapOf_57, trivial⟩
theorem ch_X9_heapOf_at_8 : amchk ta_X9_heapOf_at_8 bl_X9_heapOf_at_8 cz_X9_heapOf_at_8 cc_X9_heapOf_at_8 = true := by decide +kernel
theorem ct_X9_heapOf_at_8 : CtOK cc_X9_heapOf_at_8 := am_ok' (T := ta_X9_heapOf_at_8) (B := bl_X9_heapOf_at_8) (cs := cz_X9_heapOf_at_8) vm_X9_heapOf cv_X9_heapOf_at_8 (by decide +kernel) ch_X9_heapOf_at_8 ck_X9_heapOf_at_8
def cc_X9_heapOf_at_9 : aC := (89, 1, [(2, 0, 0, 9), (0, 9, 9, 0)], some (0, 0, 9, 1), [], 0, [54, 5009], [((2, 215, 4), 0, 9)], [], [((2, 215, 4), 0, 10)])
def ta_X9_heapOf_at_9 : List aL := [(0, ([(0, ((2, 0, 0, 9), (0, 0, 0), (0, 0), [])), (1, ((0, 9, 9, 0), (0, 0, 0), (0, 0), []))], [], [((2, 215, 4), 0, 9)]), 31, [(4, 0)]),
  (16, ([(0, ((2, 0, 0, 9), (0, 0, 0), (0, 0), [])), (1, ((0, 9, 9, 0), (0, 0, 0), (0, 0), [])), (2, ((1, 1, 0, 0), (0, 0, 0), (0, 0), [])), (4, ((0, 0, 9, 1), (0, 0, 0), (0, 0), []))], [], [((2, 215, 4), 0, 9)]), 29, [(4, -3)]),
  (51, ([(0, ((2, 0, 0, 9), (0, 0, 0), (0, 0), [])), (1, ((0, 9, 9, 0), (0, 0, 0), (0, 0), [])), (2, ((1, 1, 0, 0), (0, 0, 0), (0, 0), [])), (4, ((0, 0, 8, 1), (0, 0, 0), (0, 0), []))], [], [((2, 215, 4), 1, 9)]), 28, [(4, -3)]),
  (57, ([(0, ((2, 0, 0, 9), (0, 0, 0), (0, 0), [])), (1, ((0, 9, 9, 0), (0, 0, 0), (0, 0), [])), (2, ((1, 1, 0, 0), (0, 0, 0), (0, 0), [])), (4, ((0, 0, 9, 1), (0, 0, 0), (0, 0), []))], [], [((2, 215, 4), 0, 9)]), 0, [(4, 0)])]
def bl_X9_heapOf_at_9 : List aB := [(0, vb_X9_heapOf_0, some 16), (16, vb_X9_heapOf_16, some 51), (51, vb_X9_heapOf_51, some 57), (57, vb_X9_heapOf_57, none)]
def cz_X9_heapOf_at_9 : List (Nat × aC) := []
theorem ck_X9_heapOf_at_9 : csOK cz_X9_heapOf_at_9 := trivial
theorem cv_X9_heapOf_at_9 : blOK kd_X9_heapOf bl_X9_heapOf_at_9 := ⟨ve_X9_heapOf_0, ve_X9_heapOf_16, ve_X9_heapOf_51, ve_X9_heapOf_57, trivial⟩
theorem ch_X9_heapOf_at_9 : amchk ta_X9_heapOf_at_9 bl_X9_heapOf_at_9 cz_X9_heapOf_at_9 cc_X9_heapOf_at_9 = true := by decide +kernel
theorem ct_X9_heapOf_at_9 : CtOK cc_X9_heapOf_at_9 := am_ok' (T := ta_X9_heapOf_at_9) (B := bl_X9_heapOf_at_9) (cs := cz_X9_heapOf_at_9) vm_X9_heapOf cv_X9_heapOf_at_9 (by decide +kernel) ch_X9_heapOf_at_9 ck_X9_heapOf_at_9
def cc_X9_linesThatAre : aC := (90, 1, [(2, 0, 0, 9), (0, -3, 0, 1)], some (0, -2147483648, 2147483647, 1), [], 0, [], [], [], [])
def ta_X9_linesThatAre : List aL := [(0, ([(0, ((2, 0, 0, 9), (0, 0, 0), (0, 0), [])), (1, ((0, -3, 0, 1), (0, 0, 0), (0, 0), []))], [], []), 184, [(3, 0)]),
  (32, ([(0, ((2, 0, 0, 9), (0, 0, 0), (0, 0), [])), (1, ((0, -3, 0, 1), (0, 0, 0), (0, 0), [])), (2, ((0, -2147483648, 2147483647, 1), (0, 0, 0), (0, 0), [])), (3, ((0, 0, 59, 1), (0, 0, 0), (0, 0), []))], [], [((2, 1, 4), 1, 60)]), 181, [(3, -3)]),
  (38, ([(0, ((2, 0, 0, 9), (0, 0, 0), (0, 0), [])), (1, ((0, -3, 0, 1), (0, 0, 0), (0, 0), [])), (2, ((0, -2147483648, 2147483647, 1), (0, 0, 0), (0, 0), [])), (3, ((0, 0, 60, 1), (0, 0, 0), (0, 0), []))], [], [((2, 1, 4), 0, 60)]), 0, [(3, 0)]),
  (4, ([(0, ((2, 0, 0, 9), (0, 0, 0), (0, 0), [])), (1, ((0, -3, 0, 1), (0, 0, 0), (0, 0), [])), (2, ((0, -2147483648, 2147483647, 1), (0, 0, 0), (0, 0), [])), (3, ((0, 0, 60, 1), (0, 0, 0), (0, 0), []))], [], []), 182, [(3, -3)])]
def bl_X9_linesThatAre : List aB := [(0, vb_X9_linesThatAre_0, some 4), (4, vb_X9_linesThatAre_4, some 32), (32, vb_X9_linesThatAre_32, some 38), (38, vb_X9_linesThatAre_38, none)]
def cz_X9_linesThatAre : List (Nat × aC) := []
theorem ck_X9_linesThatAre : csOK cz_X9_linesThatAre := trivial
theorem cv_X9_linesThatAre : blOK kd_X9_linesThatAre bl_X9_linesThatAre := ⟨ve_X9_linesThatAre_0, ve_X9_linesThatAre_4, ve_X9_linesThatAre_32, ve_X9_linesThatAre_38, trivial⟩
theorem ch_X9_linesThatAre : amchk ta_X9_linesThatAre bl_X9_linesThatAre cz_X9_linesThatAre cc_X9_linesThatAre = true := by decide +kernel
theorem ct_X9_linesThatAre : CtOK cc_X9_linesThatAre := am_ok' (T := ta_X9_linesThatAre) (B := bl_X9_linesThatAre) (cs := cz_X9_linesThatAre) vm_X9_linesThatAre cv_X9_linesThatAre (by decide +kernel) ch_X9_linesThatAre ck_X9_linesThatAre
def cc_X9_unreadIn : aC := (91, 1, [(2, 0, 0, 9), (0, 0, 4, 1)], some (0, -2147483648, 2147483647, 1), [], 0, [], [], [], [])
def ta_X9_unreadIn : List aL := [(0, ([(0, ((2, 0, 0, 9), (0, 0, 0), (0, 0), [])), (1, ((0, 0, 4, 1), (0, 0, 0), (0, 0), []))], [], []), 184, [(3, 0)]),
  (4, ([(0, ((2, 0, 0, 9), (0, 0, 0), (0, 0), [])), (1, ((0, 0, 4, 1), (0, 0, 0), (0, 0), [])), (2, ((0, -2147483648, 2147483647, 1), (0, 0, 0), (0, 0), [])), (3, ((0, 0, 60, 1), (0, 0, 0), (0, 0), []))], [], []), 182, [(3, -3)]),
  (43, ([(0, ((2, 0, 0, 9), (0, 0, 0), (0, 0), [])), (1, ((0, 0, 4, 1), (0, 0, 0), (0, 0), [])), (2, ((0, -2147483648, 2147483647, 1), (0, 0, 0), (0, 0), [])), (3, ((0, 0, 59, 1), (0, 0, 0), (0, 0), []))], [], [((2, 1, 4), 1, 60)]), 181, [(3, -3)]),
  (49, ([(0, ((2, 0, 0, 9), (0, 0, 0), (0, 0), [])), (1, ((0, 0, 4, 1), (0, 0, 0), (0, 0), [])), (2, ((0, -2147483648, 2147483647, 1), (0, 0, 0), (0, 0), [])), (3, ((0, 0, 60, 1), (0, 0, 0), (0, 0), []))], [], [((2, 1, 4), 0, 60)]), 0, [(3, 0)])]
def bl_X9_unreadIn : List aB := [(0, vb_X9_unreadIn_0, some 4), (4, vb_X9_unreadIn_4, some 43), (43, vb_X9_unreadIn_43, some 49), (49, vb_X9_unreadIn_49, none)]
def cz_X9_unreadIn : List (Nat × aC) := []
theorem ck_X9_unreadIn : csOK cz_X9_unreadIn := trivial
theorem cv_X9_unreadIn : blOK kd_X9_unreadIn bl_X9_unreadIn := ⟨ve_X9_unreadIn_0, ve_X9_unreadIn_4, ve_X9_unreadIn_43, ve_X9_unreadIn_49, trivial⟩
theorem ch_X9_unreadIn : amchk ta_X9_unreadIn bl_X9_unreadIn cz_X9_unreadIn cc_X9_unreadIn = true := by decide +kernel
theorem ct_X9_unreadIn : CtOK cc_X9_unreadIn := am_ok' (T := ta_X9_unreadIn) (B := bl_X9_unreadIn) (cs := cz_X9_unreadIn) vm_X9_unreadIn cv_X9_unreadIn (by decide +kernel) ch_X9_unreadIn ck_X9_unreadIn
def cc_X10_rewind : aC := (94, 1, [(2, 0, 0, 10)], none, [], 0, [3010, 4010], [], [], [])
def ta_X10_rewind : List aL := [(0, ([(0, ((2, 0, 0, 10), (0, 0, 0), (0, 0), []))], [], []), 0, [])]
def bl_X10_rewind : List aB := [(0, vb_X10_rewind_0, none)]
def cz_X10_rewind : List (Nat × aC) := []
theorem ck_X10_rewind : csOK cz_X10_rewind := trivial
theorem cv_X10_rewind : blOK kd_X10_rewind bl_X10_rewind := ⟨ve_X10_rewind_0, trivial⟩
theorem ch_X10_rewind : amchk ta_X10_rewind bl_X10_rewind cz_X10_rewind cc_X10_rewind = true := by decide +kernel
theorem ct_X10_rewind : CtOK cc_X10_rewind := am_ok' (T := ta_X10_rewind) (B := bl_X10_rewind) (cs := cz_X10_rewind) vm_X10_rewind cv_X10_rewind (by decide +kernel) ch_X10_rewind ck_X10_rewind
def cc_X10_fail : aC := (96, 1, [(2, 0, 0, 10), (0, 0, 600, 1)], some (0, 0, 0, 0), [], 0, [4010], [], [], [])
def ta_X10_fail : List aL := [(0, ([(0, ((2, 0, 0, 10), (0, 0, 0), (0, 0), [])), (1, ((0, 0, 600, 1), (0, 0, 0), (0, 0), []))], [], []), 0, [])]
def bl_X10_fail : List aB := [(0, vb_X10_fail_0, none)]
def cz_X10_fail : List (Nat × aC) := []
theorem ck_X10_fail : csOK cz_X10_fail := trivial
theorem cv_X10_fail : blOK kd_X10_fail bl_X10_fail := ⟨ve_X10_fail_0, trivial⟩
theorem ch_X10_fail : amchk ta_X10_fail bl_X10_fail cz_X10_fail cc_X10_fail = true := by decide +kernel
theorem ct_X10_fail : CtOK cc_X10_fail := am_ok' (T := ta_X10_fail) (B := bl_X10_fail) (cs := cz_X10_fail) vm_X10_fail cv_X10_fail (by decide +kernel) ch_X10_fail ck_X10_fail
def cc_X11_fault : aC := (109, 1, [(2, 0, 0, 11)], some (0, -2147483648, 2147483647, 1), [], 0, [], [], [], [])
def ta_X11_fault : List aL := [(0, ([(0, ((2, 0, 0, 11), (0, 0, 0), (0, 0), []))], [], []), 0, [])]
def bl_X11_fault : List aB := [(0, vb_X11_fault_0, none)]
def cz_X11_fault : List (Nat × aC) := []
theorem ck_X11_fault : csOK cz_X11_fault := trivial
theorem cv_X11_fault : blOK kd_X11_fault bl_X11_fault := ⟨ve_X11_fault_0, trivial⟩
theorem ch_X11_fault : amchk ta_X11_fault bl_X11_fault cz_X11_fault cc_X11_fault = true := by decide +kernel
theorem ct_X11_fault : CtOK cc_X11_fault := am_ok' (T := ta_X11_fault) (B := bl_X11_fault) (cs := cz_X11_fault) vm_X11_fault cv_X11_fault (by decide +kernel) ch_X11_fault ck_X11_fault
def cc_X11_octet : aC := (144, 2, [(2, 0, 0, 11), (0, -2147483648, 2147483647, 1)], some (0, -2147483648, 2147483647, 1), [], 0, [], [], [], [])
def ta_X11_octet : List aL := [(0, ([(0, ((2, 0, 0, 11), (0, 0, 0), (0, 0), [])), (1, ((0, -2147483648, 2147483647, 1), (0, 0, 0), (0, 0), []))], [], []), 2, []),
  (23, ([(0, ((2, 0, 0, 11), (0, 0, 0), (0, 0), [])), (1, ((0, -2147483648, 2147483647, 1), (0, 0, 0), (0, 0), []))], [], []), 1, []),
  (24, ([(0, ((2, 0, 0, 11), (0, 0, 0), (0, 0), [])), (1, ((0, -2147483648, 2147483647, 1), (0, 0, 0), (0, 0), []))], [((0, -2147483648, 2147483647, 1), (0, 0, 0), (0, 0), [])], []), 0, [])]
def bl_X11_octet : List aB := [(0, vb_X11_octet_0, some 23), (23, vb_X11_octet_23, some 24), (24, vb_X11_octet_24, none)]
def cz_X11_octet : List (Nat × aC) := [(8, (cc_X11_within (0) (0) 0 (-1) (239) 1))]
theorem ck_X11_octet : csOK cz_X11_octet := ⟨(ct_X11_within (0) (0) 0 (-1) (239) 1), trivial⟩
theorem cv_X11_octet : blOK kd_X11_octet bl_X11_octet := ⟨ve_X11_octet_0, ve_X11_octet_23, ve_X11_octet_24, trivial⟩
theorem ch_X11_octet : amchk ta_X11_octet bl_X11_octet cz_X11_octet cc_X11_octet = true := by decide +kernel
theorem ct_X11_octet : CtOK cc_X11_octet := am_ok' (T := ta_X11_octet) (B := bl_X11_octet) (cs := cz_X11_octet) vm_X11_octet cv_X11_octet (by decide +kernel) ch_X11_octet ck_X11_octet
def cc_X11_put : aC := (149, 1, [(2, 0, 0, 11), (0, -2147483648, 2147483647, 1)], none, [], 0, [35, 11011], [], [], [])
def ta_X11_put : List aL := [(0, ([(0, ((2, 0, 0, 11), (0, 0, 0), (0, 0), [])), (1, ((0, -2147483648, 2147483647, 1), (0, 0, 0), (0, 0), []))], [], []), 1, []),
  (32, ([(0, ((2, 0, 0, 11), (0, 0, 0), (0, 0), [])), (1, ((0, -2147483648, 2147483647, 1), (0, 0, 0), (0, 0), []))], [], [((2, 0, 10), 1, 240)]), 0, [])]
def bl_X11_put : List aB := [(0, vb_X11_put_0, some 32), (32, vb_X11_put_32, none)]
def cz_X11_put : List (Nat × aC) := []
theorem ck_X11_put : csOK cz_X11_put := trivial
theorem cv_X11_put : blOK kd_X11_put bl_X11_put := ⟨ve_X11_put_0, ve_X11_put_32, trivial⟩
theorem ch_X11_put : amchk ta_X11_put bl_X11_put cz_X11_put cc_X11_put = true := by decide +kernel
theorem ct_X11_put : CtOK cc_X11_put := am_ok' (T := ta_X11_put) (B := bl_X11_put) (cs := cz_X11_put) vm_X11_put cv_X11_put (by decide +kernel) ch_X11_put ck_X11_put
def cc_X12_fault : aC := (168, 1, [(2, 0, 0, 12)], some (0, -2147483648, 2147483647, 1), [], 0, [], [], [], [])
def ta_X12_fault : List aL := [(0, ([(0, ((2, 0, 0, 12), (0, 0, 0), (0, 0), []))], [], []), 0, [])]
def bl_X12_fault : List aB := [(0, vb_X12_fault_0, none)]
def cz_X12_fault : List (Nat × aC) := []
theorem ck_X12_fault : csOK cz_X12_fault := trivial
theorem cv_X12_fault : blOK kd_X12_fault bl_X12_fault := ⟨ve_X12_fault_0, trivial⟩
theorem ch_X12_fault : amchk ta_X12_fault bl_X12_fault cz_X12_fault cc_X12_fault = true := by decide +kernel
theorem ct_X12_fault : CtOK cc_X12_fault := am_ok' (T := ta_X12_fault) (B := bl_X12_fault) (cs := cz_X12_fault) vm_X12_fault cv_X12_fault (by decide +kernel) ch_X12_fault ck_X12_fault
def cc_X12_isLike : aC := (173, 1, [(2, 0, 0, 12), (0, -2147483648, 2147483647, 1), (0, -2147483648, 2147483647, 1)], some (0, 0, 1, 1), [], 0, [], [], [], [])
def ta_X12_isLike : List aL := [(0, ([(0, ((2, 0, 0, 12), (0, 0, 0), (0, 0), [])), (1, ((0, -2147483648, 2147483647, 1), (0, 0, 0), (0, 0), [])), (2, ((0, -2147483648, 2147483647, 1), (0, 0, 0), (0, 0), []))], [], []), 38, [(3, 0)]),
  (2, ([(0, ((2, 0, 0, 12), (0, 0, 0), (0, 0), [])), (1, ((0, -2147483648, 2147483647, 1), (0, 0, 0), (0, 0), [])), (2, ((0, -2147483648, 2147483647, 1), (0, 0, 0), (0, 0), [])), (3, ((0, 0, 8, 1), (0, 0, 0), (0, 0), []))], [], []), 36, [(3, -4)]),
  (52, ([(0, ((2, 0, 0, 12), (0, 0, 0), (0, 0), [])), (1, ((0, -2147483648, 2147483647, 1), (0, 0, 0), (0, 0), [])), (2, ((0, -2147483648, 2147483647, 1), (0, 0, 0), (0, 0), [])), (3, ((0, 0, 7, 1), (0, 0, 0), (0, 0), [])), (4, ((0, -2147483648, 2147483647, 1), (0, 0, 0), (0, 0), [])), (5, ((0, -2147483648, 2147483647, 1), (0, 0, 0), (0, 0), []))], [], [((2, 591, 1), 1, 8)]), 35, [(3, -4)]),
  (64, ([(0, ((2, 0, 0, 12), (0, 0, 0), (0, 0), [])), (1, ((0, -2147483648, 2147483647, 1), (0, 0, 0), (0, 0), [])), (2, ((0, -2147483648, 2147483647, 1), (0, 0, 0), (0, 0), [])), (3, ((0, 0, 7, 1), (0, 0, 0), (0, 0), [])), (4, ((0, -2147483648, 2147483647, 1), (0, 0, 0), (0, 0), [])), (5, ((0, -2147483648, 2147483647, 1), (0, 0, 0), (0, 0), []))], [], [((2, 591, 1), 1, 8)]), 1, [(3, 0)]),
  (66, ([(0, ((2, 0, 0, 12), (0, 0, 0), (0, 0), [])), (1, ((0, -2147483648, 2147483647, 1), (0, 0, 0), (0, 0), [])), (2, ((0, -2147483648, 2147483647, 1), (0, 0, 0), (0, 0), [])), (3, ((0, 0, 7, 1), (0, 0, 0), (0, 0), [])), (4, ((0, -2147483648, 2147483647, 1), (0, 0, 0), (0, 0), [])), (5, ((0, -2147483648, 2147483647, 1), (0, 0, 0), (0, 0), []))], [], [((2, 591, 1), 1, 8)]), 34, [(3, -4)]),
  (72, ([(0, ((2, 0, 0, 12), (0, 0, 0), (0, 0), [])), (1, ((0, -2147483648, 2147483647, 1), (0, 0, 0), (0, 0), [])), (2, ((0, -2147483648, 2147483647, 1), (0, 0, 0), (0, 0), [])), (3, ((0, 0, 8, 1), (0, 0, 0), (0, 0), []))], [], [((2, 591, 1), 0, 8)]), 0, [(3, 0)])]
def bl_X12_isLike : List aB := [(0, vb_X12_isLike_0, some 2), (2, vb_X12_isLike_2, some 52), (52, vb_X12_isLike_52, some 64), (64, vb_X12_isLike_64, some 66), (66, vb_X12_isLike_66, some 72), (72, vb_X12_isLike_72, none)]
def cz_X12_isLike : List (Nat × aC) := []
theorem ck_X12_isLike : csOK cz_X12_isLike := trivial
theorem cv_X12_isLike : blOK kd_X12_isLike bl_X12_isLike := ⟨ve_X12_isLike_0, ve_X12_isLike_2, ve_X12_isLike_52, ve_X12_isLike_64, ve_X12_isLike_66, ve_X12_isLike_72, trivial⟩
theorem ch_X12_isLike : amchk ta_X12_isLike bl_X12_isLike cz_X12_isLike cc_X12_isLike = true := by decide +kernel
theorem ct_X12_isLike : CtOK cc_X12_isLike := am_ok' (T := ta_X12_isLike) (B := bl_X12_isLike) (cs := cz_X12_isLike) vm_X12_isLike cv_X12_isLike (by decide +kernel) ch_X12_isLike ck_X12_isLike
def cc_X12_billAt : aC := (174, 1, [(0, 0, 11, 1)], some (0, 92, 378, 26), [], 0, [], [], [], [])
def ta_X12_billAt : List aL := [(0, ([(0, ((0, 0, 11, 1), (0, 0, 0), (0, 0), []))], [], []), 0, [])]
def bl_X12_billAt : List aB := [(0, vb_X12_billAt_0, none)]
def cz_X12_billAt : List (Nat × aC) := []
theorem ck_X12_billAt : csOK cz_X12_billAt := trivial
theorem cv_X12_billAt : blOK kd_X12_billAt bl_X12_billAt := ⟨ve_X12_billAt_0, trivial⟩
theorem ch_X12_billAt : amchk ta_X12_billAt bl_X12_billAt cz_X12_billAt cc_X12_billAt = true := by decide +kernel
theorem ct_X12_billAt : CtOK cc_X12_billAt := am_ok' (T := ta_X12_billAt) (B := bl_X12_billAt) (cs := cz_X12_billAt) vm_X12_billAt cv_X12_billAt (by decide +kernel) ch_X12_billAt ck_X12_billAt
def cc_X12_lineAt : aC := (175, 1, [(0, 0, 59, 1)], some (0, 404, 1112, 12), [], 0, [], [], [], [])
def ta_X12_lineAt : List aL := [(0, ([(0, ((0, 0, 59, 1), (0, 0, 0), (0, 0), []))], [], []), 0, [])]
def bl_X12_lineAt : List aB := [(0, vb_X12_lineAt_0, none)]
def cz_X12_lineAt : List (Nat × aC) := []
theorem ck_X12_lineAt : csOK cz_X12_lineAt := trivial
theorem cv_X12_lineAt : blOK kd_X12_lineAt bl_X12_lineAt := ⟨ve_X12_lineAt_0, trivial⟩
theorem ch_X12_lineAt : amchk ta_X12_lineAt bl_X12_lineAt cz_X12_lineAt cc_X12_lineAt = true := by decide +kernel
theorem ct_X12_lineAt : CtOK cc_X12_lineAt := am_ok' (T := ta_X12_lineAt) (B := bl_X12_lineAt) (cs := cz_X12_lineAt) vm_X12_lineAt cv_X12_lineAt (by decide +kernel) ch_X12_lineAt ck_X12_lineAt
def cc_X12_isSource : aC := (214, 1, [(2, 0, 0, 12), (0, 0, 71, 1)], some (0, 0, 1, 1), [], 0, [], [], [], [])
def ta_X12_isSource : List aL := [(0, ([(0, ((2, 0, 0, 12), (0, 0, 0), (0, 0), [])), (1, ((0, 0, 71, 1), (0, 0, 0), (0, 0), []))], [], []), 4, []),
  (20, ([(0, ((2, 0, 0, 12), (0, 0, 0), (0, 0), [])), (1, ((0, 0, 11, 1), (0, 0, 0), (0, 0), []))], [], [((2, 591, 0), 0, 11)]), 3, []),
  (24, ([(0, ((2, 0, 0, 12), (0, 0, 0), (0, 0), [])), (1, ((0, 12, 71, 1), (0, 0, 0), (0, 0), []))], [], []), 2, []),
  (39, ([(0, ((2, 0, 0, 12), (0, 0, 0), (0, 0), [])), (1, ((0, 12, 71, 1), (0, 0, 0), (0, 0), []))], [], []), 1, []),
  (40, ([(0, ((2, 0, 0, 12), (0, 0, 0), (0, 0), [])), (1, ((0, 0, 71, 1), (0, 0, 0), (0, 0), []))], [((0, 0, 1, 1), (0, 0, 0), (0, 0), [])], []), 0, [])]
def bl_X12_isSource : List aB := [(0, vb_X12_isSource_0, some 20), (20, vb_X12_isSource_20, some 24), (24, vb_X12_isSource_24, some 39), (39, vb_X12_isSource_39, some 40), (40, vb_X12_isSource_40, none)]
def cz_X12_isSource : List (Nat × aC) := []
theorem ck_X12_isSource : csOK cz_X12_isSource := trivial
theorem cv_X12_isSource : blOK kd_X12_isSource bl_X12_isSource := ⟨ve_X12_isSource_0, ve_X12_isSource_20, ve_X12_isSource_24, ve_X12_isSource_39, ve_X12_isSource_40, trivial⟩
theorem ch_X12_isSource : amchk ta_X12_isSource bl_X12_isSource cz_X12_isSource cc_X12_isSource = true := by decide +kernel
theorem ct_X12_isSource : CtOK cc_X12_isSource := am_ok' (T := ta_X12_isSource) (B := bl_X12_isSource) (cs := cz_X12_isSource) vm_X12_isSource cv_X12_isSource (by decide +kernel) ch_X12_isSource ck_X12_isSource
def cc_X12_matchedTo : aC := (217, 1, [(2, 0, 0, 12), (0, 0, 11, 1)], some (0, -2147483648, 2147483647, 1), [], 0, [], [], [], [])
def ta_X12_matchedTo : List aL := [(0, ([(0, ((2, 0, 0, 12), (0, 0, 0), (0, 0), [])), (1, ((0, 0, 11, 1), (0, 0, 0), (0, 0), []))], [], []), 147, [(3, 0)]),
  (30, ([(0, ((2, 0, 0, 12), (0, 0, 0), (0, 0), [])), (1, ((0, 0, 11, 1), (0, 0, 0), (0, 0), [])), (2, ((0, -2147483648, 2147483647, 1), (0, 0, 0), (0, 0), [])), (3, ((0, 72, 72, 1), (0, 0, 0), (0, 0), []))], [], []), 0, [(3, 0)]),
  (4, ([(0, ((2, 0, 0, 12), (0, 0, 0), (0, 0), [])), (1, ((0, 0, 11, 1), (0, 0, 0), (0, 0), [])), (2, ((0, -2147483648, 2147483647, 1), (0, 0, 0), (0, 0), [])), (3, ((0, 0, 72, 1), (0, 0, 0), (0, 0), []))], [], []), 145, [(3, -2)])]
def bl_X12_matchedTo : List aB := [(0, vb_X12_matchedTo_0, some 4), (4, vb_X12_matchedTo_4, some 30), (30, vb_X12_matchedTo_30, none)]
def cz_X12_matchedTo : List (Nat × aC) := []
theorem ck_X12_matchedTo : csOK cz_X12_matchedTo := trivial
theorem cv_X12_matchedTo : blOK kd_X12_matchedTo bl_X12_matchedTo := ⟨ve_X12_matchedTo_0, ve_X12_matchedTo_4, ve_X12_matchedTo_30, trivial⟩
theorem ch_X12_matchedTo : amchk ta_X12_matchedTo bl_X12_matchedTo cz_X12_matchedTo cc_X12_matchedTo = true := by decide +kernel
theorem ct_X12_matchedTo : CtOK cc_X12_matchedTo := am_ok' (T := ta_X12_matchedTo) (B := bl_X12_matchedTo) (cs := cz_X12_matchedTo) vm_X12_matchedTo cv_X12_matchedTo (by decide +kernel) ch_X12_matchedTo ck_X12_matchedTo
def cc_X12_offers : aC := (238, 1, [(2, 0, 0, 12), (0, -2147483648, 2147483647, 1), (0, -2147483648, 2147483647, 1)], none, [], 0, [42012, 43012], [], [], [])
def ta_X12_offers : List aL := [(0, ([(0, ((2, 0, 0, 12), (0, 0, 0), (0, 0), [])), (1, ((0, -2147483648, 2147483647, 1), (0, 0, 0), (0, 0), [])), (2, ((0, -2147483648, 2147483647, 1), (0, 0, 0), (0, 0), []))], [], []), 2, []),
  (24, ([(0, ((2, 0, 0, 12), (0, 0, 0), (0, 0), [])), (1, ((0, -2147483648, 2147483647, 1), (0, 0, 0), (0, 0), [])), (2, ((0, -2147483648, 2147483647, 1), (0, 0, 0), (0, 0), []))], [], [((2, 590, 41), -2147483648, 2147483647)]), 0, []),
  (25, ([(0, ((2, 0, 0, 12), (0, 0, 0), (0, 0), [])), (1, ((0, -2147483648, 2147483647, 1), (0, 0, 0), (0, 0), [])), (2, ((0, -2147483648, 2147483647, 1), (0, 0, 0), (0, 0), []))], [], [((2, 590, 41), -2147483648, 2147483647)]), 1, [])]
def bl_X12_offers : List aB := [(0, vb_X12_offers_0, some 24), (24, vb_X12_offers_24, some 25), (25, vb_X12_offers_25, none)]
def cz_X12_offers : List (Nat × aC) := []
theorem ck_X12_offers : csOK cz_X12_offers := trivial
theorem cv_X12_offers : blOK kd_X12_offers bl_X12_offers := ⟨ve_X12_offers_0, ve_X12_offers_24, ve_X12_offers_25, trivial⟩
theorem ch_X12_offers : amchk ta_X12_offers bl_X12_offers cz_X12_offers cc_X12_offers = true := by decide +kernel
theorem ct_X12_offers : CtOK cc_X12_offers := am_ok' (T := ta_X12_offers) (B := bl_X12_offers) (cs := cz_X12_offers) vm_X12_offers cv_X12_offers (by decide +kernel) ch_X12_offers ck_X12_offers
def cc_X12_writes_at_0 : aC := (267, 1, [(2, 0, 0, 12), (0, 98, 98, 0)], none, [], 0, [106, 52012], [((2, 590, 51), 0, 0)], [], [((2, 590, 51), 0, 1)])
def ta_X12_writes_at_0 : List aL := [(0, ([(0, ((2, 0, 0, 12), (0, 0, 0), (0, 0), [])), (1, ((0, 98, 98, 0), (0, 0, 0), (0, 0), []))], [], [((2, 590, 51), 0, 0)]), 0, [])]
def bl_X12_writes_at_0 : List aB := [(0, vb_X12_writes_0, none)]
def cz_X12_writes_at_0 : List (Nat × aC) := []
theorem ck_X12_writes_at_0 : csOK cz_X12_writes_at_0 := trivial
theorem cv_X12_writes_at_0 : blOK kd_X12_writes bl_X12_writes_at_0 := ⟨ve_X12_writes_0, trivial⟩
theorem ch_X12_writes_at_0 : amchk ta_X12_writes_at_0 bl_X12_writes_at_0 cz_X12_writes_at_0 cc_X12_writes_at_0 = true := by decide +kernel
theorem ct_X12_writes_at_0 : CtOK cc_X12_writes_at_0 := am_ok' (T := ta_X12_writes_at_0) (B := bl_X12_writes_at_0) (cs := cz_X12_writes_at_0) vm_X12_writes cv_X12_writes_at_0 (by decide +kernel) ch_X12_writes_at_0 ck_X12_writes_at_0
def cc_X12_writes_at_1 : aC := (267, 1, [(2, 0, 0, 12), (0, -2147483648, 2147483647, 1)], none, [], 0, [106, 52012], [((2, 590, 51), 0, 1)], [], [((2, 590, 51), 0, 2)])
def ta_X12_writes_at_1 : List aL := [(0, ([(0, ((2, 0, 0, 12), (0, 0, 0), (0, 0), [])), (1, ((0, -2147483648, 2147483647, 1), (0, 0, 0), (0, 0), []))], [], [((2, 590, 51), 0, 1)]), 0, [])]
def bl_X12_writes_at_1 : List aB := [(0, vb_X12_writes_0, none)]
def cz_X12_writes_at_1 : List (Nat × aC) := []
theorem ck_X12_writes_at_1 : csOK cz_X12_writes_at_1 := trivial
theorem cv_X12_writes_at_1 : blOK kd_X12_writes bl_X12_writes_at_1 := ⟨ve_X12_writes_0, trivial⟩
theorem ch_X12_writes_at_1 : amchk ta_X12_writes_at_1 bl_X12_writes_at_1 cz_X12_writes_at_1 cc_X12_writes_at_1 = true := by decide +kernel
theorem ct_X12_writes_at_1 : CtOK cc_X12_writes_at_1 := am_ok' (T := ta_X12_writes_at_1) (B := bl_X12_writes_at_1) (cs := cz_X12_writes_at_1) vm_X12_writes cv_X12_writes_at_1 (by decide +kernel) ch_X12_writes_at_1 ck_X12_writes_at_1
def cc_X12_writes_at_10 : aC := (267, 1, [(2, 0, 0, 12), (0, 48, 57, 1)], none, [], 0, [106, 52012], [((2, 590, 51), 0, 10)], [], [((2, 590, 51), 0, 11)])
def ta_X12_writes_at_10 : List aL := [(0, ([(0, ((2, 0, 0, 12), (0, 0, 0), (0, 0), [])), (1, ((0, 48, 57, 1), (0, 0, 0), (0, 0), []))], [], [((2, 590, 51), 0, 10)]), 0, [])]
def bl_X12_writes_at_10 : List aB := [(0, vb_X12_writes_0, none)]
def cz_X12_writes_at_10 : List (Nat × aC) := []
theorem ck_X12_writes_at_10 : csOK cz_X12_writes_at_10 := trivial
theorem cv_X12_writes_at_10 : blOK kd_X12_writes bl_X12_writes_at_10 := ⟨ve_X12_writes_0, trivial⟩
theorem ch_X12_writes_at_10 : amchk ta_X12_writes_at_10 bl_X12_writes_at_10 cz_X12_writes_at_10 cc_X12_writes_at_10 = true := by decide +kernel
theorem ct_X12_writes_at_10 : CtOK cc_X12_writes_at_10 := am_ok' (T := ta_X12_writes_at_10) (B := bl_X12_writes_at_10) (cs := cz_X12_writes_at_10) vm_X12_writes cv_X12_writes_at_10 (by decide +kernel) ch_X12_writes_at_10 ck_X12_writes_at_10
def cc_X12_writes_at_100 : aC := (267, 1, [(2, 0, 0, 12), (0, 98, 98, 0)], none, [], 0, [106, 52012], [((2, 590, 51), 0, 100)], [], [((2, 590, 51), 0, 101)])
def ta_X12_writes_at_100 : List aL := [(0, ([(0, ((2, 0, 0, 12), (0, 0, 0), (0, 0), [])), (1, ((0, 98, 98, 0), (0, 0, 0), (0, 0), []))], [], [((2, 590, 51), 0, 100)]), 0, [])]
def bl_X12_writes_at_100 : List aB := [(0, vb_X12_writes_0, none)]
def cz_X12_writes_at_100 : List (Nat × aC) := []
theorem ck_X12_writes_at_100 : csOK cz_X12_writes_at_100 := trivial
theorem cv_X12_writes_at_100 : blOK kd_X12_writes bl_X12_writes_at_100 := ⟨ve_X12_writes_0, trivial⟩
theorem ch_X12_writes_at_100 : amchk ta_X12_writes_at_100 bl_X12_writes_at_100 cz_X12_writes_at_100 cc_X12_writes_at_100 = true := by decide +kernel
theorem ct_X12_writes_at_100 : CtOK cc_X12_writes_at_100 := am_ok' (T := ta_X12_writes_at_100) (B := bl_X12_writes_at_100) (cs := cz_X12_writes_at_100) vm_X12_writes cv_X12_writes_at_100 (by decide +kernel) ch_X12_writes_at_100 ck_X12_writes_at_100
def cc_X12_writes_at_101 : aC := (267, 1, [(2, 0, 0, 12), (0, -2147483648, 2147483647, 1)], none, [], 0, [106, 52012], [((2, 590, 51), 0, 101)], [], [((2, 590, 51), 0, 102)])
def ta_X12_writes_at_101 : List aL := [(0, ([(0, ((2, 0, 0, 12), (0, 0, 0), (0, 0), [])), (1, ((0, -2147483648, 2147483647, 1), (0, 0, 0), (0, 0), []))], [], [((2, 590, 51), 0, 101)]), 0, [])]
def bl_X12_writes_at_101 : List aB := [(0, vb_X12_writes_0, none)]
def cz_X12_writes_at_101 : List (Nat × aC) := []
theorem ck_X12_writes_at_101 : csOK cz_X12_writes_at_101 := trivial
theorem cv_X12_writes_at_101 : blOK kd_X12_writes bl_X12_writes_at_101 := ⟨ve_X12_writes_0, trivial⟩
theorem ch_X12_writes_at_101 : amchk ta_X12_writes_at_101 bl_X12_writes_at_101 cz_X12_writes_at_101 cc_X12_writes_at_101 = true := by decide +kernel
theorem ct_X12_writes_at_101 : CtOK cc_X12_writes_at_101 := am_ok' (T := ta_X12_writes_at_101) (B := bl_X12_writes_at_101) (cs := cz_X12_writes_at_101) vm_X12_writes cv_X12_writes_at_101 (by decide +kernel) ch_X12_writes_at_101 ck_X12_writes_at_101
def cc_X12_writes_at_102 : aC := (267, 1, [(2, 0, 0, 12), (0, -2147483648, 2147483647, 1)], none, [], 0, [106, 52012], [((2, 590, 51), 0, 102)], [], [((2, 590, 51), 0, 103)])
def ta_X12_writes_at_102 : List aL := [(0, ([(0, ((2, 0, 0, 12), (0, 0, 0), (0, 0), [])), (1, ((0, -2147483648, 2147483647, 1), (0, 0, 0), (0, 0), []))], [], [((2, 590, 51), 0, 102)]), 0, [])]
def bl_X12_writes_at_102 : List aB := [(0, vb_X12_writes_0, none)]
def cz_X12_writes_at_102 : List (Nat × aC) := []
theorem ck_X12_writes_at_102 : csOK cz_X12_writes_at_102 := trivial
theorem cv_X12_writes_at_102 : blOK kd_X12_writes bl_X12_writes_at_102 := ⟨ve_X12_writes_0, trivial⟩
theorem ch_X12_writes_at_102 : amchk ta_X12_writes_at_102 bl_X12_writes_at_102 cz_X12_writes_at_102 cc_X12_writes_at_102 = true := by decide +kernel
theorem ct_X12_writes_at_102 : CtOK cc_X12_writes_at_102 := am_ok' (T := ta_X12_writes_at_102) (B := bl_X12_writes_at_102) (cs := cz_X12_writes_at_102) vm_X12_writes cv_X12_writes_at_102 (by decide +kernel) ch_X12_writes_at_102 ck_X12_writes_at_102
def cc_X12_writes_at_103 : aC := (267, 1, [(2, 0, 0, 12), (0, -2147483648, 2147483647, 1)], none, [], 0, [106, 52012], [((2, 590, 51), 0, 103)], [], [((2, 590, 51), 0, 104)])
def ta_X12_writes_at_103 : List aL := [(0, ([(0, ((2, 0, 0, 12), (0, 0, 0), (0, 0), [])), (1, ((0, -2147483648, 2147483647, 1), (0, 0, 0), (0, 0), []))], [], [((2, 590, 51), 0, 103)]), 0, [])]
def bl_X12_writes_at_103 : List aB := [(0, vb_X12_writes_0, none)]
def cz_X12_writes_at_103 : List (Nat × aC) := []
theorem ck_X12_writes_at_103 : csOK cz_X12_writes_at_103 := trivial
theorem cv_X12_writes_at_103 : blOK kd_X12_writes bl_X12_writes_at_103 := ⟨ve_X12_writes_0, trivial⟩
theorem ch_X12_writes_at_103 : amchk ta_X12_writes_at_103 bl_X12_writes_at_103 cz_X12_writes_at_103 cc_X12_writes_at_103 = true := by decide +kernel
theorem ct_X12_writes_at_103 : CtOK cc_X12_writes_at_103 := am_ok' (T := ta_X12_writes_at_103) (B := bl_X12_writes_at_103) (cs := cz_X12_writes_at_103) vm_X12_writes cv_X12_writes_at_103 (by decide +kernel) ch_X12_writes_at_103 ck_X12_writes_at_103
def cc_X12_writes_at_104 : aC := (267, 1, [(2, 0, 0, 12), (0, -2147483648, 2147483647, 1)], none, [], 0, [106, 52012], [((2, 590, 51), 0, 104)], [], [((2, 590, 51), 0, 105)])
def ta_X12_writes_at_104 : List aL := [(0, ([(0, ((2, 0, 0, 12), (0, 0, 0), (0, 0), [])), (1, ((0, -2147483648, 2147483647, 1), (0, 0, 0), (0, 0), []))], [], [((2, 590, 51), 0, 104)]), 0, [])]
def bl_X12_writes_at_104 : List aB := [(0, vb_X12_writes_0, none)]
def cz_X12_writes_at_104 : List (Nat × aC) := []
theorem ck_X12_writes_at_104 : csOK cz_X12_writes_at_104 := trivial
theorem cv_X12_writes_at_104 : blOK kd_X12_writes bl_X12_writes_at_104 := ⟨ve_X12_writes_0, trivial⟩
theorem ch_X12_writes_at_104 : amchk ta_X12_writes_at_104 bl_X12_writes_at_104 cz_X12_writes_at_104 cc_X12_writes_at_104 = true := by decide +kernel
theorem ct_X12_writes_at_104 : CtOK cc_X12_writes_at_104 := am_ok' (T := ta_X12_writes_at_104) (B := bl_X12_writes_at_104) (cs := cz_X12_writes_at_104) vm_X12_writes cv_X12_writes_at_104 (by decide +kernel) ch_X12_writes_at_104 ck_X12_writes_at_104
def cc_X12_writes_at_105 : aC := (267, 1, [(2, 0, 0, 12), (0, -2147483648, 2147483647, 1)], none, [], 0, [106, 52012], [((2, 590, 51), 0, 105)], [], [((2, 590, 51), 0, 106)])
def ta_X12_writes_at_105 : List aL := [(0, ([(0, ((2, 0, 0, 12), (0, 0, 0), (0, 0), [])), (1, ((0, -2147483648, 2147483647, 1), (0, 0, 0), (0, 0), []))], [], [((2, 590, 51), 0, 105)]), 0, [])]
def bl_X12_writes_at_105 : List aB := [(0, vb_X12_writes_0, none)]
def cz_X12_writes_at_105 : List (Nat × aC) := []
theorem ck_X12_writes_at_105 : csOK cz_X12_writes_at_105 := trivial
theorem cv_X12_writes_at_105 : blOK kd_X12_writes bl_X12_writes_at_105 := ⟨ve_X12_writes_0, trivial⟩
theorem ch_X12_writes_at_105 : amchk ta_X12_writes_at_105 bl_X12_writes_at_105 cz_X12_writes_at_105 cc_X12_writes_at_105 = true := by decide +kernel
theorem ct_X12_writes_at_105 : CtOK cc_X12_writes_at_105 := am_ok' (T := ta_X12_writes_at_105) (B := bl_X12_writes_at_105) (cs := cz_X12_writes_at_105) vm_X12_writes cv_X12_writes_at_105 (by decide +kernel) ch_X12_writes_at_105 ck_X12_writes_at_105
def cc_X12_writes_at_106 : aC := (267, 1, [(2, 0, 0, 12), (0, -2147483648, 2147483647, 1)], none, [], 0, [106, 52012], [((2, 590, 51), 0, 106)], [], [((2, 590, 51), 0, 107)])
def ta_X12_writes_at_106 : List aL := [(0, ([(0, ((2, 0, 0, 12), (0, 0, 0), (0, 0), [])), (1, ((0, -2147483648, 2147483647, 1), (0, 0, 0), (0, 0), []))], [], [((2, 590, 51), 0, 106)]), 0, [])]
def bl_X12_writes_at_106 : List aB := [(0, vb_X12_writes_0, none)]
def cz_X12_writes_at_106 : List (Nat × aC) := []
theorem ck_X12_writes_at_106 : csOK cz_X12_writes_at_106 := trivial
theorem cv_X12_writes_at_106 : blOK kd_X12_writes bl_X12_writes_at_106 := ⟨ve_X12_writes_0, trivial⟩
theorem ch_X12_writes_at_106 : amchk ta_X12_writes_at_106 bl_X12_writes_at_106 cz_X12_writes_at_106 cc_X12_writes_at_106 = true := by decide +kernel
theorem ct_X12_writes_at_106 : CtOK cc_X12_writes_at_106 := am_ok' (T := ta_X12_writes_at_106) (B := bl_X12_writes_at_106) (cs := cz_X12_writes_at_106) vm_X12_writes cv_X12_writes_at_106 (by decide +kernel) ch_X12_writes_at_106 ck_X12_writes_at_106
def cc_X12_writes_at_107 : aC := (267, 1, [(2, 0, 0, 12), (0, -2147483648, 2147483647, 1)], none, [], 0, [106, 52012], [((2, 590, 51), 0, 107)], [], [((2, 590, 51), 0, 108)])
def ta_X12_writes_at_107 : List aL := [(0, ([(0, ((2, 0, 0, 12), (0, 0, 0), (0, 0), [])), (1, ((0, -2147483648, 2147483647, 1), (0, 0, 0), (0, 0), []))], [], [((2, 590, 51), 0, 107)]), 0, [])]
def bl_X12_writes_at_107 : List aB := [(0, vb_X12_writes_0, none)]
def cz_X12_writes_at_107 : List (Nat × aC) := []
theorem ck_X12_writes_at_107 : csOK cz_X12_writes_at_107 := trivial
theorem cv_X12_writes_at_107 : blOK kd_X12_writes bl_X12_writes_at_107 := ⟨ve_X12_writes_0, trivial⟩
theorem ch_X12_writes_at_107 : amchk ta_X12_writes_at_107 bl_X12_writes_at_107 cz_X12_writes_at_107 cc_X12_writes_at_107 = true := by decide +kernel
theorem ct_X12_writes_at_107 : CtOK cc_X12_writes_at_107 := am_ok' (T := ta_X12_writes_at_107) (B := bl_X12_writes_at_107) (cs := cz_X12_writes_at_107) vm_X12_writes cv_X12_writes_at_107 (by decide +kernel) ch_X12_writes_at_107 ck_X12_writes_at_107
def cc_X12_writes_at_108 : aC := (267, 1, [(2, 0, 0, 12), (0, -2147483648, 2147483647, 1)], none, [], 0, [106, 52012], [((2, 590, 51), 0, 108)], [], [((2, 590, 51), 0, 109)])
def ta_X12_writes_at_108 : List aL := [(0, ([(0, ((2, 0, 0, 12), (0, 0, 0), (0, 0), [])), (1, ((0, -2147483648, 2147483647, 1), (0, 0, 0), (0, 0), []))], [], [((2, 590, 51), 0, 108)]), 0, [])]
def bl_X12_writes_at_108 : List aB := [(0, vb_X12_writes_0, none)]
def cz_X12_writes_at_108 : List (Nat × aC) := []
theorem ck_X12_writes_at_108 : csOK cz_X12_writes_at_108 := trivial
theorem cv_X12_writes_at_108 : blOK kd_X12_writes bl_X12_writes_at_108 := ⟨ve_X12_writes_0, trivial⟩
theorem ch_X12_writes_at_108 : amchk ta_X12_writes_at_108 bl_X12_writes_at_108 cz_X12_writes_at_108 cc_X12_writes_at_108 = true := by decide +kernel
theorem ct_X12_writes_at_108 : CtOK cc_X12_writes_at_108 := am_ok' (T := ta_X12_writes_at_108) (B := bl_X12_writes_at_108) (cs := cz_X12_writes_at_108) vm_X12_writes cv_X12_writes_at_108 (by decide +kernel) ch_X12_writes_at_108 ck_X12_writes_at_108
def cc_X12_writes_at_109 : aC := (267, 1, [(2, 0, 0, 12), (0, 58, 58, 0)], none, [], 0, [106, 52012], [((2, 590, 51), 0, 109)], [], [((2, 590, 51), 0, 110)])
def ta_X12_writes_at_109 : List aL := [(0, ([(0, ((2, 0, 0, 12), (0, 0, 0), (0, 0), [])), (1, ((0, 58, 58, 0), (0, 0, 0), (0, 0), []))], [], [((2, 590, 51), 0, 109)]), 0, [])]
def bl_X12_writes_at_109 : List aB := [(0, vb_X12_writes_0, none)]
def cz_X12_writes_at_109 : List (Nat × aC) := []
theorem ck_X12_writes_at_109 : csOK cz_X12_writes_at_109 := trivial
theorem cv_X12_writes_at_109 : blOK kd_X12_writes bl_X12_writes_at_109 := ⟨ve_X12_writes_0, trivial⟩
theorem ch_X12_writes_at_109 : amchk ta_X12_writes_at_109 bl_X12_writes_at_109 cz_X12_writes_at_109 cc_X12_writes_at_109 = true := by decide +kernel
theorem ct_X12_writes_at_109 : CtOK cc_X12_writes_at_109 := am_ok' (T := ta_X12_writes_at_109) (B := bl_X12_writes_at_109) (cs := cz_X12_writes_at_109) vm_X12_writes cv_X12_writes_at_109 (by decide +kernel) ch_X12_writes_at_109 ck_X12_writes_at_109
def cc_X12_writes_at_11 : aC := (267, 1, [(2, 0, 0, 12), (0, 48, 57, 1)], none, [], 0, [106, 52012], [((2, 590, 51), 0, 11)], [], [((2, 590, 51), 0, 12)])
def ta_X12_writes_at_11 : List aL := [(0, ([(0, ((2, 0, 0, 12), (0, 0, 0), (0, 0), [])), (1, ((0, 48, 57, 1), (0, 0, 0), (0, 0), []))], [], [((2, 590, 51), 0, 11)]), 0, [])]
def bl_X12_writes_at_11 : List aB := [(0, vb_X12_writes_0, none)]
def cz_X12_writes_at_11 : List (Nat × aC) := []
theorem ck_X12_writes_at_11 : csOK cz_X12_writes_at_11 := trivial
theorem cv_X12_writes_at_11 : blOK kd_X12_writes bl_X12_writes_at_11 := ⟨ve_X12_writes_0, trivial⟩
theorem ch_X12_writes_at_11 : amchk ta_X12_writes_at_11 bl_X12_writes_at_11 cz_X12_writes_at_11 cc_X12_writes_at_11 = true := by decide +kernel
theorem ct_X12_writes_at_11 : CtOK cc_X12_writes_at_11 := am_ok' (T := ta_X12_writes_at_11) (B := bl_X12_writes_at_11) (cs := cz_X12_writes_at_11) vm_X12_writes cv_X12_writes_at_11 (by decide +kernel) ch_X12_writes_at_11 ck_X12_writes_at_11
def cc_X12_writes_at_110 : aC := (267, 1, [(2, 0, 0, 12), (0, 48, 57, 1)], none, [], 0, [106, 52012], [((2, 590, 51), 0, 110)], [], [((2, 590, 51), 0, 111)])
def ta_X12_writes_at_110 : List aL := [(0, ([(0, ((2, 0, 0, 12), (0, 0, 0), (0, 0), [])), (1, ((0, 48, 57, 1), (0, 0, 0), (0, 0), []))], [], [((2, 590, 51), 0, 110)]), 0, [])]
def bl_X12_writes_at_110 : List aB := [(0, vb_X12_writes_0, none)]
def cz_X12_writes_at_110 : List (Nat × aC) := []
theorem ck_X12_writes_at_110 : csOK cz_X12_writes_at_110 := trivial
theorem cv_X12_writes_at_110 : blOK kd_X12_writes bl_X12_writes_at_110 := ⟨ve_X12_writes_0, trivial⟩
theorem ch_X12_writes_at_110 : amchk ta_X12_writes_at_110 bl_X12_writes_at_110 cz_X12_writes_at_110 cc_X12_writes_at_110 = true := by decide +kernel
theorem ct_X12_writes_at_110 : CtOK cc_X12_writes_at_110 := am_ok' (T := ta_X12_writes_at_110) (B := bl_X12_writes_at_110) (cs := cz_X12_writes_at_110) vm_X12_writes cv_X12_writes_at_110 (by decide +kernel) ch_X12_writes_at_110 ck_X12_writes_at_110
def cc_X12_writes_at_111 : aC := (267, 1, [(2, 0, 0, 12), (0, 48, 57, 1)], none, [], 0, [106, 52012], [((2, 590, 51), 0, 111)], [], [((2, 590, 51), 0, 112)])
def ta_X12_writes_at_111 : List aL := [(0, ([(0, ((2, 0, 0, 12), (0, 0, 0), (0, 0), [])), (1, ((0, 48, 57, 1), (0, 0, 0), (0, 0), []))], [], [((2, 590, 51), 0, 111)]), 0, [])]
def bl_X12_writes_at_111 : List aB := [(0, vb_X12_writes_0, none)]
def cz_X12_writes_at_111 : List (Nat × aC) := []
theorem ck_X12_writes_at_111 : csOK cz_X12_writes_at_111 := trivial
theorem cv_X12_writes_at_111 : blOK kd_X12_writes bl_X12_writes_at_111 := ⟨ve_X12_writes_0, trivial⟩
theorem ch_X12_writes_at_111 : amchk ta_X12_writes_at_111 bl_X12_writes_at_111 cz_X12_writes_at_111 cc_X12_writes_at_111 = true := by decide +kernel
theorem ct_X12_writes_at_111 : CtOK cc_X12_writes_at_111 := am_ok' (T := ta_X12_writes_at_111) (B := bl_X12_writes_at_111) (cs := cz_X12_writes_at_111) vm_X12_writes cv_X12_writes_at_111 (by decide +kernel) ch_X12_writes_at_111 ck_X12_writes_at_111
def cc_X12_writes_at_112 : aC := (267, 1, [(2, 0, 0, 12), (0, 48, 57, 1)], none, [], 0, [106, 52012], [((2, 590, 51), 0, 112)], [], [((2, 590, 51), 0, 113)])
def ta_X12_writes_at_112 : List aL := [(0, ([(0, ((2, 0, 0, 12), (0, 0, 0), (0, 0), [])), (1, ((0, 48, 57, 1), (0, 0, 0), (0, 0), []))], [], [((2, 590, 51), 0, 112)]), 0, [])]
def bl_X12_writes_at_112 : List aB := [(0, vb_X12_writes_0, none)]
def cz_X12_writes_at_112 : List (Nat × aC) := []
theorem ck_X12_writes_at_112 : csOK cz_X12_writes_at_112 := trivial
theorem cv_X12_writes_at_112 : blOK kd_X12_writes bl_X12_writes_at_112 := ⟨ve_X12_writes_0, trivial⟩
theorem ch_X12_writes_at_112 : amchk ta_X12_writes_at_112 bl_X12_writes_at_112 cz_X12_writes_at_112 cc_X12_writes_at_112 = true := by decide +kernel
theorem ct_X12_writes_at_112 : CtOK cc_X12_writes_at_112 := am_ok' (T := ta_X12_writes_at_112) (B := bl_X12_writes_at_112) (cs := cz_X12_writes_at_112) vm_X12_writes cv_X12_writes_at_112 (by decide +kernel) ch_X12_writes_at_112 ck_X12_writes_at_112
def cc_X12_writes_at_114 : aC := (267, 1, [(2, 0, 0, 12), (0, 42, 42, 0)], none, [], 0, [106, 52012], [((2, 590, 51), 0, 114)], [], [((2, 590, 51), 0, 115)])
def ta_X12_writes_at_114 : List aL := [(0, ([(0, ((2, 0, 0, 12), (0, 0, 0), (0, 0), [])), (1, ((0, 42, 42, 0), (0, 0, 0), (0, 0), []))], [], [((2, 590, 51), 0, 114)]), 0, [])]
def bl_X12_writes_at_114 : List aB := [(0, vb_X12_writes_0, none)]
def cz_X12_writes_at_114 : List (Nat × aC) := []
theorem ck_X12_writes_at_114 : csOK cz_X12_writes_at_114 := trivial
theorem cv_X12_writes_at_114 : blOK kd_X12_writes bl_X12_writes_at_114 := ⟨ve_X12_writes_0, trivial⟩
theorem ch_X12_writes_at_114 : amchk ta_X12_writes_at_114 bl_X12_writes_at_114 cz_X12_writes_at_114 cc_X12_writes_at_114 = true := by decide +kernel
theorem ct_X12_writes_at_114 : CtOK cc_X12_writes_at_114 := am_ok' (T := ta_X12_writes_at_114) (B := bl_X12_writes_at_114) (cs := cz_X12_writes_at_114) vm_X12_writes cv_X12_writes_at_114 (by decide +kernel) ch_X12_writes_at_114 ck_X12_writes_at_114
def cc_X12_writes_at_115 : aC := (267, 1, [(2, 0, 0, 12), (0, 48, 57, 1)], none, [], 0, [106, 52012], [((2, 590, 51), 0, 115)], [], [((2, 590, 51), 0, 116)])
def ta_X12_writes_at_115 : List aL := [(0, ([(0, ((2, 0, 0, 12), (0, 0, 0), (0, 0), [])), (1, ((0, 48, 57, 1), (0, 0, 0), (0, 0), []))], [], [((2, 590, 51), 0, 115)]), 0, [])]
def bl_X12_writes_at_115 : List aB := [(0, vb_X12_writes_0, none)]
def cz_X12_writes_at_115 : List (Nat × aC) := []
theorem ck_X12_writes_at_115 : csOK cz_X12_writes_at_115 := trivial
theorem cv_X12_writes_at_115 : blOK kd_X12_writes bl_X12_writes_at_115 := ⟨ve_X12_writes_0, trivial⟩
theorem ch_X12_writes_at_115 : amchk ta_X12_writes_at_115 bl_X12_writes_at_115 cz_X12_writes_at_115 cc_X12_writes_at_115 = true := by decide +kernel
theorem ct_X12_writes_at_115 : CtOK cc_X12_writes_at_115 := am_ok' (T := ta_X12_writes_at_115) (B := bl_X12_writes_at_115) (cs := cz_X12_writes_at_115) vm_X12_writes cv_X12_writes_at_115 (by decide +kernel) ch_X12_writes_at_115 ck_X12_writes_at_115
def cc_X12_writes_at_116 : aC := (267, 1, [(2, 0, 0, 12), (0, 48, 57, 1)], none, [], 0, [106, 52012], [((2, 590, 51), 0, 116)], [], [((2, 590, 51), 0, 117)])
def ta_X12_writes_at_116 : List aL := [(0, ([(0, ((2, 0, 0, 12), (0, 0, 0), (0, 0), [])), (1, ((0, 48, 57, 1), (0, 0, 0), (0, 0), []))], [], [((2, 590, 51), 0, 116)]), 0, [])]
def bl_X12_writes_at_116 : List aB := [(0, vb_X12_writes_0, none)]
def cz_X12_writes_at_116 : List (Nat × aC) := []
theorem ck_X12_writes_at_116 : csOK cz_X12_writes_at_116 := trivial
theorem cv_X12_writes_at_116 : blOK kd_X12_writes bl_X12_writes_at_116 := ⟨ve_X12_writes_0, trivial⟩
theorem ch_X12_writes_at_116 : amchk ta_X12_writes_at_116 bl_X12_writes_at_116 cz_X12_writes_at_116 cc_X12_writes_at_116 = true := by decide +kernel
theorem ct_X12_writes_at_116 : CtOK cc_X12_writes_at_116 := am_ok' (T := ta_X12_writes_at_116) (B := bl_X12_writes_at_116) (cs := cz_X12_writes_at_116) vm_X12_writes cv_X12_writes_at_116 (by decide +kernel) ch_X12_writes_at_116 ck_X12_writes_at_116
def cc_X12_writes_at_117 : aC := (267, 1, [(2, 0, 0, 12), (0, 48, 57, 1)], none, [], 0, [106, 52012], [((2, 590, 51), 0, 117)], [], [((2, 590, 51), 0, 118)])
def ta_X12_writes_at_117 : List aL := [(0, ([(0, ((2, 0, 0, 12), (0, 0, 0), (0, 0), [])), (1, ((0, 48, 57, 1), (0, 0, 0), (0, 0), []))], [], [((2, 590, 51), 0, 117)]), 0, [])]
def bl_X12_writes_at_117 : List aB := [(0, vb_X12_writes_0, none)]
def cz_X12_writes_at_117 : List (Nat × aC) := []
theorem ck_X12_writes_at_117 : csOK cz_X12_writes_at_117 := trivial
theorem cv_X12_writes_at_117 : blOK kd_X12_writes bl_X12_writes_at_117 := ⟨ve_X12_writes_0, trivial⟩
theorem ch_X12_writes_at_117 : amchk ta_X12_writes_at_117 bl_X12_writes_at_117 cz_X12_writes_at_117 cc_X12_writes_at_117 = true := by decide +kernel
theorem ct_X12_writes_at_117 : CtOK cc_X12_writes_at_117 := am_ok' (T := ta_X12_writes_at_117) (B := bl_X12_writes_at_117) (cs := cz_X12_writes_at_117) vm_X12_writes cv_X12_writes_at_117 (by decide +kernel) ch_X12_writes_at_117 ck_X12_writes_at_117
def cc_X12_writes_at_118 : aC := (267, 1, [(2, 0, 0, 12), (0, 48, 57, 1)], none, [], 0, [106, 52012], [((2, 590, 51), 0, 118)], [], [((2, 590, 51), 0, 119)])
def ta_X12_writes_at_118 : List aL := [(0, ([(0, ((2, 0, 0, 12), (0, 0, 0), (0, 0), [])), (1, ((0, 48, 57, 1), (0, 0, 0), (0, 0), []))], [], [((2, 590, 51), 0, 118)]), 0, [])]
def bl_X12_writes_at_118 : List aB := [(0, vb_X12_writes_0, none)]
def cz_X12_writes_at_118 : List (Nat × aC) := []
theorem ck_X12_writes_at_118 : csOK cz_X12_writes_at_118 := trivial
theorem cv_X12_writes_at_118 : blOK kd_X12_writes bl_X12_writes_at_118 := ⟨ve_X12_writes_0, trivial⟩
theorem ch_X12_writes_at_118 : amchk ta_X12_writes_at_118 bl_X12_writes_at_118 cz_X12_writes_at_118 cc_X12_writes_at_118 = true := by decide +kernel
theorem ct_X12_writes_at_118 : CtOK cc_X12_writes_at_118 := am_ok' (T := ta_X12_writes_at_118) (B := bl_X12_writes_at_118) (cs := cz_X12_writes_at_118) vm_X12_writes cv_X12_writes_at_118 (by decide +kernel) ch_X12_writes_at_118 ck_X12_writes_at_118
def cc_X12_writes_at_119 : aC := (267, 1, [(2, 0, 0, 12), (0, 59, 59, 0)], none, [], 0, [106, 52012], [((2, 590, 51), 0, 119)], [], [((2, 590, 51), 0, 120)])
def ta_X12_writes_at_119 : List aL := [(0, ([(0, ((2, 0, 0, 12), (0, 0, 0), (0, 0), [])), (1, ((0, 59, 59, 0), (0, 0, 0), (0, 0), []))], [], [((2, 590, 51), 0, 119)]), 0, [])]
def bl_X12_writes_at_119 : List aB := [(0, vb_X12_writes_0, none)]
def cz_X12_writes_at_119 : List (Nat × aC) := []
theorem ck_X12_writes_at_119 : csOK cz_X12_writes_at_119 := trivial
theorem cv_X12_writes_at_119 : blOK kd_X12_writes bl_X12_writes_at_119 := ⟨ve_X12_writes_0, trivial⟩
theorem ch_X12_writes_at_119 : amchk ta_X12_writes_at_119 bl_X12_writes_at_119 cz_X12_writes_at_119 cc_X12_writes_at_119 = true := by decide +kernel
theorem ct_X12_writes_at_119 : CtOK cc_X12_writes_at_119 := am_ok' (T := ta_X12_writes_at_119) (B := bl_X12_writes_at_119) (cs := cz_X12_writes_at_119) vm_X12_writes cv_X12_writes_at_119 (by decide +kernel) ch_X12_writes_at_119 ck_X12_writes_at_119
def cc_X12_writes_at_12 : aC := (267, 1, [(2, 0, 0, 12), (0, 48, 57, 1)], none, [], 0, [106, 52012], [((2, 590, 51), 0, 12)], [], [((2, 590, 51), 0, 13)])
def ta_X12_writes_at_12 : List aL := [(0, ([(0, ((2, 0, 0, 12), (0, 0, 0), (0, 0), [])), (1, ((0, 48, 57, 1), (0, 0, 0), (0, 0), []))], [], [((2, 590, 51), 0, 12)]), 0, [])]
def bl_X12_writes_at_12 : List aB := [(0, vb_X12_writes_0, none)]
def cz_X12_writes_at_12 : List (Nat × aC) := []
theorem ck_X12_writes_at_12 : csOK cz_X12_writes_at_12 := trivial
theorem cv_X12_writes_at_12 : blOK kd_X12_writes bl_X12_writes_at_12 := ⟨ve_X12_writes_0, trivial⟩
theorem ch_X12_writes_at_12 : amchk ta_X12_writes_at_12 bl_X12_writes_at_12 cz_X12_writes_at_12 cc_X12_writes_at_12 = true := by decide +kernel
theorem ct_X12_writes_at_12 : CtOK cc_X12_writes_at_12 := am_ok' (T := ta_X12_writes_at_12) (B := bl_X12_writes_at_12) (cs := cz_X12_writes_at_12) vm_X12_writes cv_X12_writes_at_12 (by decide +kernel) ch_X12_writes_at_12 ck_X12_writes_at_12
def cc_X12_writes_at_120 : aC := (267, 1, [(2, 0, 0, 12), (0, 98, 98, 0)], none, [], 0, [106, 52012], [((2, 590, 51), 0, 120)], [], [((2, 590, 51), 0, 121)])
def ta_X12_writes_at_120 : List aL := [(0, ([(0, ((2, 0, 0, 12), (0, 0, 0), (0, 0), [])), (1, ((0, 98, 98, 0), (0, 0, 0), (0, 0), []))], [], [((2, 590, 51), 0, 120)]), 0, [])]
def bl_X12_writes_at_120 : List aB := [(0, vb_X12_writes_0, none)]
def cz_X12_writes_at_120 : List (Nat × aC) := []
theorem ck_X12_writes_at_120 : csOK cz_X12_writes_at_120 := trivial
theorem cv_X12_writes_at_120 : blOK kd_X12_writes bl_X12_writes_at_120 := ⟨ve_X12_writes_0, trivial⟩
theorem ch_X12_writes_at_120 : amchk ta_X12_writes_at_120 bl_X12_writes_at_120 cz_X12_writes_at_120 cc_X12_writes_at_120 = true := by decide +kernel
theorem ct_X12_writes_at_120 : CtOK cc_X12_writes_at_120 := am_ok' (T := ta_X12_writes_at_120) (B := bl_X12_writes_at_120) (cs := cz_X12_writes_at_120) vm_X12_writes cv_X12_writes_at_120 (by decide +kernel) ch_X12_writes_at_120 ck_X12_writes_at_120
def cc_X12_writes_at_121 : aC := (267, 1, [(2, 0, 0, 12), (0, -2147483648, 2147483647, 1)], none, [], 0, [106, 52012], [((2, 590, 51), 0, 121)], [], [((2, 590, 51), 0, 122)])
def ta_X12_writes_at_121 : List aL := [(0, ([(0, ((2, 0, 0, 12), (0, 0, 0), (0, 0), [])), (1, ((0, -2147483648, 2147483647, 1), (0, 0, 0), (0, 0), []))], [], [((2, 590, 51), 0, 121)]), 0, [])]
def bl_X12_writes_at_121 : List aB := [(0, vb_X12_writes_0, none)]
def cz_X12_writes_at_121 : List (Nat × aC) := []
theorem ck_X12_writes_at_121 : csOK cz_X12_writes_at_121 := trivial
theorem cv_X12_writes_at_121 : blOK kd_X12_writes bl_X12_writes_at_121 := ⟨ve_X12_writes_0, trivial⟩
theorem ch_X12_writes_at_121 : amchk ta_X12_writes_at_121 bl_X12_writes_at_121 cz_X12_writes_at_121 cc_X12_writes_at_121 = true := by decide +kernel
theorem ct_X12_writes_at_121 : CtOK cc_X12_writes_at_121 := am_ok' (T := ta_X12_writes_at_121) (B := bl_X12_writes_at_121) (cs := cz_X12_writes_at_121) vm_X12_writes cv_X12_writes_at_121 (by decide +kernel) ch_X12_writes_at_121 ck_X12_writes_at_121
def cc_X12_writes_at_122 : aC := (267, 1, [(2, 0, 0, 12), (0, -2147483648, 2147483647, 1)], none, [], 0, [106, 52012], [((2, 590, 51), 0, 122)], [], [((2, 590, 51), 0, 123)])
def ta_X12_writes_at_122 : List aL := [(0, ([(0, ((2, 0, 0, 12), (0, 0, 0), (0, 0), [])), (1, ((0, -2147483648, 2147483647, 1), (0, 0, 0), (0, 0), []))], [], [((2, 590, 51), 0, 122)]), 0, [])]
def bl_X12_writes_at_122 : List aB := [(0, vb_X12_writes_0, none)]
def cz_X12_writes_at_122 : List (Nat × aC) := []
theorem ck_X12_writes_at_122 : csOK cz_X12_writes_at_122 := trivial
theorem cv_X12_writes_at_122 : blOK kd_X12_writes bl_X12_writes_at_122 := ⟨ve_X12_writes_0, trivial⟩
theorem ch_X12_writes_at_122 : amchk ta_X12_writes_at_122 bl_X12_writes_at_122 cz_X12_writes_at_122 cc_X12_writes_at_122 = true := by decide +kernel
theorem ct_X12_writes_at_122 : CtOK cc_X12_writes_at_122 := am_ok' (T := ta_X12_writes_at_122) (B := bl_X12_writes_at_122) (cs := cz_X12_writes_at_122) vm_X12_writes cv_X12_writes_at_122 (by decide +kernel) ch_X12_writes_at_122 ck_X12_writes_at_122
def cc_X12_writes_at_123 : aC := (267, 1, [(2, 0, 0, 12), (0, -2147483648, 2147483647, 1)], none, [], 0, [106, 52012], [((2, 590, 51), 0, 123)], [], [((2, 590, 51), 0, 124)])
def ta_X12_writes_at_123 : List aL := [(0, ([(0, ((2, 0, 0, 12), (0, 0, 0), (0, 0), [])), (1, ((0, -2147483648, 2147483647, 1), (0, 0, 0), (0, 0), []))], [], [((2, 590, 51), 0, 123)]), 0, [])]
def bl_X12_writes_at_123 : List aB := [(0, vb_X12_writes_0, none)]
def cz_X12_writes_at_123 : List (Nat × aC) := []
theorem ck_X12_writes_at_123 : csOK cz_X12_writes_at_123 := trivial
theorem cv_X12_writes_at_123 : blOK kd_X12_writes bl_X12_writes_at_123 := ⟨ve_X12_writes_0, trivial⟩
theorem ch_X12_writes_at_123 : amchk ta_X12_writes_at_123 bl_X12_writes_at_123 cz_X12_writes_at_123 cc_X12_writes_at_123 = true := by decide +kernel
theorem ct_X12_writes_at_123 : CtOK cc_X12_writes_at_123 := am_ok' (T := ta_X12_writes_at_123) (B := bl_X12_writes_at_123) (cs := cz_X12_writes_at_123) vm_X12_writes cv_X12_writes_at_123 (by decide +kernel) ch_X12_writes_at_123 ck_X12_writes_at_123
def cc_X12_writes_at_124 : aC := (267, 1, [(2, 0, 0, 12), (0, -2147483648, 2147483647, 1)], none, [], 0, [106, 52012], [((2, 590, 51), 0, 124)], [], [((2, 590, 51), 0, 125)])
def ta_X12_writes_at_124 : List aL := [(0, ([(0, ((2, 0, 0, 12), (0, 0, 0), (0, 0), [])), (1, ((0, -2147483648, 2147483647, 1), (0, 0, 0), (0, 0), []))], [], [((2, 590, 51), 0, 124)]), 0, [])]
def bl_X12_writes_at_124 : List aB := [(0, vb_X12_writes_0, none)]
def cz_X12_writes_at_124 : List (Nat × aC) := []
theorem ck_X12_writes_at_124 : csOK cz_X12_writes_at_124 := trivial
theorem cv_X12_writes_at_124 : blOK kd_X12_writes bl_X12_writes_at_124 := ⟨ve_X12_writes_0, trivial⟩
theorem ch_X12_writes_at_124 : amchk ta_X12_writes_at_124 bl_X12_writes_at_124 cz_X12_writes_at_124 cc_X12_writes_at_124 = true := by decide +kernel
theorem ct_X12_writes_at_124 : CtOK cc_X12_writes_at_124 := am_ok' (T := ta_X12_writes_at_124) (B := bl_X12_writes_at_124) (cs := cz_X12_writes_at_124) vm_X12_writes cv_X12_writes_at_124 (by decide +kernel) ch_X12_writes_at_124 ck_X12_writes_at_124
def cc_X12_writes_at_125 : aC := (267, 1, [(2, 0, 0, 12), (0, -2147483648, 2147483647, 1)], none, [], 0, [106, 52012], [((2, 590, 51), 0, 125)], [], [((2, 590, 51), 0, 126)])
def ta_X12_writes_at_125 : List aL := [(0, ([(0, ((2, 0, 0, 12), (0, 0, 0), (0, 0), [])), (1, ((0, -2147483648, 2147483647, 1), (0, 0, 0), (0, 0), []))], [], [((2, 590, 51), 0, 125)]), 0, [])]
def bl_X12_writes_at_125 : List aB := [(0, vb_X12_writes_0, none)]
def cz_X12_writes_at_125 : List (Nat × aC) := []
theorem ck_X12_writes_at_125 : csOK cz_X12_writes_at_125 := trivial
theorem cv_X12_writes_at_125 : blOK kd_X12_writes bl_X12_writes_at_125 := ⟨ve_X12_writes_0, trivial⟩
theorem ch_X12_writes_at_125 : amchk ta_X12_writes_at_125 bl_X12_writes_at_125 cz_X12_writes_at_125 cc_X12_writes_at_125 = true := by decide +kernel
theorem ct_X12_writes_at_125 : CtOK cc_X12_writes_at_125 := am_ok' (T := ta_X12_writes_at_125) (B := bl_X12_writes_at_125) (cs := cz_X12_writes_at_125) vm_X12_writes cv_X12_writes_at_125 (by decide +kernel) ch_X12_writes_at_125 ck_X12_writes_at_125
def cc_X12_writes_at_126 : aC := (267, 1, [(2, 0, 0, 12), (0, -2147483648, 2147483647, 1)], none, [], 0, [106, 52012], [((2, 590, 51), 0, 126)], [], [((2, 590, 51), 0, 127)])
def ta_X12_writes_at_126 : List aL := [(0, ([(0, ((2, 0, 0, 12), (0, 0, 0), (0, 0), [])), (1, ((0, -2147483648, 2147483647, 1), (0, 0, 0), (0, 0), []))], [], [((2, 590, 51), 0, 126)]), 0, [])]
def bl_X12_writes_at_126 : List aB := [(0, vb_X12_writes_0, none)]
def cz_X12_writes_at_126 : List (Nat × aC) := []
theorem ck_X12_writes_at_126 : csOK cz_X12_writes_at_126 := trivial
theorem cv_X12_writes_at_126 : blOK kd_X12_writes bl_X12_writes_at_126 := ⟨ve_X12_writes_0, trivial⟩
theorem ch_X12_writes_at_126 : amchk ta_X12_writes_at_126 bl_X12_writes_at_126 cz_X12_writes_at_126 cc_X12_writes_at_126 = true := by decide +kernel
theorem ct_X12_writes_at_126 : CtOK cc_X12_writes_at_126 := am_ok' (T := ta_X12_writes_at_126) (B := bl_X12_writes_at_126) (cs := cz_X12_writes_at_126) vm_X12_writes cv_X12_writes_at_126 (by decide +kernel) ch_X12_writes_at_126 ck_X12_writes_at_126
def cc_X12_writes_at_127 : aC := (267, 1, [(2, 0, 0, 12), (0, -2147483648, 2147483647, 1)], none, [], 0, [106, 52012], [((2, 590, 51), 0, 127)], [], [((2, 590, 51), 0, 128)])
def ta_X12_writes_at_127 : List aL := [(0, ([(0, ((2, 0, 0, 12), (0, 0, 0), (0, 0), [])), (1, ((0, -2147483648, 2147483647, 1), (0, 0, 0), (0, 0), []))], [], [((2, 590, 51), 0, 127)]), 0, [])]
def bl_X12_writes_at_127 : List aB := [(0, vb_X12_writes_0, none)]
def cz_X12_writes_at_127 : List (Nat × aC) := []
theorem ck_X12_writes_at_127 : csOK cz_X12_writes_at_127 := trivial
theorem cv_X12_writes_at_127 : blOK kd_X12_writes bl_X12_writes_at_127 := ⟨ve_X12_writes_0, trivial⟩
theorem ch_X12_writes_at_127 : amchk ta_X12_writes_at_127 bl_X12_writes_at_127 cz_X12_writes_at_127 cc_X12_writes_at_127 = true := by decide +kernel
theorem ct_X12_writes_at_127 : CtOK cc_X12_writes_at_127 := am_ok' (T := ta_X12_writes_at_127) (B := bl_X12_writes_at_127) (cs := cz_X12_writes_at_127) vm_X12_writes cv_X12_writes_at_127 (by decide +kernel) ch_X12_writes_at_127 ck_X12_writes_at_127
def cc_X12_writes_at_128 : aC := (267, 1, [(2, 0, 0, 12), (0, -2147483648, 2147483647, 1)], none, [], 0, [106, 52012], [((2, 590, 51), 0, 128)], [], [((2, 590, 51), 0, 129)])
def ta_X12_writes_at_128 : List aL := [(0, ([(0, ((2, 0, 0, 12), (0, 0, 0), (0, 0), [])), (1, ((0, -2147483648, 2147483647, 1), (0, 0, 0), (0, 0), []))], [], [((2, 590, 51), 0, 128)]), 0, [])]
def bl_X12_writes_at_128 : List aB := [(0, vb_X12_writes_0, none)]
def cz_X12_writes_at_128 : List (Nat × aC) := []
theorem ck_X12_writes_at_128 : csOK cz_X12_writes_at_128 := trivial
theorem cv_X12_writes_at_128 : blOK kd_X12_writes bl_X12_writes_at_128 := ⟨ve_X12_writes_0, trivial⟩
theorem ch_X12_writes_at_128 : amchk ta_X12_writes_at_128 bl_X12_writes_at_128 cz_X12_writes_at_128 cc_X12_writes_at_128 = true := by decide +kernel
theorem ct_X12_writes_at_128 : CtOK cc_X12_writes_at_128 := am_ok' (T := ta_X12_writes_at_128) (B := bl_X12_writes_at_128) (cs := cz_X12_writes_at_128) vm_X12_writes cv_X12_writes_at_128 (by decide +kernel) ch_X12_writes_at_128 ck_X12_writes_at_128
def cc_X12_writes_at_129 : aC := (267, 1, [(2, 0, 0, 12), (0, 58, 58, 0)], none, [], 0, [106, 52012], [((2, 590, 51), 0, 129)], [], [((2, 590, 51), 0, 130)])
def ta_X12_writes_at_129 : List aL := [(0, ([(0, ((2, 0, 0, 12), (0, 0, 0), (0, 0), [])), (1, ((0, 58, 58, 0), (0, 0, 0), (0, 0), []))], [], [((2, 590, 51), 0, 129)]), 0, [])]
def bl_X12_writes_at_129 : List aB := [(0, vb_X12_writes_0, none)]
def cz_X12_writes_at_129 : List (Nat × aC) := []
theorem ck_X12_writes_at_129 : csOK cz_X12_writes_at_129 := trivial
theorem cv_X12_writes_at_129 : blOK kd_X12_writes bl_X12_writes_at_129 := ⟨ve_X12_writes_0, trivial⟩
theorem ch_X12_writes_at_129 : amchk ta_X12_writes_at_129 bl_X12_writes_at_129 cz_X12_writes_at_129 cc_X12_writes_at_129 = true := by decide +kernel
theorem ct_X12_writes_at_129 : CtOK cc_X12_writes_at_129 := am_ok' (T := ta_X12_writes_at_129) (B := bl_X12_writes_at_129) (cs := cz_X12_writes_at_129) vm_X12_writes cv_X12_writes_at_129 (by decide +kernel) ch_X12_writes_at_129 ck_X12_writes_at_129
def cc_X12_writes_at_130 : aC := (267, 1, [(2, 0, 0, 12), (0, 48, 57, 1)], none, [], 0, [106, 52012], [((2, 590, 51), 0, 130)], [], [((2, 590, 51), 0, 131)])
def ta_X12_writes_at_130 : List aL := [(0, ([(0, ((2, 0, 0, 12), (0, 0, 0), (0, 0), [])), (1, ((0, 48, 57, 1), (0, 0, 0), (0, 0), []))], [], [((2, 590, 51), 0, 130)]), 0, [])]
def bl_X12_writes_at_130 : List aB := [(0, vb_X12_writes_0, none)]
def cz_X12_writes_at_130 : List (Nat × aC) := []
theorem ck_X12_writes_at_130 : csOK cz_X12_writes_at_130 := trivial
theorem cv_X12_writes_at_130 : blOK kd_X12_writes bl_X12_writes_at_130 := ⟨ve_X12_writes_0, trivial⟩
theorem ch_X12_writes_at_130 : amchk ta_X12_writes_at_130 bl_X12_writes_at_130 cz_X12_writes_at_130 cc_X12_writes_at_130 = true := by decide +kernel
theorem ct_X12_writes_at_130 : CtOK cc_X12_writes_at_130 := am_ok' (T := ta_X12_writes_at_130) (B := bl_X12_writes_at_130) (cs := cz_X12_writes_at_130) vm_X12_writes cv_X12_writes_at_130 (by decide +kernel) ch_X12_writes_at_130 ck_X12_writes_at_130
def cc_X12_writes_at_131 : aC := (267, 1, [(2, 0, 0, 12), (0, 48, 57, 1)], none, [], 0, [106, 52012], [((2, 590, 51), 0, 131)], [], [((2, 590, 51), 0, 132)])
def ta_X12_writes_at_131 : List aL := [(0, ([(0, ((2, 0, 0, 12), (0, 0, 0), (0, 0), [])), (1, ((0, 48, 57, 1), (0, 0, 0), (0, 0), []))], [], [((2, 590, 51), 0, 131)]), 0, [])]
def bl_X12_writes_at_131 : List aB := [(0, vb_X12_writes_0, none)]
def cz_X12_writes_at_131 : List (Nat × aC) := []
theorem ck_X12_writes_at_131 : csOK cz_X12_writes_at_131 := trivial
theorem cv_X12_writes_at_131 : blOK kd_X12_writes bl_X12_writes_at_131 := ⟨ve_X12_writes_0, trivial⟩
theorem ch_X12_writes_at_131 : amchk ta_X12_writes_at_131 bl_X12_writes_at_131 cz_X12_writes_at_131 cc_X12_writes_at_131 = true := by decide +kernel
theorem ct_X12_writes_at_131 : CtOK cc_X12_writes_at_131 := am_ok' (T := ta_X12_writes_at_131) (B := bl_X12_writes_at_131) (cs := cz_X12_writes_at_131) vm_X12_writes cv_X12_writes_at_131 (by decide +kernel) ch_X12_writes_at_131 ck_X12_writes_at_131
def cc_X12_writes_at_132 : aC := (267, 1, [(2, 0, 0, 12), (0, 48, 57, 1)], none, [], 0, [106, 52012], [((2, 590, 51), 0, 132)], [], [((2, 590, 51), 0, 133)])
def ta_X12_writes_at_132 : List aL := [(0, ([(0, ((2, 0, 0, 12), (0, 0, 0), (0, 0), [])), (1, ((0, 48, 57, 1), (0, 0, 0), (0, 0), []))], [], [((2, 590, 51), 0, 132)]), 0, [])]
def bl_X12_writes_at_132 : List aB := [(0, vb_X12_writes_0, none)]
def cz_X12_writes_at_132 : List (Nat × aC) := []
theorem ck_X12_writes_at_132 : csOK cz_X12_writes_at_132 := trivial
theorem cv_X12_writes_at_132 : blOK kd_X12_writes bl_X12_writes_at_132 := ⟨ve_X12_writes_0, trivial⟩
theorem ch_X12_writes_at_132 : amchk ta_X12_writes_at_132 bl_X12_writes_at_132 cz_X12_writes_at_132 cc_X12_writes_at_132 = true := by decide +kernel
theorem ct_X12_writes_at_132 : CtOK cc_X12_writes_at_132 := am_ok' (T := ta_X12_writes_at_132) (B := bl_X12_writes_at_132) (cs := cz_X12_writes_at_132) vm_X12_writes cv_X12_writes_at_132 (by decide +kernel) ch_X12_writes_at_132 ck_X12_writes_at_132
def cc_X12_writes_at_134 : aC := (267, 1, [(2, 0, 0, 12), (0, 42, 42, 0)], none, [], 0, [106, 52012], [((2, 590, 51), 0, 134)], [], [((2, 590, 51), 0, 135)])
def ta_X12_writes_at_134 : List aL := [(0, ([(0, ((2, 0, 0, 12), (0, 0, 0), (0, 0), [])), (1, ((0, 42, 42, 0), (0, 0, 0), (0, 0), []))], [], [((2, 590, 51), 0, 134)]), 0, [])]
def bl_X12_writes_at_134 : List aB := [(0, vb_X12_writes_0, none)]
def cz_X12_writes_at_134 : List (Nat × aC) := []
theorem ck_X12_writes_at_134 : csOK cz_X12_writes_at_134 := trivial
theorem cv_X12_writes_at_134 : blOK kd_X12_writes bl_X12_writes_at_134 := ⟨ve_X12_writes_0, trivial⟩
theorem ch_X12_writes_at_134 : amchk ta_X12_writes_at_134 bl_X12_writes_at_134 cz_X12_writes_at_134 cc_X12_writes_at_134 = true := by decide +kernel
theorem ct_X12_writes_at_134 : CtOK cc_X12_writes_at_134 := am_ok' (T := ta_X12_writes_at_134) (B := bl_X12_writes_at_134) (cs := cz_X12_writes_at_134) vm_X12_writes cv_X12_writes_at_134 (by decide +kernel) ch_X12_writes_at_134 ck_X12_writes_at_134
def cc_X12_writes_at_135 : aC := (267, 1, [(2, 0, 0, 12), (0, 48, 57, 1)], none, [], 0, [106, 52012], [((2, 590, 51), 0, 135)], [], [((2, 590, 51), 0, 136)])
def ta_X12_writes_at_135 : List aL := [(0, ([(0, ((2, 0, 0, 12), (0, 0, 0), (0, 0), [])), (1, ((0, 48, 57, 1), (0, 0, 0), (0, 0), []))], [], [((2, 590, 51), 0, 135)]), 0, [])]
def bl_X12_writes_at_135 : List aB := [(0, vb_X12_writes_0, none)]
def cz_X12_writes_at_135 : List (Nat × aC) := []
theorem ck_X12_writes_at_135 : csOK cz_X12_writes_at_135 := trivial
theorem cv_X12_writes_at_135 : blOK kd_X12_writes bl_X12_writes_at_135 := ⟨ve_X12_writes_0, trivial⟩
theorem ch_X12_writes_at_135 : amchk ta_X12_writes_at_135 bl_X12_writes_at_135 cz_X12_writes_at_135 cc_X12_writes_at_135 = true := by decide +kernel
theorem ct_X12_writes_at_135 : CtOK cc_X12_writes_at_135 := am_ok' (T := ta_X12_writes_at_135) (B := bl_X12_writes_at_135) (cs := cz_X12_writes_at_135) vm_X12_writes cv_X12_writes_at_135 (by decide +kernel) ch_X12_writes_at_135 ck_X12_writes_at_135
def cc_X12_writes_at_136 : aC := (267, 1, [(2, 0, 0, 12), (0, 48, 57, 1)], none, [], 0, [106, 52012], [((2, 590, 51), 0, 136)], [], [((2, 590, 51), 0, 137)])
def ta_X12_writes_at_136 : List aL := [(0, ([(0, ((2, 0, 0, 12), (0, 0, 0), (0, 0), [])), (1, ((0, 48, 57, 1), (0, 0, 0), (0, 0), []))], [], [((2, 590, 51), 0, 136)]), 0, [])]
def bl_X12_writes_at_136 : List aB := [(0, vb_X12_writes_0, none)]
def cz_X12_writes_at_136 : List (Nat × aC) := []
theorem ck_X12_writes_at_136 : csOK cz_X12_writes_at_136 := trivial
theorem cv_X12_writes_at_136 : blOK kd_X12_writes bl_X12_writes_at_136 := ⟨ve_X12_writes_0, trivial⟩
theorem ch_X12_writes_at_136 : amchk ta_X12_writes_at_136 bl_X12_writes_at_136 cz_X12_writes_at_136 cc_X12_writes_at_136 = true := by decide +kernel
theorem ct_X12_writes_at_136 : CtOK cc_X12_writes_at_136 := am_ok' (T := ta_X12_writes_at_136) (B := bl_X12_writes_at_136) (cs := cz_X12_writes_at_136) vm_X12_writes cv_X12_writes_at_136 (by decide +kernel) ch_X12_writes_at_136 ck_X12_writes_at_136
def cc_X12_writes_at_137 : aC := (267, 1, [(2, 0, 0, 12), (0, 48, 57, 1)], none, [], 0, [106, 52012], [((2, 590, 51), 0, 137)], [], [((2, 590, 51), 0, 138)])
def ta_X12_writes_at_137 : List aL := [(0, ([(0, ((2, 0, 0, 12), (0, 0, 0), (0, 0), [])), (1, ((0, 48, 57, 1), (0, 0, 0), (0, 0), []))], [], [((2, 590, 51), 0, 137)]), 0, [])]
def bl_X12_writes_at_137 : List aB := [(0, vb_X12_writes_0, none)]
def cz_X12_writes_at_137 : List (Nat × aC) := []
theorem ck_X12_writes_at_137 : csOK cz_X12_writes_at_137 := trivial
theorem cv_X12_writes_at_137 : blOK kd_X12_writes bl_X12_writes_at_137 := ⟨ve_X12_writes_0, trivial⟩
theorem ch_X12_writes_at_137 : amchk ta_X12_writes_at_137 bl_X12_writes_at_137 cz_X12_writes_at_137 cc_X12_writes_at_137 = true := by decide +kernel
theorem ct_X12_writes_at_137 : CtOK cc_X12_writes_at_137 := am_ok' (T := ta_X12_writes_at_137) (B := bl_X12_writes_at_137) (cs := cz_X12_writes_at_137) vm_X12_writes cv_X12_writes_at_137 (by decide +kernel) ch_X12_writes_at_137 ck_X12_writes_at_137
def cc_X12_writes_at_138 : aC := (267, 1, [(2, 0, 0, 12), (0, 48, 57, 1)], none, [], 0, [106, 52012], [((2, 590, 51), 0, 138)], [], [((2, 590, 51), 0, 139)])
def ta_X12_writes_at_138 : List aL := [(0, ([(0, ((2, 0, 0, 12), (0, 0, 0), (0, 0), [])), (1, ((0, 48, 57, 1), (0, 0, 0), (0, 0), []))], [], [((2, 590, 51), 0, 138)]), 0, [])]
def bl_X12_writes_at_138 : List aB := [(0, vb_X12_writes_0, none)]
def cz_X12_writes_at_138 : List (Nat × aC) := []
theorem ck_X12_writes_at_138 : csOK cz_X12_writes_at_138 := trivial
theorem cv_X12_writes_at_138 : blOK kd_X12_writes bl_X12_writes_at_138 := ⟨ve_X12_writes_0, trivial⟩
theorem ch_X12_writes_at_138 : amchk ta_X12_writes_at_138 bl_X12_writes_at_138 cz_X12_writes_at_138 cc_X12_writes_at_138 = true := by decide +kernel
theorem ct_X12_writes_at_138 : CtOK cc_X12_writes_at_138 := am_ok' (T := ta_X12_writes_at_138) (B := bl_X12_writes_at_138) (cs := cz_X12_writes_at_138) vm_X12_writes cv_X12_writes_at_138 (by decide +kernel) ch_X12_writes_at_138 ck_X12_writes_at_138
def cc_X12_writes_at_139 : aC := (267, 1, [(2, 0, 0, 12), (0, 59, 59, 0)], none, [], 0, [106, 52012], [((2, 590, 51), 0, 139)], [], [((2, 590, 51), 0, 140)])
def ta_X12_writes_at_139 : List aL := [(0, ([(0, ((2, 0, 0, 12), (0, 0, 0), (0, 0), [])), (1, ((0, 59, 59, 0), (0, 0, 0), (0, 0), []))], [], [((2, 590, 51), 0, 139)]), 0, [])]
def bl_X12_writes_at_139 : List aB := [(0, vb_X12_writes_0, none)]
def cz_X12_writes_at_139 : List (Nat × aC) := []
theorem ck_X12_writes_at_139 : csOK cz_X12_writes_at_139 := trivial
theorem cv_X12_writes_at_139 : blOK kd_X12_writes bl_X12_writes_at_139 := ⟨ve_X12_writes_0, trivial⟩
theorem ch_X12_writes_at_139 : amchk ta_X12_writes_at_139 bl_X12_writes_at_139 cz_X12_writes_at_139 cc_X12_writes_at_139 = true := by decide +kernel
theorem ct_X12_writes_at_139 : CtOK cc_X12_writes_at_139 := am_ok' (T := ta_X12_writes_at_139) (B := bl_X12_writes_at_139) (cs := cz_X12_writes_at_139) vm_X12_writes cv_X12_writes_at_139 (by decide +kernel) ch_X12_writes_at_139 ck_X12_writes_at_139
def cc_X12_writes_at_14 : aC := (267, 1, [(2, 0, 0, 12), (0, 42, 42, 0)], none, [], 0, [106, 52012], [((2, 590, 51), 0, 14)], [], [((2, 590, 51), 0, 15)])
def ta_X12_writes_at_14 : List aL := [(0, ([(0, ((2, 0, 0, 12), (0, 0, 0), (0, 0), [])), (1, ((0, 42, 42, 0), (0, 0, 0), (0, 0), []))], [], [((2, 590, 51), 0, 14)]), 0, [])]
def bl_X12_writes_at_14 : List aB := [(0, vb_X12_writes_0, none)]
def cz_X12_writes_at_14 : List (Nat × aC) := []
theorem ck_X12_writes_at_14 : csOK cz_X12_writes_at_14 := trivial
theorem cv_X12_writes_at_14 : blOK kd_X12_writes bl_X12_writes_at_14 := ⟨ve_X12_writes_0, trivial⟩
theorem ch_X12_writes_at_14 : amchk ta_X12_writes_at_14 bl_X12_writes_at_14 cz_X12_writes_at_14 cc_X12_writes_at_14 = true := by decide +kernel
theorem ct_X12_writes_at_14 : CtOK cc_X12_writes_at_14 := am_ok' (T := ta_X12_writes_at_14) (B := bl_X12_writes_at_14) (cs := cz_X12_writes_at_14) vm_X12_writes cv_X12_writes_at_14 (by decide +kernel) ch_X12_writes_at_14 ck_X12_writes_at_14
def cc_X12_writes_at_140 : aC := (267, 1, [(2, 0, 0, 12), (0, 98, 98, 0)], none, [], 0, [106, 52012], [((2, 590, 51), 0, 140)], [], [((2, 590, 51), 0, 141)])
def ta_X12_writes_at_140 : List aL := [(0, ([(0, ((2, 0, 0, 12), (0, 0, 0), (0, 0), [])), (1, ((0, 98, 98, 0), (0, 0, 0), (0, 0), []))], [], [((2, 590, 51), 0, 140)]), 0, [])]
def bl_X12_writes_at_140 : List aB := [(0, vb_X12_writes_0, none)]
def cz_X12_writes_at_140 : List (Nat × aC) := []
theorem ck_X12_writes_at_140 : csOK cz_X12_writes_at_140 := trivial
theorem cv_X12_writes_at_140 : blOK kd_X12_writes bl_X12_writes_at_140 := ⟨ve_X12_writes_0, trivial⟩
theorem ch_X12_writes_at_140 : amchk ta_X12_writes_at_140 bl_X12_writes_at_140 cz_X12_writes_at_140 cc_X12_writes_at_140 = true := by decide +kernel
theorem ct_X12_writes_at_140 : CtOK cc_X12_writes_at_140 := am_ok' (T := ta_X12_writes_at_140) (B := bl_X12_writes_at_140) (cs := cz_X12_writes_at_140) vm_X12_writes cv_X12_writes_at_140 (by decide +kernel) ch_X12_writes_at_140 ck_X12_writes_at_140
def cc_X12_writes_at_141 : aC := (267, 1, [(2, 0, 0, 12), (0, -2147483648, 2147483647, 1)], none, [], 0, [106, 52012], [((2, 590, 51), 0, 141)], [], [((2, 590, 51), 0, 142)])
def ta_X12_writes_at_141 : List aL := [(0, ([(0, ((2, 0, 0, 12), (0, 0, 0), (0, 0), [])), (1, ((0, -2147483648, 2147483647, 1), (0, 0, 0), (0, 0), []))], [], [((2, 590, 51), 0, 141)]), 0, [])]
def bl_X12_writes_at_141 : List aB := [(0, vb_X12_writes_0, none)]
def cz_X12_writes_at_141 : List (Nat × aC) := []
theorem ck_X12_writes_at_141 : csOK cz_X12_writes_at_141 := trivial
theorem cv_X12_writes_at_141 : blOK kd_X12_writes bl_X12_writes_at_141 := ⟨ve_X12_writes_0, trivial⟩
theorem ch_X12_writes_at_141 : amchk ta_X12_writes_at_141 bl_X12_writes_at_141 cz_X12_writes_at_141 cc_X12_writes_at_141 = true := by decide +kernel
theorem ct_X12_writes_at_141 : CtOK cc_X12_writes_at_141 := am_ok' (T := ta_X12_writes_at_141) (B := bl_X12_writes_at_141) (cs := cz_X12_writes_at_141) vm_X12_writes cv_X12_writes_at_141 (by decide +kernel) ch_X12_writes_at_141 ck_X12_writes_at_141
def cc_X12_writes_at_142 : aC := (267, 1, [(2, 0, 0, 12), (0, -2147483648, 2147483647, 1)], none, [], 0, [106, 52012], [((2, 590, 51), 0, 142)], [], [((2, 590, 51), 0, 143)])
def ta_X12_writes_at_142 : List aL := [(0, ([(0, ((2, 0, 0, 12), (0, 0, 0), (0, 0), [])), (1, ((0, -2147483648, 2147483647, 1), (0, 0, 0), (0, 0), []))], [], [((2, 590, 51), 0, 142)]), 0, [])]
def bl_X12_writes_at_142 : List aB := [(0, vb_X12_writes_0, none)]
def cz_X12_writes_at_142 : List (Nat × aC) := []
theorem ck_X12_writes_at_142 : csOK cz_X12_writes_at_142 := trivial
theorem cv_X12_writes_at_142 : blOK kd_X12_writes bl_X12_writes_at_142 := ⟨ve_X12_writes_0, trivial⟩
theorem ch_X12_writes_at_142 : amchk ta_X12_writes_at_142 bl_X12_writes_at_142 cz_X12_writes_at_142 cc_X12_writes_at_142 = true := by decide +kernel
theorem ct_X12_writes_at_142 : CtOK cc_X12_writes_at_142 := am_ok' (T := ta_X12_writes_at_142) (B := bl_X12_writes_at_142) (cs := cz_X12_writes_at_142) vm_X12_writes cv_X12_writes_at_142 (by decide +kernel) ch_X12_writes_at_142 ck_X12_writes_at_142
def cc_X12_writes_at_143 : aC := (267, 1, [(2, 0, 0, 12), (0, -2147483648, 2147483647, 1)], none, [], 0, [106, 52012], [((2, 590, 51), 0, 143)], [], [((2, 590, 51), 0, 144)])
def ta_X12_writes_at_143 : List aL := [(0, ([(0, ((2, 0, 0, 12), (0, 0, 0), (0, 0), [])), (1, ((0, -2147483648, 2147483647, 1), (0, 0, 0), (0, 0), []))], [], [((2, 590, 51), 0, 143)]), 0, [])]
def bl_X12_writes_at_143 : List aB := [(0, vb_X12_writes_0, none)]
def cz_X12_writes_at_143 : List (Nat × aC) := []
theorem ck_X12_writes_at_143 : csOK cz_X12_writes_at_143 := trivial
theorem cv_X12_writes_at_143 : blOK kd_X12_writes bl_X12_writes_at_143 := ⟨ve_X12_writes_0, trivial⟩
theorem ch_X12_writes_at_143 : amchk ta_X12_writes_at_143 bl_X12_writes_at_143 cz_X12_writes_at_143 cc_X12_writes_at_143 = true := by decide +kernel
theorem ct_X12_writes_at_143 : CtOK cc_X12_writes_at_143 := am_ok' (T := ta_X12_writes_at_143) (B := bl_X12_writes_at_143) (cs := cz_X12_writes_at_143) vm_X12_writes cv_X12_writes_at_143 (by decide +kernel) ch_X12_writes_at_143 ck_X12_writes_at_143
def cc_X12_writes_at_144 : aC := (267, 1, [(2, 0, 0, 12), (0, -2147483648, 2147483647, 1)], none, [], 0, [106, 52012], [((2, 590, 51), 0, 144)], [], [((2, 590, 51), 0, 145)])
def ta_X12_writes_at_144 : List aL := [(0, ([(0, ((2, 0, 0, 12), (0, 0, 0), (0, 0), [])), (1, ((0, -2147483648, 2147483647, 1), (0, 0, 0), (0, 0), []))], [], [((2, 590, 51), 0, 144)]), 0, [])]
def bl_X12_writes_at_144 : List aB := [(0, vb_X12_writes_0, none)]
def cz_X12_writes_at_144 : List (Nat × aC) := []
theorem ck_X12_writes_at_144 : csOK cz_X12_writes_at_144 := trivial
theorem cv_X12_writes_at_144 : blOK kd_X12_writes bl_X12_writes_at_144 := ⟨ve_X12_writes_0, trivial⟩
theorem ch_X12_writes_at_144 : amchk ta_X12_writes_at_144 bl_X12_writes_at_144 cz_X12_writes_at_144 cc_X12_writes_at_144 = true := by decide +kernel
theorem ct_X12_writes_at_144 : CtOK cc_X12_writes_at_144 := am_ok' (T := ta_X12_writes_at_144) (B := bl_X12_writes_at_144) (cs := cz_X12_writes_at_144) vm_X12_writes cv_X12_writes_at_144 (by decide +kernel) ch_X12_writes_at_144 ck_X12_writes_at_144
def cc_X12_writes_at_145 : aC := (267, 1, [(2, 0, 0, 12), (0, -2147483648, 2147483647, 1)], none, [], 0, [106, 52012], [((2, 590, 51), 0, 145)], [], [((2, 590, 51), 0, 146)])
def ta_X12_writes_at_145 : List aL := [(0, ([(0, ((2, 0, 0, 12), (0, 0, 0), (0, 0), [])), (1, ((0, -2147483648, 2147483647, 1), (0, 0, 0), (0, 0), []))], [], [((2, 590, 51), 0, 145)]), 0, [])]
def bl_X12_writes_at_145 : List aB := [(0, vb_X12_writes_0, none)]
def cz_X12_writes_at_145 : List (Nat × aC) := []
theorem ck_X12_writes_at_145 : csOK cz_X12_writes_at_145 := trivial
theorem cv_X12_writes_at_145 : blOK kd_X12_writes bl_X12_writes_at_145 := ⟨ve_X12_writes_0, trivial⟩
theorem ch_X12_writes_at_145 : amchk ta_X12_writes_at_145 bl_X12_writes_at_145 cz_X12_writes_at_145 cc_X12_writes_at_145 = true := by decide +kernel
theorem ct_X12_writes_at_145 : CtOK cc_X12_writes_at_145 := am_ok' (T := ta_X12_writes_at_145) (B := bl_X12_writes_at_145) (cs := cz_X12_writes_at_145) vm_X12_writes cv_X12_writes_at_145 (by decide +kernel) ch_X12_writes_at_145 ck_X12_writes_at_145
def cc_X12_writes_at_146 : aC := (267, 1, [(2, 0, 0, 12), (0, -2147483648, 2147483647, 1)], none, [], 0, [106, 52012], [((2, 590, 51), 0, 146)], [], [((2, 590, 51), 0, 147)])
def ta_X12_writes_at_146 : List aL := [(0, ([(0, ((2, 0, 0, 12), (0, 0, 0), (0, 0), [])), (1, ((0, -2147483648, 2147483647, 1), (0, 0, 0), (0, 0), []))], [], [((2, 590, 51), 0, 146)]), 0, [])]
def bl_X12_writes_at_146 : List aB := [(0, vb_X12_writes_0, none)]
def cz_X12_writes_at_146 : List (Nat × aC) := []
theorem ck_X12_writes_at_146 : csOK cz_X12_writes_at_146 := trivial
theorem cv_X12_writes_at_146 : blOK kd_X12_writes bl_X12_writes_at_146 := ⟨ve_X12_writes_0, trivial⟩
theorem ch_X12_writes_at_146 : amchk ta_X12_writes_at_146 bl_X12_writes_at_146 cz_X12_writes_at_146 cc_X12_writes_at_146 = true := by decide +kernel
theorem ct_X12_writes_at_146 : CtOK cc_X12_writes_at_146 := am_ok' (T := ta_X12_writes_at_146) (B := bl_X12_writes_at_146) (cs := cz_X12_writes_at_146) vm_X12_writes cv_X12_writes_at_146 (by decide +kernel) ch_X12_writes_at_146 ck_X12_writes_at_146
def cc_X12_writes_at_147 : aC := (267, 1, [(2, 0, 0, 12), (0, -2147483648, 2147483647, 1)], none, [], 0, [106, 52012], [((2, 590, 51), 0, 147)], [], [((2, 590, 51), 0, 148)])
def ta_X12_writes_at_147 : List aL := [(0, ([(0, ((2, 0, 0, 12), (0, 0, 0), (0, 0), [])), (1, ((0, -2147483648, 2147483647, 1), (0, 0, 0), (0, 0), []))], [], [((2, 590, 51), 0, 147)]), 0, [])]
def bl_X12_writes_at_147 : List aB := [(0, vb_X12_writes_0, none)]
def cz_X12_writes_at_147 : List (Nat × aC) := []
theorem ck_X12_writes_at_147 : csOK cz_X12_writes_at_147 := trivial
theorem cv_X12_writes_at_147 : blOK kd_X12_writes bl_X12_writes_at_147 := ⟨ve_X12_writes_0, trivial⟩
theorem ch_X12_writes_at_147 : amchk ta_X12_writes_at_147 bl_X12_writes_at_147 cz_X12_writes_at_147 cc_X12_writes_at_147 = true := by decide +kernel
theorem ct_X12_writes_at_147 : CtOK cc_X12_writes_at_147 := am_ok' (T := ta_X12_writes_at_147) (B := bl_X12_writes_at_147) (cs := cz_X12_writes_at_147) vm_X12_writes cv_X12_writes_at_147 (by decide +kernel) ch_X12_writes_at_147 ck_X12_writes_at_147
def cc_X12_writes_at_148 : aC := (267, 1, [(2, 0, 0, 12), (0, -2147483648, 2147483647, 1)], none, [], 0, [106, 52012], [((2, 590, 51), 0, 148)], [], [((2, 590, 51), 0, 149)])
def ta_X12_writes_at_148 : List aL := [(0, ([(0, ((2, 0, 0, 12), (0, 0, 0), (0, 0), [])), (1, ((0, -2147483648, 2147483647, 1), (0, 0, 0), (0, 0), []))], [], [((2, 590, 51), 0, 148)]), 0, [])]
def bl_X12_writes_at_148 : List aB := [(0, vb_X12_writes_0, none)]
def cz_X12_writes_at_148 : List (Nat × aC) := []
theorem ck_X12_writes_at_148 : csOK cz_X12_writes_at_148 := trivial
theorem cv_X12_writes_at_148 : blOK kd_X12_writes bl_X12_writes_at_148 := ⟨ve_X12_writes_0, trivial⟩
theorem ch_X12_writes_at_148 : amchk ta_X12_writes_at_148 bl_X12_writes_at_148 cz_X12_writes_at_148 cc_X12_writes_at_148 = true := by decide +kernel
theorem ct_X12_writes_at_148 : CtOK cc_X12_writes_at_148 := am_ok' (T := ta_X12_writes_at_148) (B := bl_X12_writes_at_148) (cs := cz_X12_writes_at_148) vm_X12_writes cv_X12_writes_at_148 (by decide +kernel) ch_X12_writes_at_148 ck_X12_writes_at_148
def cc_X12_writes_at_149 : aC := (267, 1, [(2, 0, 0, 12), (0, 58, 58, 0)], none, [], 0, [106, 52012], [((2, 590, 51), 0, 149)], [], [((2, 590, 51), 0, 150)])
def ta_X12_writes_at_149 : List aL := [(0, ([(0, ((2, 0, 0, 12), (0, 0, 0), (0, 0), [])), (1, ((0, 58, 58, 0), (0, 0, 0), (0, 0), []))], [], [((2, 590, 51), 0, 149)]), 0, [])]
def bl_X12_writes_at_149 : List aB := [(0, vb_X12_writes_0, none)]
def cz_X12_writes_at_149 : List (Nat × aC) := []
theorem ck_X12_writes_at_149 : csOK cz_X12_writes_at_149 := trivial
theorem cv_X12_writes_at_149 : blOK kd_X12_writes bl_X12_writes_at_149 := ⟨ve_X12_writes_0, trivial⟩
theorem ch_X12_writes_at_149 : amchk ta_X12_writes_at_149 bl_X12_writes_at_149 cz_X12_writes_at_149 cc_X12_writes_at_149 = true := by decide +kernel
theorem ct_X12_writes_at_149 : CtOK cc_X12_writes_at_149 := am_ok' (T := ta_X12_writes_at_149) (B := bl_X12_writes_at_149) (cs := cz_X12_writes_at_149) vm_X12_writes cv_X12_writes_at_149 (by decide +kernel) ch_X12_writes_at_149 ck_X12_writes_at_149
def cc_X12_writes_at_15 : aC := (267, 1, [(2, 0, 0, 12), (0, 48, 57, 1)], none, [], 0, [106, 52012], [((2, 590, 51), 0, 15)], [], [((2, 590, 51), 0, 16)])
def ta_X12_writes_at_15 : List aL := [(0, ([(0, ((2, 0, 0, 12), (0, 0, 0), (0, 0), [])), (1, ((0, 48, 57, 1), (0, 0, 0), (0, 0), []))], [], [((2, 590, 51), 0, 15)]), 0, [])]
def bl_X12_writes_at_15 : List aB := [(0, vb_X12_writes_0, none)]
def cz_X12_writes_at_15 : List (Nat × aC) := []
theorem ck_X12_writes_at_15 : csOK cz_X12_writes_at_15 := trivial
theorem cv_X12_writes_at_15 : blOK kd_X12_writes bl_X12_writes_at_15 := ⟨ve_X12_writes_0, trivial⟩
theorem ch_X12_writes_at_15 : amchk ta_X12_writes_at_15 bl_X12_writes_at_15 cz_X12_writes_at_15 cc_X12_writes_at_15 = true := by decide +kernel
theorem ct_X12_writes_at_15 : CtOK cc_X12_writes_at_15 := am_ok' (T := ta_X12_writes_at_15) (B := bl_X12_writes_at_15) (cs := cz_X12_writes_at_15) vm_X12_writes cv_X12_writes_at_15 (by decide +kernel) ch_X12_writes_at_15 ck_X12_writes_at_15
def cc_X12_writes_at_150 : aC := (267, 1, [(2, 0, 0, 12), (0, 48, 57, 1)], none, [], 0, [106, 52012], [((2, 590, 51), 0, 150)], [], [((2, 590, 51), 0, 151)])
def ta_X12_writes_at_150 : List aL := [(0, ([(0, ((2, 0, 0, 12), (0, 0, 0), (0, 0), [])), (1, ((0, 48, 57, 1), (0, 0, 0), (0, 0), []))], [], [((2, 590, 51), 0, 150)]), 0, [])]
def bl_X12_writes_at_150 : List aB := [(0, vb_X12_writes_0, none)]
def cz_X12_writes_at_150 : List (Nat × aC) := []
theorem ck_X12_writes_at_150 : csOK cz_X12_writes_at_150 := trivial
theorem cv_X12_writes_at_150 : blOK kd_X12_writes bl_X12_writes_at_150 := ⟨ve_X12_writes_0, trivial⟩
theorem ch_X12_writes_at_150 : amchk ta_X12_writes_at_150 bl_X12_writes_at_150 cz_X12_writes_at_150 cc_X12_writes_at_150 = true := by decide +kernel
theorem ct_X12_writes_at_150 : CtOK cc_X12_writes_at_150 := am_ok' (T := ta_X12_writes_at_150) (B := bl_X12_writes_at_150) (cs := cz_X12_writes_at_150) vm_X12_writes cv_X12_writes_at_150 (by decide +kernel) ch_X12_writes_at_150 ck_X12_writes_at_150
def cc_X12_writes_at_151 : aC := (267, 1, [(2, 0, 0, 12), (0, 48, 57, 1)], none, [], 0, [106, 52012], [((2, 590, 51), 0, 151)], [], [((2, 590, 51), 0, 152)])
def ta_X12_writes_at_151 : List aL := [(0, ([(0, ((2, 0, 0, 12), (0, 0, 0), (0, 0), [])), (1, ((0, 48, 57, 1), (0, 0, 0), (0, 0), []))], [], [((2, 590, 51), 0, 151)]), 0, [])]
def bl_X12_writes_at_151 : List aB := [(0, vb_X12_writes_0, none)]
def cz_X12_writes_at_151 : List (Nat × aC) := []
theorem ck_X12_writes_at_151 : csOK cz_X12_writes_at_151 := trivial
theorem cv_X12_writes_at_151 : blOK kd_X12_writes bl_X12_writes_at_151 := ⟨ve_X12_writes_0, trivial⟩
theorem ch_X12_writes_at_151 : amchk ta_X12_writes_at_151 bl_X12_writes_at_151 cz_X12_writes_at_151 cc_X12_writes_at_151 = true := by decide +kernel
theorem ct_X12_writes_at_151 : CtOK cc_X12_writes_at_151 := am_ok' (T := ta_X12_writes_at_151) (B := bl_X12_writes_at_151) (cs := cz_X12_writes_at_151) vm_X12_writes cv_X12_writes_at_151 (by decide +kernel) ch_X12_writes_at_151 ck_X12_writes_at_151
def cc_X12_writes_at_152 : aC := (267, 1, [(2, 0, 0, 12), (0, 48, 57, 1)], none, [], 0, [106, 52012], [((2, 590, 51), 0, 152)], [], [((2, 590, 51), 0, 153)])
def ta_X12_writes_at_152 : List aL := [(0, ([(0, ((2, 0, 0, 12), (0, 0, 0), (0, 0), [])), (1, ((0, 48, 57, 1), (0, 0, 0), (0, 0), []))], [], [((2, 590, 51), 0, 152)]), 0, [])]
def bl_X12_writes_at_152 : List aB := [(0, vb_X12_writes_0, none)]
def cz_X12_writes_at_152 : List (Nat × aC) := []
theorem ck_X12_writes_at_152 : csOK cz_X12_writes_at_152 := trivial
theorem cv_X12_writes_at_152 : blOK kd_X12_writes bl_X12_writes_at_152 := ⟨ve_X12_writes_0, trivial⟩
theorem ch_X12_writes_at_152 : amchk ta_X12_writes_at_152 bl_X12_writes_at_152 cz_X12_writes_at_152 cc_X12_writes_at_152 = true := by decide +kernel
theorem ct_X12_writes_at_152 : CtOK cc_X12_writes_at_152 := am_ok' (T := ta_X12_writes_at_152) (B := bl_X12_writes_at_152) (cs := cz_X12_writes_at_152) vm_X12_writes cv_X12_writes_at_152 (by decide +kernel) ch_X12_writes_at_152 ck_X12_writes_at_152
def cc_X12_writes_at_154 : aC := (267, 1, [(2, 0, 0, 12), (0, 42, 42, 0)], none, [], 0, [106, 52012], [((2, 590, 51), 0, 154)], [], [((2, 590, 51), 0, 155)])
def ta_X12_writes_at_154 : List aL := [(0, ([(0, ((2, 0, 0, 12), (0, 0, 0), (0, 0), [])), (1, ((0, 42, 42, 0), (0, 0, 0), (0, 0), []))], [], [((2, 590, 51), 0, 154)]), 0, [])]
def bl_X12_writes_at_154 : List aB := [(0, vb_X12_writes_0, none)]
def cz_X12_writes_at_154 : List (Nat × aC) := []
theorem ck_X12_writes_at_154 : csOK cz_X12_writes_at_154 := trivial
theorem cv_X12_writes_at_154 : blOK kd_X12_writes bl_X12_writes_at_154 := ⟨ve_X12_writes_0, trivial⟩
theorem ch_X12_writes_at_154 : amchk ta_X12_writes_at_154 bl_X12_writes_at_154 cz_X12_writes_at_154 cc_X12_writes_at_154 = true := by decide +kernel
theorem ct_X12_writes_at_154 : CtOK cc_X12_writes_at_154 := am_ok' (T := ta_X12_writes_at_154) (B := bl_X12_writes_at_154) (cs := cz_X12_writes_at_154) vm_X12_writes cv_X12_writes_at_154 (by decide +kernel) ch_X12_writes_at_154 ck_X12_writes_at_154
def cc_X12_writes_at_155 : aC := (267, 1, [(2, 0, 0, 12), (0, 48, 57, 1)], none, [], 0, [106, 52012], [((2, 590, 51), 0, 155)], [], [((2, 590, 51), 0, 156)])
def ta_X12_writes_at_155 : List aL := [(0, ([(0, ((2, 0, 0, 12), (0, 0, 0), (0, 0), [])), (1, ((0, 48, 57, 1), (0, 0, 0), (0, 0), []))], [], [((2, 590, 51), 0, 155)]), 0, [])]
def bl_X12_writes_at_155 : List aB := [(0, vb_X12_writes_0, none)]
def cz_X12_writes_at_155 : List (Nat × aC) := []
theorem ck_X12_writes_at_155 : csOK cz_X12_writes_at_155 := trivial
theorem cv_X12_writes_at_155 : blOK kd_X12_writes bl_X12_writes_at_155 := ⟨ve_X12_writes_0, trivial⟩
theorem ch_X12_writes_at_155 : amchk ta_X12_writes_at_155 bl_X12_writes_at_155 cz_X12_writes_at_155 cc_X12_writes_at_155 = true := by decide +kernel
theorem ct_X12_writes_at_155 : CtOK cc_X12_writes_at_155 := am_ok' (T := ta_X12_writes_at_155) (B := bl_X12_writes_at_155) (cs := cz_X12_writes_at_155) vm_X12_writes cv_X12_writes_at_155 (by decide +kernel) ch_X12_writes_at_155 ck_X12_writes_at_155
def cc_X12_writes_at_156 : aC := (267, 1, [(2, 0, 0, 12), (0, 48, 57, 1)], none, [], 0, [106, 52012], [((2, 590, 51), 0, 156)], [], [((2, 590, 51), 0, 157)])
def ta_X12_writes_at_156 : List aL := [(0, ([(0, ((2, 0, 0, 12), (0, 0, 0), (0, 0), [])), (1, ((0, 48, 57, 1), (0, 0, 0), (0, 0), []))], [], [((2, 590, 51), 0, 156)]), 0, [])]
def bl_X12_writes_at_156 : List aB := [(0, vb_X12_writes_0, none)]
def cz_X12_writes_at_156 : List (Nat × aC) := []
theorem ck_X12_writes_at_156 : csOK cz_X12_writes_at_156 := trivial
theorem cv_X12_writes_at_156 : blOK kd_X12_writes bl_X12_writes_at_156 := ⟨ve_X12_writes_0, trivial⟩
theorem ch_X12_writes_at_156 : amchk ta_X12_writes_at_156 bl_X12_writes_at_156 cz_X12_writes_at_156 cc_X12_writes_at_156 = true := by decide +kernel
theorem ct_X12_writes_at_156 : CtOK cc_X12_writes_at_156 := am_ok' (T := ta_X12_writes_at_156) (B := bl_X12_writes_at_156) (cs := cz_X12_writes_at_156) vm_X12_writes cv_X12_writes_at_156 (by decide +kernel) ch_X12_writes_at_156 ck_X12_writes_at_156
def cc_X12_writes_at_157 : aC := (267, 1, [(2, 0, 0, 12), (0, 48, 57, 1)], none, [], 0, [106, 52012], [((2, 590, 51), 0, 157)], [], [((2, 590, 51), 0, 158)])
def ta_X12_writes_at_157 : List aL := [(0, ([(0, ((2, 0, 0, 12), (0, 0, 0), (0, 0), [])), (1, ((0, 48, 57, 1), (0, 0, 0), (0, 0), []))], [], [((2, 590, 51), 0, 157)]), 0, [])]
def bl_X12_writes_at_157 : List aB := [(0, vb_X12_writes_0, none)]
def cz_X12_writes_at_157 : List (Nat × aC) := []
theorem ck_X12_writes_at_157 : csOK cz_X12_writes_at_157 := trivial
theorem cv_X12_writes_at_157 : blOK kd_X12_writes bl_X12_writes_at_157 := ⟨ve_X12_writes_0, trivial⟩
theorem ch_X12_writes_at_157 : amchk ta_X12_writes_at_157 bl_X12_writes_at_157 cz_X12_writes_at_157 cc_X12_writes_at_157 = true := by decide +kernel
theorem ct_X12_writes_at_157 : CtOK cc_X12_writes_at_157 := am_ok' (T := ta_X12_writes_at_157) (B := bl_X12_writes_at_157) (cs := cz_X12_writes_at_157) vm_X12_writes cv_X12_writes_at_157 (by decide +kernel) ch_X12_writes_at_157 ck_X12_writes_at_157
def cc_X12_writes_at_158 : aC := (267, 1, [(2, 0, 0, 12), (0, 48, 57, 1)], none, [], 0, [106, 52012], [((2, 590, 51), 0, 158)], [], [((2, 590, 51), 0, 159)])
def ta_X12_writes_at_158 : List aL := [(0, ([(0, ((2, 0, 0, 12), (0, 0, 0), (0, 0), [])), (1, ((0, 48, 57, 1), (0, 0, 0), (0, 0), []))], [], [((2, 590, 51), 0, 158)]), 0, [])]
def bl_X12_writes_at_158 : List aB := [(0, vb_X12_writes_0, none)]
def cz_X12_writes_at_158 : List (Nat × aC) := []
theorem ck_X12_writes_at_158 : csOK cz_X12_writes_at_158 := trivial
theorem cv_X12_writes_at_158 : blOK kd_X12_writes bl_X12_writes_at_158 := ⟨ve_X12_writes_0, trivial⟩
theorem ch_X12_writes_at_158 : amchk ta_X12_writes_at_158 bl_X12_writes_at_158 cz_X12_writes_at_158 cc_X12_writes_at_158 = true := by decide +kernel
theorem ct_X12_writes_at_158 : CtOK cc_X12_writes_at_158 := am_ok' (T := ta_X12_writes_at_158) (B := bl_X12_writes_at_158) (cs := cz_X12_writes_at_158) vm_X12_writes cv_X12_writes_at_158 (by decide +kernel) ch_X12_writes_at_158 ck_X12_writes_at_158
def cc_X12_writes_at_159 : aC := (267, 1, [(2, 0, 0, 12), (0, 59, 59, 0)], none, [], 0, [106, 52012], [((2, 590, 51), 0, 159)], [], [((2, 590, 51), 0, 160)])
def ta_X12_writes_at_159 : List aL := [(0, ([(0, ((2, 0, 0, 12), (0, 0, 0), (0, 0), [])), (1, ((0, 59, 59, 0), (0, 0, 0), (0, 0), []))], [], [((2, 590, 51), 0, 159)]), 0, [])]
def bl_X12_writes_at_159 : List aB := [(0, vb_X12_writes_0, none)]
def cz_X12_writes_at_159 : List (Nat × aC) := []
theorem ck_X12_writes_at_159 : csOK cz_X12_writes_at_159 := trivial
theorem cv_X12_writes_at_159 : blOK kd_X12_writes bl_X12_writes_at_159 := ⟨ve_X12_writes_0, trivial⟩
theorem ch_X12_writes_at_159 : amchk ta_X12_writes_at_159 bl_X12_writes_at_159 cz_X12_writes_at_159 cc_X12_writes_at_159 = true := by decide +kernel
theorem ct_X12_writes_at_159 : CtOK cc_X12_writes_at_159 := am_ok' (T := ta_X12_writes_at_159) (B := bl_X12_writes_at_159) (cs := cz_X12_writes_at_159) vm_X12_writes cv_X12_writes_at_159 (by decide +kernel) ch_X12_writes_at_159 ck_X12_writes_at_159
def cc_X12_writes_at_16 : aC := (267, 1, [(2, 0, 0, 12), (0, 48, 57, 1)], none, [], 0, [106, 52012], [((2, 590, 51), 0, 16)], [], [((2, 590, 51), 0, 17)])
def ta_X12_writes_at_16 : List aL := [(0, ([(0, ((2, 0, 0, 12), (0, 0, 0), (0, 0), [])), (1, ((0, 48, 57, 1), (0, 0, 0), (0, 0), []))], [], [((2, 590, 51), 0, 16)]), 0, [])]
def bl_X12_writes_at_16 : List aB := [(0, vb_X12_writes_0, none)]
def cz_X12_writes_at_16 : List (Nat × aC) := []
theorem ck_X12_writes_at_16 : csOK cz_X12_writes_at_16 := trivial
theorem cv_X12_writes_at_16 : blOK kd_X12_writes bl_X12_writes_at_16 := ⟨ve_X12_writes_0, trivial⟩
theorem ch_X12_writes_at_16 : amchk ta_X12_writes_at_16 bl_X12_writes_at_16 cz_X12_writes_at_16 cc_X12_writes_at_16 = true := by decide +kernel
theorem ct_X12_writes_at_16 : CtOK cc_X12_writes_at_16 := am_ok' (T := ta_X12_writes_at_16) (B := bl_X12_writes_at_16) (cs := cz_X12_writes_at_16) vm_X12_writes cv_X12_writes_at_16 (by decide +kernel) ch_X12_writes_at_16 ck_X12_writes_at_16
def cc_X12_writes_at_160 : aC := (267, 1, [(2, 0, 0, 12), (0, 98, 98, 0)], none, [], 0, [106, 52012], [((2, 590, 51), 0, 160)], [], [((2, 590, 51), 0, 161)])
def ta_X12_writes_at_160 : List aL := [(0, ([(0, ((2, 0, 0, 12), (0, 0, 0), (0, 0), [])), (1, ((0, 98, 98, 0), (0, 0, 0), (0, 0), []))], [], [((2, 590, 51), 0, 160)]), 0, [])]
def bl_X12_writes_at_160 : List aB := [(0, vb_X12_writes_0, none)]
def cz_X12_writes_at_160 : List (Nat × aC) := []
theorem ck_X12_writes_at_160 : csOK cz_X12_writes_at_160 := trivial
theorem cv_X12_writes_at_160 : blOK kd_X12_writes bl_X12_writes_at_160 := ⟨ve_X12_writes_0, trivial⟩
theorem ch_X12_writes_at_160 : amchk ta_X12_writes_at_160 bl_X12_writes_at_160 cz_X12_writes_at_160 cc_X12_writes_at_160 = true := by decide +kernel
theorem ct_X12_writes_at_160 : CtOK cc_X12_writes_at_160 := am_ok' (T := ta_X12_writes_at_160) (B := bl_X12_writes_at_160) (cs := cz_X12_writes_at_160) vm_X12_writes cv_X12_writes_at_160 (by decide +kernel) ch_X12_writes_at_160 ck_X12_writes_at_160
def cc_X12_writes_at_161 : aC := (267, 1, [(2, 0, 0, 12), (0, -2147483648, 2147483647, 1)], none, [], 0, [106, 52012], [((2, 590, 51), 0, 161)], [], [((2, 590, 51), 0, 162)])
def ta_X12_writes_at_161 : List aL := [(0, ([(0, ((2, 0, 0, 12), (0, 0, 0), (0, 0), [])), (1, ((0, -2147483648, 2147483647, 1), (0, 0, 0), (0, 0), []))], [], [((2, 590, 51), 0, 161)]), 0, [])]
def bl_X12_writes_at_161 : List aB := [(0, vb_X12_writes_0, none)]
def cz_X12_writes_at_161 : List (Nat × aC) := []
theorem ck_X12_writes_at_161 : csOK cz_X12_writes_at_161 := trivial
theorem cv_X12_writes_at_161 : blOK kd_X12_writes bl_X12_writes_at_161 := ⟨ve_X12_writes_0, trivial⟩
theorem ch_X12_writes_at_161 : amchk ta_X12_writes_at_161 bl_X12_writes_at_161 cz_X12_writes_at_161 cc_X12_writes_at_161 = true := by decide +kernel
theorem ct_X12_writes_at_161 : CtOK cc_X12_writes_at_161 := am_ok' (T := ta_X12_writes_at_161) (B := bl_X12_writes_at_161) (cs := cz_X12_writes_at_161) vm_X12_writes cv_X12_writes_at_161 (by decide +kernel) ch_X12_writes_at_161 ck_X12_writes_at_161
def cc_X12_writes_at_162 : aC := (267, 1, [(2, 0, 0, 12), (0, -2147483648, 2147483647, 1)], none, [], 0, [106, 52012], [((2, 590, 51), 0, 162)], [], [((2, 590, 51), 0, 163)])
def ta_X12_writes_at_162 : List aL := [(0, ([(0, ((2, 0, 0, 12), (0, 0, 0), (0, 0), [])), (1, ((0, -2147483648, 2147483647, 1), (0, 0, 0), (0, 0), []))], [], [((2, 590, 51), 0, 162)]), 0, [])]
def bl_X12_writes_at_162 : List aB := [(0, vb_X12_writes_0, none)]
def cz_X12_writes_at_162 : List (Nat × aC) := []
theorem ck_X12_writes_at_162 : csOK cz_X12_writes_at_162 := trivial
theorem cv_X12_writes_at_162 : blOK kd_X12_writes bl_X12_writes_at_162 := ⟨ve_X12_writes_0, trivial⟩
theorem ch_X12_writes_at_162 : amchk ta_X12_writes_at_162 bl_X12_writes_at_162 cz_X12_writes_at_162 cc_X12_writes_at_162 = true := by decide +kernel
theorem ct_X12_writes_at_162 : CtOK cc_X12_writes_at_162 := am_ok' (T := ta_X12_writes_at_162) (B := bl_X12_writes_at_162) (cs := cz_X12_writes_at_162) vm_X12_writes cv_X12_writes_at_162 (by decide +kernel) ch_X12_writes_at_162 ck_X12_writes_at_162
def cc_X12_writes_at_163 : aC := (267, 1, [(2, 0, 0, 12), (0, -2147483648, 2147483647, 1)], none, [], 0, [106, 52012], [((2, 590, 51), 0, 163)], [], [((2, 590, 51), 0, 164)])
def ta_X12_writes_at_163 : List aL := [(0, ([(0, ((2, 0, 0, 12), (0, 0, 0), (0, 0), [])), (1, ((0, -2147483648, 2147483647, 1), (0, 0, 0), (0, 0), []))], [], [((2, 590, 51), 0, 163)]), 0, [])]
def bl_X12_writes_at_163 : List aB := [(0, vb_X12_writes_0, none)]
def cz_X12_writes_at_163 : List (Nat × aC) := []
theorem ck_X12_writes_at_163 : csOK cz_X12_writes_at_163 := trivial
theorem cv_X12_writes_at_163 : blOK kd_X12_writes bl_X12_writes_at_163 := ⟨ve_X12_writes_0, trivial⟩
theorem ch_X12_writes_at_163 : amchk ta_X12_writes_at_163 bl_X12_writes_at_163 cz_X12_writes_at_163 cc_X12_writes_at_163 = true := by decide +kernel
theorem ct_X12_writes_at_163 : CtOK cc_X12_writes_at_163 := am_ok' (T := ta_X12_writes_at_163) (B := bl_X12_writes_at_163) (cs := cz_X12_writes_at_163) vm_X12_writes cv_X12_writes_at_163 (by decide +kernel) ch_X12_writes_at_163 ck_X12_writes_at_163
def cc_X12_writes_at_164 : aC := (267, 1, [(2, 0, 0, 12), (0, -2147483648, 2147483647, 1)], none, [], 0, [106, 52012], [((2, 590, 51), 0, 164)], [], [((2, 590, 51), 0, 165)])
def ta_X12_writes_at_164 : List aL := [(0, ([(0, ((2, 0, 0, 12), (0, 0, 0), (0, 0), [])), (1, ((0, -2147483648, 2147483647, 1), (0, 0, 0), (0, 0), []))], [], [((2, 590, 51), 0, 164)]), 0, [])]
def bl_X12_writes_at_164 : List aB := [(0, vb_X12_writes_0, none)]
def cz_X12_writes_at_164 : List (Nat × aC) := []
theorem ck_X12_writes_at_164 : csOK cz_X12_writes_at_164 := trivial
theorem cv_X12_writes_at_164 : blOK kd_X12_writes bl_X12_writes_at_164 := ⟨ve_X12_writes_0, trivial⟩
theorem ch_X12_writes_at_164 : amchk ta_X12_writes_at_164 bl_X12_writes_at_164 cz_X12_writes_at_164 cc_X12_writes_at_164 = true := by decide +kernel
theorem ct_X12_writes_at_164 : CtOK cc_X12_writes_at_164 := am_ok' (T := ta_X12_writes_at_164) (B := bl_X12_writes_at_164) (cs := cz_X12_writes_at_164) vm_X12_writes cv_X12_writes_at_164 (by decide +kernel) ch_X12_writes_at_164 ck_X12_writes_at_164
def cc_X12_writes_at_165 : aC := (267, 1, [(2, 0, 0, 12), (0, -2147483648, 2147483647, 1)], none, [], 0, [106, 52012], [((2, 590, 51), 0, 165)], [], [((2, 590, 51), 0, 166)])
def ta_X12_writes_at_165 : List aL := [(0, ([(0, ((2, 0, 0, 12), (0, 0, 0), (0, 0), [])), (1, ((0, -2147483648, 2147483647, 1), (0, 0, 0), (0, 0), []))], [], [((2, 590, 51), 0, 165)]), 0, [])]
def bl_X12_writes_at_165 : List aB := [(0, vb_X12_writes_0, none)]
def cz_X12_writes_at_165 : List (Nat × aC) := []
theorem ck_X12_writes_at_165 : csOK cz_X12_writes_at_165 := trivial
theorem cv_X12_writes_at_165 : blOK kd_X12_writes bl_X12_writes_at_165 := ⟨ve_X12_writes_0, trivial⟩
theorem ch_X12_writes_at_165 : amchk ta_X12_writes_at_165 bl_X12_writes_at_165 cz_X12_writes_at_165 cc_X12_writes_at_165 = true := by decide +kernel
theorem ct_X12_writes_at_165 : CtOK cc_X12_writes_at_165 := am_ok' (T := ta_X12_writes_at_165) (B := bl_X12_writes_at_165) (cs := cz_X12_writes_at_165) vm_X12_writes cv_X12_writes_at_165 (by decide +kernel) ch_X12_writes_at_165 ck_X12_writes_at_165
def cc_X12_writes_at_166 : aC := (267, 1, [(2, 0, 0, 12), (0, -2147483648, 2147483647, 1)], none, [], 0, [106, 52012], [((2, 590, 51), 0, 166)], [], [((2, 590, 51), 0, 167)])
def ta_X12_writes_at_166 : List aL := [(0, ([(0, ((2, 0, 0, 12), (0, 0, 0), (0, 0), [])), (1, ((0, -2147483648, 2147483647, 1), (0, 0, 0), (0, 0), []))], [], [((2, 590, 51), 0, 166)]), 0, [])]
def bl_X12_writes_at_166 : List aB := [(0, vb_X12_writes_0, none)]
def cz_X12_writes_at_166 : List (Nat × aC) := []
theorem ck_X12_writes_at_166 : csOK cz_X12_writes_at_166 := trivial
theorem cv_X12_writes_at_166 : blOK kd_X12_writes bl_X12_writes_at_166 := ⟨ve_X12_writes_0, trivial⟩
theorem ch_X12_writes_at_166 : amchk ta_X12_writes_at_166 bl_X12_writes_at_166 cz_X12_writes_at_166 cc_X12_writes_at_166 = true := by decide +kernel
theorem ct_X12_writes_at_166 : CtOK cc_X12_writes_at_166 := am_ok' (T := ta_X12_writes_at_166) (B := bl_X12_writes_at_166) (cs := cz_X12_writes_at_166) vm_X12_writes cv_X12_writes_at_166 (by decide +kernel) ch_X12_writes_at_166 ck_X12_writes_at_166
def cc_X12_writes_at_167 : aC := (267, 1, [(2, 0, 0, 12), (0, -2147483648, 2147483647, 1)], none, [], 0, [106, 52012], [((2, 590, 51), 0, 167)], [], [((2, 590, 51), 0, 168)])
def ta_X12_writes_at_167 : List aL := [(0, ([(0, ((2, 0, 0, 12), (0, 0, 0), (0, 0), [])), (1, ((0, -2147483648, 2147483647, 1), (0, 0, 0), (0, 0), []))], [], [((2, 590, 51), 0, 167)]), 0, [])]
def bl_X12_writes_at_167 : List aB := [(0, vb_X12_writes_0, none)]
def cz_X12_writes_at_167 : List (Nat × aC) := []
theorem ck_X12_writes_at_167 : csOK cz_X12_writes_at_167 := trivial
theorem cv_X12_writes_at_167 : blOK kd_X12_writes bl_X12_writes_at_167 := ⟨ve_X12_writes_0, trivial⟩
theorem ch_X12_writes_at_167 : amchk ta_X12_writes_at_167 bl_X12_writes_at_167 cz_X12_writes_at_167 cc_X12_writes_at_167 = true := by decide +kernel
theorem ct_X12_writes_at_167 : CtOK cc_X12_writes_at_167 := am_ok' (T := ta_X12_writes_at_167) (B := bl_X12_writes_at_167) (cs := cz_X12_writes_at_167) vm_X12_writes cv_X12_writes_at_167 (by decide +kernel) ch_X12_writes_at_167 ck_X12_writes_at_167
def cc_X12_writes_at_168 : aC := (267, 1, [(2, 0, 0, 12), (0, -2147483648, 2147483647, 1)], none, [], 0, [106, 52012], [((2, 590, 51), 0, 168)], [], [((2, 590, 51), 0, 169)])
def ta_X12_writes_at_168 : List aL := [(0, ([(0, ((2, 0, 0, 12), (0, 0, 0), (0, 0), [])), (1, ((0, -2147483648, 2147483647, 1), (0, 0, 0), (0, 0), []))], [], [((2, 590, 51), 0, 168)]), 0, [])]
def bl_X12_writes_at_168 : List aB := [(0, vb_X12_writes_0, none)]
def cz_X12_writes_at_168 : List (Nat × aC) := []
theorem ck_X12_writes_at_168 : csOK cz_X12_writes_at_168 := trivial
theorem cv_X12_writes_at_168 : blOK kd_X12_writes bl_X12_writes_at_168 := ⟨ve_X12_writes_0, trivial⟩
theorem ch_X12_writes_at_168 : amchk ta_X12_writes_at_168 bl_X12_writes_at_168 cz_X12_writes_at_168 cc_X12_writes_at_168 = true := by decide +kernel
theorem ct_X12_writes_at_168 : CtOK cc_X12_writes_at_168 := am_ok' (T := ta_X12_writes_at_168) (B := bl_X12_writes_at_168) (cs := cz_X12_writes_at_168) vm_X12_writes cv_X12_writes_at_168 (by decide +kernel) ch_X12_writes_at_168 ck_X12_writes_at_168
def cc_X12_writes_at_169 : aC := (267, 1, [(2, 0, 0, 12), (0, 58, 58, 0)], none, [], 0, [106, 52012], [((2, 590, 51), 0, 169)], [], [((2, 590, 51), 0, 170)])
def ta_X12_writes_at_169 : List aL := [(0, ([(0, ((2, 0, 0, 12), (0, 0, 0), (0, 0), [])), (1, ((0, 58, 58, 0), (0, 0, 0), (0, 0), []))], [], [((2, 590, 51), 0, 169)]), 0, [])]
def bl_X12_writes_at_169 : List aB := [(0, vb_X12_writes_0, none)]
def cz_X12_writes_at_169 : List (Nat × aC) := []
theorem ck_X12_writes_at_169 : csOK cz_X12_writes_at_169 := trivial
theorem cv_X12_writes_at_169 : blOK kd_X12_writes bl_X12_writes_at_169 := ⟨ve_X12_writes_0, trivial⟩
theorem ch_X12_writes_at_169 : amchk ta_X12_writes_at_169 bl_X12_writes_at_169 cz_X12_writes_at_169 cc_X12_writes_at_169 = true := by decide +kernel
theorem ct_X12_writes_at_169 : CtOK cc_X12_writes_at_169 := am_ok' (T := ta_X12_writes_at_169) (B := bl_X12_writes_at_169) (cs := cz_X12_writes_at_169) vm_X12_writes cv_X12_writes_at_169 (by decide +kernel) ch_X12_writes_at_169 ck_X12_writes_at_169
def cc_X12_writes_at_17 : aC := (267, 1, [(2, 0, 0, 12), (0, 48, 57, 1)], none, [], 0, [106, 52012], [((2, 590, 51), 0, 17)], [], [((2, 590, 51), 0, 18)])
def ta_X12_writes_at_17 : List aL := [(0, ([(0, ((2, 0, 0, 12), (0, 0, 0), (0, 0), [])), (1, ((0, 48, 57, 1), (0, 0, 0), (0, 0), []))], [], [((2, 590, 51), 0, 17)]), 0, [])]
def bl_X12_writes_at_17 : List aB := [(0, vb_X12_writes_0, none)]
def cz_X12_writes_at_17 : List (Nat × aC) := []
theorem ck_X12_writes_at_17 : csOK cz_X12_writes_at_17 := trivial
theorem cv_X12_writes_at_17 : blOK kd_X12_writes bl_X12_writes_at_17 := ⟨ve_X12_writes_0, trivial⟩
theorem ch_X12_writes_at_17 : amchk ta_X12_writes_at_17 bl_X12_writes_at_17 cz_X12_writes_at_17 cc_X12_writes_at_17 = true := by decide +kernel
theorem ct_X12_writes_at_17 : CtOK cc_X12_writes_at_17 := am_ok' (T := ta_X12_writes_at_17) (B := bl_X12_writes_at_17) (cs := cz_X12_writes_at_17) vm_X12_writes cv_X12_writes_at_17 (by decide +kernel) ch_X12_writes_at_17 ck_X12_writes_at_17
def cc_X12_writes_at_170 : aC := (267, 1, [(2, 0, 0, 12), (0, 48, 57, 1)], none, [], 0, [106, 52012], [((2, 590, 51), 0, 170)], [], [((2, 590, 51), 0, 171)])
def ta_X12_writes_at_170 : List aL := [(0, ([(0, ((2, 0, 0, 12), (0, 0, 0), (0, 0), [])), (1, ((0, 48, 57, 1), (0, 0, 0), (0, 0), []))], [], [((2, 590, 51), 0, 170)]), 0, [])]
def bl_X12_writes_at_170 : List aB := [(0, vb_X12_writes_0, none)]
def cz_X12_writes_at_170 : List (Nat × aC) := []
theorem ck_X12_writes_at_170 : csOK cz_X12_writes_at_170 := trivial
theorem cv_X12_writes_at_170 : blOK kd_X12_writes bl_X12_writes_at_170 := ⟨ve_X12_writes_0, trivial⟩
theorem ch_X12_writes_at_170 : amchk ta_X12_writes_at_170 bl_X12_writes_at_170 cz_X12_writes_at_170 cc_X12_writes_at_170 = true := by decide +kernel
theorem ct_X12_writes_at_170 : CtOK cc_X12_writes_at_170 := am_ok' (T := ta_X12_writes_at_170) (B := bl_X12_writes_at_170) (cs := cz_X12_writes_at_170) vm_X12_writes cv_X12_writes_at_170 (by decide +kernel) ch_X12_writes_at_170 ck_X12_writes_at_170
def cc_X12_writes_at_171 : aC := (267, 1, [(2, 0, 0, 12), (0, 48, 57, 1)], none, [], 0, [106, 52012], [((2, 590, 51), 0, 171)], [], [((2, 590, 51), 0, 172)])
def ta_X12_writes_at_171 : List aL := [(0, ([(0, ((2, 0, 0, 12), (0, 0, 0), (0, 0), [])), (1, ((0, 48, 57, 1), (0, 0, 0), (0, 0), []))], [], [((2, 590, 51), 0, 171)]), 0, [])]
def bl_X12_writes_at_171 : List aB := [(0, vb_X12_writes_0, none)]
def cz_X12_writes_at_171 : List (Nat × aC) := []
theorem ck_X12_writes_at_171 : csOK cz_X12_writes_at_171 := trivial
theorem cv_X12_writes_at_171 : blOK kd_X12_writes bl_X12_writes_at_171 := ⟨ve_X12_writes_0, trivial⟩
theorem ch_X12_writes_at_171 : amchk ta_X12_writes_at_171 bl_X12_writes_at_171 cz_X12_writes_at_171 cc_X12_writes_at_171 = true := by decide +kernel
theorem ct_X12_writes_at_171 : CtOK cc_X12_writes_at_171 := am_ok' (T := ta_X12_writes_at_171) (B := bl_X12_writes_at_171) (cs := cz_X12_writes_at_171) vm_X12_writes cv_X12_writes_at_171 (by decide +kernel) ch_X12_writes_at_171 ck_X12_writes_at_171
def cc_X12_writes_at_172 : aC := (267, 1, [(2, 0, 0, 12), (0, 48, 57, 1)], none, [], 0, [106, 52012], [((2, 590, 51), 0, 172)], [], [((2, 590, 51), 0, 173)])
def ta_X12_writes_at_172 : List aL := [(0, ([(0, ((2, 0, 0, 12), (0, 0, 0), (0, 0), [])), (1, ((0, 48, 57, 1), (0, 0, 0), (0, 0), []))], [], [((2, 590, 51), 0, 172)]), 0, [])]
def bl_X12_writes_at_172 : List aB := [(0, vb_X12_writes_0, none)]
def cz_X12_writes_at_172 : List (Nat × aC) := []
theorem ck_X12_writes_at_172 : csOK cz_X12_writes_at_172 := trivial
theorem cv_X12_writes_at_172 : blOK kd_X12_writes bl_X12_writes_at_172 := ⟨ve_X12_writes_0, trivial⟩
theorem ch_X12_writes_at_172 : amchk ta_X12_writes_at_172 bl_X12_writes_at_172 cz_X12_writes_at_172 cc_X12_writes_at_172 = true := by decide +kernel
theorem ct_X12_writes_at_172 : CtOK cc_X12_writes_at_172 := am_ok' (T := ta_X12_writes_at_172) (B := bl_X12_writes_at_172) (cs := cz_X12_writes_at_172) vm_X12_writes cv_X12_writes_at_172 (by decide +kernel) ch_X12_writes_at_172 ck_X12_writes_at_172
def cc_X12_writes_at_174 : aC := (267, 1, [(2, 0, 0, 12), (0, 42, 42, 0)], none, [], 0, [106, 52012], [((2, 590, 51), 0, 174)], [], [((2, 590, 51), 0, 175)])
def ta_X12_writes_at_174 : List aL := [(0, ([(0, ((2, 0, 0, 12), (0, 0, 0), (0, 0), [])), (1, ((0, 42, 42, 0), (0, 0, 0), (0, 0), []))], [], [((2, 590, 51), 0, 174)]), 0, [])]
def bl_X12_writes_at_174 : List aB := [(0, vb_X12_writes_0, none)]
def cz_X12_writes_at_174 : List (Nat × aC) := []
theorem ck_X12_writes_at_174 : csOK cz_X12_writes_at_174 := trivial
theorem cv_X12_writes_at_174 : blOK kd_X12_writes bl_X12_writes_at_174 := ⟨ve_X12_writes_0, trivial⟩
theorem ch_X12_writes_at_174 : amchk ta_X12_writes_at_174 bl_X12_writes_at_174 cz_X12_writes_at_174 cc_X12_writes_at_174 = true := by decide +kernel
theorem ct_X12_writes_at_174 : CtOK cc_X12_writes_at_174 := am_ok' (T := ta_X12_writes_at_174) (B := bl_X12_writes_at_174) (cs := cz_X12_writes_at_174) vm_X12_writes cv_X12_writes_at_174 (by decide +kernel) ch_X12_writes_at_174 ck_X12_writes_at_174
def cc_X12_writes_at_175 : aC := (267, 1, [(2, 0, 0, 12), (0, 48, 57, 1)], none, [], 0, [106, 52012], [((2, 590, 51), 0, 175)], [], [((2, 590, 51), 0, 176)])
def ta_X12_writes_at_175 : List aL := [(0, ([(0, ((2, 0, 0, 12), (0, 0, 0), (0, 0), [])), (1, ((0, 48, 57, 1), (0, 0, 0), (0, 0), []))], [], [((2, 590, 51), 0, 175)]), 0, [])]
def bl_X12_writes_at_175 : List aB := [(0, vb_X12_writes_0, none)]
def cz_X12_writes_at_175 : List (Nat × aC) := []
theorem ck_X12_writes_at_175 : csOK cz_X12_writes_at_175 := trivial
theorem cv_X12_writes_at_175 : blOK kd_X12_writes bl_X12_writes_at_175 := ⟨ve_X12_writes_0, trivial⟩
theorem ch_X12_writes_at_175 : amchk ta_X12_writes_at_175 bl_X12_writes_at_175 cz_X12_writes_at_175 cc_X12_writes_at_175 = true := by decide +kernel
theorem ct_X12_writes_at_175 : CtOK cc_X12_writes_at_175 := am_ok' (T := ta_X12_writes_at_175) (B := bl_X12_writes_at_175) (cs := cz_X12_writes_at_175) vm_X12_writes cv_X12_writes_at_175 (by decide +kernel) ch_X12_writes_at_175 ck_X12_writes_at_175
def cc_X12_writes_at_176 : aC := (267, 1, [(2, 0, 0, 12), (0, 48, 57, 1)], none, [], 0, [106, 52012], [((2, 590, 51), 0, 176)], [], [((2, 590, 51), 0, 177)])
def ta_X12_writes_at_176 : List aL := [(0, ([(0, ((2, 0, 0, 12), (0, 0, 0), (0, 0), [])), (1, ((0, 48, 57, 1), (0, 0, 0), (0, 0), []))], [], [((2, 590, 51), 0, 176)]), 0, [])]
def bl_X12_writes_at_176 : List aB := [(0, vb_X12_writes_0, none)]
def cz_X12_writes_at_176 : List (Nat × aC) := []
theorem ck_X12_writes_at_176 : csOK cz_X12_writes_at_176 := trivial
theorem cv_X12_writes_at_176 : blOK kd_X12_writes bl_X12_writes_at_176 := ⟨ve_X12_writes_0, trivial⟩
theorem ch_X12_writes_at_176 : amchk ta_X12_writes_at_176 bl_X12_writes_at_176 cz_X12_writes_at_176 cc_X12_writes_at_176 = true := by decide +kernel
theorem ct_X12_writes_at_176 : CtOK cc_X12_writes_at_176 := am_ok' (T := ta_X12_writes_at_176) (B := bl_X12_writes_at_176) (cs := cz_X12_writes_at_176) vm_X12_writes cv_X12_writes_at_176 (by decide +kernel) ch_X12_writes_at_176 ck_X12_writes_at_176
def cc_X12_writes_at_177 : aC := (267, 1, [(2, 0, 0, 12), (0, 48, 57, 1)], none, [], 0, [106, 52012], [((2, 590, 51), 0, 177)], [], [((2, 590, 51), 0, 178)])
def ta_X12_writes_at_177 : List aL := [(0, ([(0, ((2, 0, 0, 12), (0, 0, 0), (0, 0), [])), (1, ((0, 48, 57, 1), (0, 0, 0), (0, 0), []))], [], [((2, 590, 51), 0, 177)]), 0, [])]
def bl_X12_writes_at_177 : List aB := [(0, vb_X12_writes_0, none)]
def cz_X12_writes_at_177 : List (Nat × aC) := []
theorem ck_X12_writes_at_177 : csOK cz_X12_writes_at_177 := trivial
theorem cv_X12_writes_at_177 : blOK kd_X12_writes bl_X12_writes_at_177 := ⟨ve_X12_writes_0, trivial⟩
theorem ch_X12_writes_at_177 : amchk ta_X12_writes_at_177 bl_X12_writes_at_177 cz_X12_writes_at_177 cc_X12_writes_at_177 = true := by decide +kernel
theorem ct_X12_writes_at_177 : CtOK cc_X12_writes_at_177 := am_ok' (T := ta_X12_writes_at_177) (B := bl_X12_writes_at_177) (cs := cz_X12_writes_at_177) vm_X12_writes cv_X12_writes_at_177 (by decide +kernel) ch_X12_writes_at_177 ck_X12_writes_at_177
def cc_X12_writes_at_178 : aC := (267, 1, [(2, 0, 0, 12), (0, 48, 57, 1)], none, [], 0, [106, 52012], [((2, 590, 51), 0, 178)], [], [((2, 590, 51), 0, 179)])
def ta_X12_writes_at_178 : List aL := [(0, ([(0, ((2, 0, 0, 12), (0, 0, 0), (0, 0), [])), (1, ((0, 48, 57, 1), (0, 0, 0), (0, 0), []))], [], [((2, 590, 51), 0, 178)]), 0, [])]
def bl_X12_writes_at_178 : List aB := [(0, vb_X12_writes_0, none)]
def cz_X12_writes_at_178 : List (Nat × aC) := []
theorem ck_X12_writes_at_178 : csOK cz_X12_writes_at_178 := trivial
theorem cv_X12_writes_at_178 : blOK kd_X12_writes bl_X12_writes_at_178 := ⟨ve_X12_writes_0, trivial⟩
theorem ch_X12_writes_at_178 : amchk ta_X12_writes_at_178 bl_X12_writes_at_178 cz_X12_writes_at_178 cc_X12_writes_at_178 = true := by decide +kernel
theorem ct_X12_writes_at_178 : CtOK cc_X12_writes_at_178 := am_ok' (T := ta_X12_writes_at_178) (B := bl_X12_writes_at_178) (cs := cz_X12_writes_at_178) vm_X12_writes cv_X12_writes_at_178 (by decide +kernel) ch_X12_writes_at_178 ck_X12_writes_at_178
def cc_X12_writes_at_179 : aC := (267, 1, [(2, 0, 0, 12), (0, 59, 59, 0)], none, [], 0, [106, 52012], [((2, 590, 51), 0, 179)], [], [((2, 590, 51), 0, 180)])
def ta_X12_writes_at_179 : List aL := [(0, ([(0, ((2, 0, 0, 12), (0, 0, 0), (0, 0), [])), (1, ((0, 59, 59, 0), (0, 0, 0), (0, 0), []))], [], [((2, 590, 51), 0, 179)]), 0, [])]
def bl_X12_writes_at_179 : List aB := [(0, vb_X12_writes_0, none)]
def cz_X12_writes_at_179 : List (Nat × aC) := []
theorem ck_X12_writes_at_179 : csOK cz_X12_writes_at_179 := trivial
theorem cv_X12_writes_at_179 : blOK kd_X12_writes bl_X12_writes_at_179 := ⟨ve_X12_writes_0, trivial⟩
theorem ch_X12_writes_at_179 : amchk ta_X12_writes_at_179 bl_X12_writes_at_179 cz_X12_writes_at_179 cc_X12_writes_at_179 = true := by decide +kernel
theorem ct_X12_writes_at_179 : CtOK cc_X12_writes_at_179 := am_ok' (T := ta_X12_writes_at_179) (B := bl_X12_writes_at_179) (cs := cz_X12_writes_at_179) vm_X12_writes cv_X12_writes_at_179 (by decide +kernel) ch_X12_writes_at_179 ck_X12_writes_at_179
def cc_X12_writes_at_18 : aC := (267, 1, [(2, 0, 0, 12), (0, 48, 57, 1)], none, [], 0, [106, 52012], [((2, 590, 51), 0, 18)], [], [((2, 590, 51), 0, 19)])
def ta_X12_writes_at_18 : List aL := [(0, ([(0, ((2, 0, 0, 12), (0, 0, 0), (0, 0), [])), (1, ((0, 48, 57, 1), (0, 0, 0), (0, 0), []))], [], [((2, 590, 51), 0, 18)]), 0, [])]
def bl_X12_writes_at_18 : List aB := [(0, vb_X12_writes_0, none)]
def cz_X12_writes_at_18 : List (Nat × aC) := []
theorem ck_X12_writes_at_18 : csOK cz_X12_writes_at_18 := trivial
theorem cv_X12_writes_at_18 : blOK kd_X12_writes bl_X12_writes_at_18 := ⟨ve_X12_writes_0, trivial⟩
theorem ch_X12_writes_at_18 : amchk ta_X12_writes_at_18 bl_X12_writes_at_18 cz_X12_writes_at_18 cc_X12_writes_at_18 = true := by decide +kernel
theorem ct_X12_writes_at_18 : CtOK cc_X12_writes_at_18 := am_ok' (T := ta_X12_writes_at_18) (B := bl_X12_writes_at_18) (cs := cz_X12_writes_at_18) vm_X12_writes cv_X12_writes_at_18 (by decide +kernel) ch_X12_writes_at_18 ck_X12_writes_at_18
def cc_X12_writes_at_180 : aC := (267, 1, [(2, 0, 0, 12), (0, 98, 98, 0)], none, [], 0, [106, 52012], [((2, 590, 51), 0, 180)], [], [((2, 590, 51), 0, 181)])
def ta_X12_writes_at_180 : List aL := [(0, ([(0, ((2, 0, 0, 12), (0, 0, 0), (0, 0), [])), (1, ((0, 98, 98, 0), (0, 0, 0), (0, 0), []))], [], [((2, 590, 51), 0, 180)]), 0, [])]
def bl_X12_writes_at_180 : List aB := [(0, vb_X12_writes_0, none)]
def cz_X12_writes_at_180 : List (Nat × aC) := []
theorem ck_X12_writes_at_180 : csOK cz_X12_writes_at_180 := trivial
theorem cv_X12_writes_at_180 : blOK kd_X12_writes bl_X12_writes_at_180 := ⟨ve_X12_writes_0, trivial⟩
theorem ch_X12_writes_at_180 : amchk ta_X12_writes_at_180 bl_X12_writes_at_180 cz_X12_writes_at_180 cc_X12_writes_at_180 = true := by decide +kernel
theorem ct_X12_writes_at_180 : CtOK cc_X12_writes_at_180 := am_ok' (T := ta_X12_writes_at_180) (B := bl_X12_writes_at_180) (cs := cz_X12_writes_at_180) vm_X12_writes cv_X12_writes_at_180 (by decide +kernel) ch_X12_writes_at_180 ck_X12_writes_at_180
def cc_X12_writes_at_181 : aC := (267, 1, [(2, 0, 0, 12), (0, -2147483648, 2147483647, 1)], none, [], 0, [106, 52012], [((2, 590, 51), 0, 181)], [], [((2, 590, 51), 0, 182)])
def ta_X12_writes_at_181 : List aL := [(0, ([(0, ((2, 0, 0, 12), (0, 0, 0), (0, 0), [])), (1, ((0, -2147483648, 2147483647, 1), (0, 0, 0), (0, 0), []))], [], [((2, 590, 51), 0, 181)]), 0, [])]
def bl_X12_writes_at_181 : List aB := [(0, vb_X12_writes_0, none)]
def cz_X12_writes_at_181 : List (Nat × aC) := []
theorem ck_X12_writes_at_181 : csOK cz_X12_writes_at_181 := trivial
theorem cv_X12_writes_at_181 : blOK kd_X12_writes bl_X12_writes_at_181 := ⟨ve_X12_writes_0, trivial⟩
theorem ch_X12_writes_at_181 : amchk ta_X12_writes_at_181 bl_X12_writes_at_181 cz_X12_writes_at_181 cc_X12_writes_at_181 = true := by decide +kernel
theorem ct_X12_writes_at_181 : CtOK cc_X12_writes_at_181 := am_ok' (T := ta_X12_writes_at_181) (B := bl_X12_writes_at_181) (cs := cz_X12_writes_at_181) vm_X12_writes cv_X12_writes_at_181 (by decide +kernel) ch_X12_writes_at_181 ck_X12_writes_at_181
def cc_X12_writes_at_182 : aC := (267, 1, [(2, 0, 0, 12), (0, -2147483648, 2147483647, 1)], none, [], 0, [106, 52012], [((2, 590, 51), 0, 182)], [], [((2, 590, 51), 0, 183)])
def ta_X12_writes_at_182 : List aL := [(0, ([(0, ((2, 0, 0, 12), (0, 0, 0), (0, 0), [])), (1, ((0, -2147483648, 2147483647, 1), (0, 0, 0), (0, 0), []))], [], [((2, 590, 51), 0, 182)]), 0, [])]
def bl_X12_writes_at_182 : List aB := [(0, vb_X12_writes_0, none)]
def cz_X12_writes_at_182 : List (Nat × aC) := []
theorem ck_X12_writes_at_182 : csOK cz_X12_writes_at_182 := trivial
theorem cv_X12_writes_at_182 : blOK kd_X12_writes bl_X12_writes_at_182 := ⟨ve_X12_writes_0, trivial⟩
theorem ch_X12_writes_at_182 : amchk ta_X12_writes_at_182 bl_X12_writes_at_182 cz_X12_writes_at_182 cc_X12_writes_at_182 = true := by decide +kernel
theorem ct_X12_writes_at_182 : CtOK cc_X12_writes_at_182 := am_ok' (T := ta_X12_writes_at_182) (B := bl_X12_writes_at_182) (cs := cz_X12_writes_at_182) vm_X12_writes cv_X12_writes_at_182 (by decide +kernel) ch_X12_writes_at_182 ck_X12_writes_at_182
def cc_X12_writes_at_183 : aC := (267, 1, [(2, 0, 0, 12), (0, -2147483648, 2147483647, 1)], none, [], 0, [106, 52012], [((2, 590, 51), 0, 183)], [], [((2, 590, 51), 0, 184)])
def ta_X12_writes_at_183 : List aL := [(0, ([(0, ((2, 0, 0, 12), (0, 0, 0), (0, 0), [])), (1, ((0, -2147483648, 2147483647, 1), (0, 0, 0), (0, 0), []))], [], [((2, 590, 51), 0, 183)]), 0, [])]
def bl_X12_writes_at_183 : List aB := [(0, vb_X12_writes_0, none)]
def cz_X12_writes_at_183 : List (Nat × aC) := []
theorem ck_X12_writes_at_183 : csOK cz_X12_writes_at_183 := trivial
theorem cv_X12_writes_at_183 : blOK kd_X12_writes bl_X12_writes_at_183 := ⟨ve_X12_writes_0, trivial⟩
theorem ch_X12_writes_at_183 : amchk ta_X12_writes_at_183 bl_X12_writes_at_183 cz_X12_writes_at_183 cc_X12_writes_at_183 = true := by decide +kernel
theorem ct_X12_writes_at_183 : CtOK cc_X12_writes_at_183 := am_ok' (T := ta_X12_writes_at_183) (B := bl_X12_writes_at_183) (cs := cz_X12_writes_at_183) vm_X12_writes cv_X12_writes_at_183 (by decide +kernel) ch_X12_writes_at_183 ck_X12_writes_at_183
def cc_X12_writes_at_184 : aC := (267, 1, [(2, 0, 0, 12), (0, -2147483648, 2147483647, 1)], none, [], 0, [106, 52012], [((2, 590, 51), 0, 184)], [], [((2, 590, 51), 0, 185)])
def ta_X12_writes_at_184 : List aL := [(0, ([(0, ((2, 0, 0, 12), (0, 0, 0), (0, 0), [])), (1, ((0, -2147483648, 2147483647, 1), (0, 0, 0), (0, 0), []))], [], [((2, 590, 51), 0, 184)]), 0, [])]
def bl_X12_writes_at_184 : List aB := [(0, vb_X12_writes_0, none)]
def cz_X12_writes_at_184 : List (Nat × aC) := []
theorem ck_X12_writes_at_184 : csOK cz_X12_writes_at_184 := trivial
theorem cv_X12_writes_at_184 : blOK kd_X12_writes bl_X12_writes_at_184 := ⟨ve_X12_writes_0, trivial⟩
theorem ch_X12_writes_at_184 : amchk ta_X12_writes_at_184 bl_X12_writes_at_184 cz_X12_writes_at_184 cc_X12_writes_at_184 = true := by decide +kernel
theorem ct_X12_writes_at_184 : CtOK cc_X12_writes_at_184 := am_ok' (T := ta_X12_writes_at_184) (B := bl_X12_writes_at_184) (cs := cz_X12_writes_at_184) vm_X12_writes cv_X12_writes_at_184 (by decide +kernel) ch_X12_writes_at_184 ck_X12_writes_at_184
def cc_X12_writes_at_185 : aC := (267, 1, [(2, 0, 0, 12), (0, -2147483648, 2147483647, 1)], none, [], 0, [106, 52012], [((2, 590, 51), 0, 185)], [], [((2, 590, 51), 0, 186)])
def ta_X12_writes_at_185 : List aL := [(0, ([(0, ((2, 0, 0, 12), (0, 0, 0), (0, 0), [])), (1, ((0, -2147483648, 2147483647, 1), (0, 0, 0), (0, 0), []))], [], [((2, 590, 51), 0, 185)]), 0, [])]
def bl_X12_writes_at_185 : List aB := [(0, vb_X12_writes_0, none)]
def cz_X12_writes_at_185 : List (Nat × aC) := []
theorem ck_X12_writes_at_185 : csOK cz_X12_writes_at_185 := trivial
theorem cv_X12_writes_at_185 : blOK kd_X12_writes bl_X12_writes_at_185 := ⟨ve_X12_writes_0, trivial⟩
theorem ch_X12_writes_at_185 : amchk ta_X12_writes_at_185 bl_X12_writes_at_185 cz_X12_writes_at_185 cc_X12_writes_at_185 = true := by decide +kernel
theorem ct_X12_writes_at_185 : CtOK cc_X12_writes_at_185 := am_ok' (T := ta_X12_writes_at_185) (B := bl_X12_writes_at_185) (cs := cz_X12_writes_at_185) vm_X12_writes cv_X12_writes_at_185 (by decide +kernel) ch_X12_writes_at_185 ck_X12_writes_at_185
def cc_X12_writes_at_186 : aC := (267, 1, [(2, 0, 0, 12), (0, -2147483648, 2147483647, 1)], none, [], 0, [106, 52012], [((2, 590, 51), 0, 186)], [], [((2, 590, 51), 0, 187)])
def ta_X12_writes_at_186 : List aL := [(0, ([(0, ((2, 0, 0, 12), (0, 0, 0), (0, 0), [])), (1, ((0, -2147483648, 2147483647, 1), (0, 0, 0), (0, 0), []))], [], [((2, 590, 51), 0, 186)]), 0, [])]
def bl_X12_writes_at_186 : List aB := [(0, vb_X12_writes_0, none)]
def cz_X12_writes_at_186 : List (Nat × aC) := []
theorem ck_X12_writes_at_186 : csOK cz_X12_writes_at_186 := trivial
theorem cv_X12_writes_at_186 : blOK kd_X12_writes bl_X12_writes_at_186 := ⟨ve_X12_writes_0, trivial⟩
theorem ch_X12_writes_at_186 : amchk ta_X12_writes_at_186 bl_X12_writes_at_186 cz_X12_writes_at_186 cc_X12_writes_at_186 = true := by decide +kernel
theorem ct_X12_writes_at_186 : CtOK cc_X12_writes_at_186 := am_ok' (T := ta_X12_writes_at_186) (B := bl_X12_writes_at_186) (cs := cz_X12_writes_at_186) vm_X12_writes cv_X12_writes_at_186 (by decide +kernel) ch_X12_writes_at_186 ck_X12_writes_at_186
def cc_X12_writes_at_187 : aC := (267, 1, [(2, 0, 0, 12), (0, -2147483648, 2147483647, 1)], none, [], 0, [106, 52012], [((2, 590, 51), 0, 187)], [], [((2, 590, 51), 0, 188)])
def ta_X12_writes_at_187 : List aL := [(0, ([(0, ((2, 0, 0, 12), (0, 0, 0), (0, 0), [])), (1, ((0, -2147483648, 2147483647, 1), (0, 0, 0), (0, 0), []))], [], [((2, 590, 51), 0, 187)]), 0, [])]
def bl_X12_writes_at_187 : List aB := [(0, vb_X12_writes_0, none)]
def cz_X12_writes_at_187 : List (Nat × aC) := []
theorem ck_X12_writes_at_187 : csOK cz_X12_writes_at_187 := trivial
theorem cv_X12_writes_at_187 : blOK kd_X12_writes bl_X12_writes_at_187 := ⟨ve_X12_writes_0, trivial⟩
theorem ch_X12_writes_at_187 : amchk ta_X12_writes_at_187 bl_X12_writes_at_187 cz_X12_writes_at_187 cc_X12_writes_at_187 = true := by decide +kernel
theorem ct_X12_writes_at_187 : CtOK cc_X12_writes_at_187 := am_ok' (T := ta_X12_writes_at_187) (B := bl_X12_writes_at_187) (cs := cz_X12_writes_at_187) vm_X12_writes cv_X12_writes_at_187 (by decide +kernel) ch_X12_writes_at_187 ck_X12_writes_at_187
def cc_X12_writes_at_188 : aC := (267, 1, [(2, 0, 0, 12), (0, -2147483648, 2147483647, 1)], none, [], 0, [106, 52012], [((2, 590, 51), 0, 188)], [], [((2, 590, 51), 0, 189)])
def ta_X12_writes_at_188 : List aL := [(0, ([(0, ((2, 0, 0, 12), (0, 0, 0), (0, 0), [])), (1, ((0, -2147483648, 2147483647, 1), (0, 0, 0), (0, 0), []))], [], [((2, 590, 51), 0, 188)]), 0, [])]
def bl_X12_writes_at_188 : List aB := [(0, vb_X12_writes_0, none)]
def cz_X12_writes_at_188 : List (Nat × aC) := []
theorem ck_X12_writes_at_188 : csOK cz_X12_writes_at_188 := trivial
theorem cv_X12_writes_at_188 : blOK kd_X12_writes bl_X12_writes_at_188 := ⟨ve_X12_writes_0, trivial⟩
theorem ch_X12_writes_at_188 : amchk ta_X12_writes_at_188 bl_X12_writes_at_188 cz_X12_writes_at_188 cc_X12_writes_at_188 = true := by decide +kernel
theorem ct_X12_writes_at_188 : CtOK cc_X12_writes_at_188 := am_ok' (T := ta_X12_writes_at_188) (B := bl_X12_writes_at_188) (cs := cz_X12_writes_at_188) vm_X12_writes cv_X12_writes_at_188 (by decide +kernel) ch_X12_writes_at_188 ck_X12_writes_at_188
def cc_X12_writes_at_189 : aC := (267, 1, [(2, 0, 0, 12), (0, 58, 58, 0)], none, [], 0, [106, 52012], [((2, 590, 51), 0, 189)], [], [((2, 590, 51), 0, 190)])
def ta_X12_writes_at_189 : List aL := [(0, ([(0, ((2, 0, 0, 12), (0, 0, 0), (0, 0), [])), (1, ((0, 58, 58, 0), (0, 0, 0), (0, 0), []))], [], [((2, 590, 51), 0, 189)]), 0, [])]
def bl_X12_writes_at_189 : List aB := [(0, vb_X12_writes_0, none)]
def cz_X12_writes_at_189 : List (Nat × aC) := []
theorem ck_X12_writes_at_189 : csOK cz_X12_writes_at_189 := trivial
theorem cv_X12_writes_at_189 : blOK kd_X12_writes bl_X12_writes_at_189 := ⟨ve_X12_writes_0, trivial⟩
theorem ch_X12_writes_at_189 : amchk ta_X12_writes_at_189 bl_X12_writes_at_189 cz_X12_writes_at_189 cc_X12_writes_at_189 = true := by decide +kernel
theorem ct_X12_writes_at_189 : CtOK cc_X12_writes_at_189 := am_ok' (T := ta_X12_writes_at_189) (B := bl_X12_writes_at_189) (cs := cz_X12_writes_at_189) vm_X12_writes cv_X12_writes_at_189 (by decide +kernel) ch_X12_writes_at_189 ck_X12_writes_at_189
def cc_X12_writes_at_19 : aC := (267, 1, [(2, 0, 0, 12), (0, 59, 59, 0)], none, [], 0, [106, 52012], [((2, 590, 51), 0, 19)], [], [((2, 590, 51), 0, 20)])
def ta_X12_writes_at_19 : List aL := [(0, ([(0, ((2, 0, 0, 12), (0, 0, 0), (0, 0), [])), (1, ((0, 59, 59, 0), (0, 0, 0), (0, 0), []))], [], [((2, 590, 51), 0, 19)]), 0, [])]
def bl_X12_writes_at_19 : List aB := [(0, vb_X12_writes_0, none)]
def cz_X12_writes_at_19 : List (Nat × aC) := []
theorem ck_X12_writes_at_19 : csOK cz_X12_writes_at_19 := trivial
theorem cv_X12_writes_at_19 : blOK kd_X12_writes bl_X12_writes_at_19 := ⟨ve_X12_writes_0, trivial⟩
theorem ch_X12_writes_at_19 : amchk ta_X12_writes_at_19 bl_X12_writes_at_19 cz_X12_writes_at_19 cc_X12_writes_at_19 = true := by decide +kernel
theorem ct_X12_writes_at_19 : CtOK cc_X12_writes_at_19 := am_ok' (T := ta_X12_writes_at_19) (B := bl_X12_writes_at_19) (cs := cz_X12_writes_at_19) vm_X12_writes cv_X12_writes_at_19 (by decide +kernel) ch_X12_writes_at_19 ck_X12_writes_at_19
def cc_X12_writes_at_190 : aC := (267, 1, [(2, 0, 0, 12), (0, 48, 57, 1)], none, [], 0, [106, 52012], [((2, 590, 51), 0, 190)], [], [((2, 590, 51), 0, 191)])
def ta_X12_writes_at_190 : List aL := [(0, ([(0, ((2, 0, 0, 12), (0, 0, 0), (0, 0), [])), (1, ((0, 48, 57, 1), (0, 0, 0), (0, 0), []))], [], [((2, 590, 51), 0, 190)]), 0, [])]
def bl_X12_writes_at_190 : List aB := [(0, vb_X12_writes_0, none)]
def cz_X12_writes_at_190 : List (Nat × aC) := []
theorem ck_X12_writes_at_190 : csOK cz_X12_writes_at_190 := trivial
theorem cv_X12_writes_at_190 : blOK kd_X12_writes bl_X12_writes_at_190 := ⟨ve_X12_writes_0, trivial⟩
theorem ch_X12_writes_at_190 : amchk ta_X12_writes_at_190 bl_X12_writes_at_190 cz_X12_writes_at_190 cc_X12_writes_at_190 = true := by decide +kernel
theorem ct_X12_writes_at_190 : CtOK cc_X12_writes_at_190 := am_ok' (T := ta_X12_writes_at_190) (B := bl_X12_writes_at_190) (cs := cz_X12_writes_at_190) vm_X12_writes cv_X12_writes_at_190 (by decide +kernel) ch_X12_writes_at_190 ck_X12_writes_at_190
def cc_X12_writes_at_191 : aC := (267, 1, [(2, 0, 0, 12), (0, 48, 57, 1)], none, [], 0, [106, 52012], [((2, 590, 51), 0, 191)], [], [((2, 590, 51), 0, 192)])
def ta_X12_writes_at_191 : List aL := [(0, ([(0, ((2, 0, 0, 12), (0, 0, 0), (0, 0), [])), (1, ((0, 48, 57, 1), (0, 0, 0), (0, 0), []))], [], [((2, 590, 51), 0, 191)]), 0, [])]
def bl_X12_writes_at_191 : List aB := [(0, vb_X12_writes_0, none)]
def cz_X12_writes_at_191 : List (Nat × aC) := []
theorem ck_X12_writes_at_191 : csOK cz_X12_writes_at_191 := trivial
theorem cv_X12_writes_at_191 : blOK kd_X12_writes bl_X12_writes_at_191 := ⟨ve_X12_writes_0, trivial⟩
theorem ch_X12_writes_at_191 : amchk ta_X12_writes_at_191 bl_X12_writes_at_191 cz_X12_writes_at_191 cc_X12_writes_at_191 = true := by decide +kernel
theorem ct_X12_writes_at_191 : CtOK cc_X12_writes_at_191 := am_ok' (T := ta_X12_writes_at_191) (B := bl_X12_writes_at_191) (cs := cz_X12_writes_at_191) vm_X12_writes cv_X12_writes_at_191 (by decide +kernel) ch_X12_writes_at_191 ck_X12_writes_at_191
def cc_X12_writes_at_192 : aC := (267, 1, [(2, 0, 0, 12), (0, 48, 57, 1)], none, [], 0, [106, 52012], [((2, 590, 51), 0, 192)], [], [((2, 590, 51), 0, 193)])
def ta_X12_writes_at_192 : List aL := [(0, ([(0, ((2, 0, 0, 12), (0, 0, 0), (0, 0), [])), (1, ((0, 48, 57, 1), (0, 0, 0), (0, 0), []))], [], [((2, 590, 51), 0, 192)]), 0, [])]
def bl_X12_writes_at_192 : List aB := [(0, vb_X12_writes_0, none)]
def cz_X12_writes_at_192 : List (Nat × aC) := []
theorem ck_X12_writes_at_192 : csOK cz_X12_writes_at_192 := trivial
theorem cv_X12_writes_at_192 : blOK kd_X12_writes bl_X12_writes_at_192 := ⟨ve_X12_writes_0, trivial⟩
theorem ch_X12_writes_at_192 : amchk ta_X12_writes_at_192 bl_X12_writes_at_192 cz_X12_writes_at_192 cc_X12_writes_at_192 = true := by decide +kernel
theorem ct_X12_writes_at_192 : CtOK cc_X12_writes_at_192 := am_ok' (T := ta_X12_writes_at_192) (B := bl_X12_writes_at_192) (cs := cz_X12_writes_at_192) vm_X12_writes cv_X12_writes_at_192 (by decide +kernel) ch_X12_writes_at_192 ck_X12_writes_at_192
def cc_X12_writes_at_194 : aC := (267, 1, [(2, 0, 0, 12), (0, 42, 42, 0)], none, [], 0, [106, 52012], [((2, 590, 51), 0, 194)], [], [((2, 590, 51), 0, 195)])
def ta_X12_writes_at_194 : List aL := [(0, ([(0, ((2, 0, 0, 12), (0, 0, 0), (0, 0), [])), (1, ((0, 42, 42, 0), (0, 0, 0), (0, 0), []))], [], [((2, 590, 51), 0, 194)]), 0, [])]
def bl_X12_writes_at_194 : List aB := [(0, vb_X12_writes_0, none)]
def cz_X12_writes_at_194 : List (Nat × aC) := []
theorem ck_X12_writes_at_194 : csOK cz_X12_writes_at_194 := trivial
theorem cv_X12_writes_at_194 : blOK kd_X12_writes bl_X12_writes_at_194 := ⟨ve_X12_writes_0, trivial⟩
theorem ch_X12_writes_at_194 : amchk ta_X12_writes_at_194 bl_X12_writes_at_194 cz_X12_writes_at_194 cc_X12_writes_at_194 = true := by decide +kernel
theorem ct_X12_writes_at_194 : CtOK cc_X12_writes_at_194 := am_ok' (T := ta_X12_writes_at_194) (B := bl_X12_writes_at_194) (cs := cz_X12_writes_at_194) vm_X12_writes cv_X12_writes_at_194 (by decide +kernel) ch_X12_writes_at_194 ck_X12_writes_at_194
def cc_X12_writes_at_195 : aC := (267, 1, [(2, 0, 0, 12), (0, 48, 57, 1)], none, [], 0, [106, 52012], [((2, 590, 51), 0, 195)], [], [((2, 590, 51), 0, 196)])
def ta_X12_writes_at_195 : List aL := [(0, ([(0, ((2, 0, 0, 12), (0, 0, 0), (0, 0), [])), (1, ((0, 48, 57, 1), (0, 0, 0), (0, 0), []))], [], [((2, 590, 51), 0, 195)]), 0, [])]
def bl_X12_writes_at_195 : List aB := [(0, vb_X12_writes_0, none)]
def cz_X12_writes_at_195 : List (Nat × aC) := []
theorem ck_X12_writes_at_195 : csOK cz_X12_writes_at_195 := trivial
theorem cv_X12_writes_at_195 : blOK kd_X12_writes bl_X12_writes_at_195 := ⟨ve_X12_writes_0, trivial⟩
theorem ch_X12_writes_at_195 : amchk ta_X12_writes_at_195 bl_X12_writes_at_195 cz_X12_writes_at_195 cc_X12_writes_at_195 = true := by decide +kernel
theorem ct_X12_writes_at_195 : CtOK cc_X12_writes_at_195 := am_ok' (T := ta_X12_writes_at_195) (B := bl_X12_writes_at_195) (cs := cz_X12_writes_at_195) vm_X12_writes cv_X12_writes_at_195 (by decide +kernel) ch_X12_writes_at_195 ck_X12_writes_at_195
def cc_X12_writes_at_196 : aC := (267, 1, [(2, 0, 0, 12), (0, 48, 57, 1)], none, [], 0, [106, 52012], [((2, 590, 51), 0, 196)], [], [((2, 590, 51), 0, 197)])
def ta_X12_writes_at_196 : List aL := [(0, ([(0, ((2, 0, 0, 12), (0, 0, 0), (0, 0), [])), (1, ((0, 48, 57, 1), (0, 0, 0), (0, 0), []))], [], [((2, 590, 51), 0, 196)]), 0, [])]
def bl_X12_writes_at_196 : List aB := [(0, vb_X12_writes_0, none)]
def cz_X12_writes_at_196 : List (Nat × aC) := []
theorem ck_X12_writes_at_196 : csOK cz_X12_writes_at_196 := trivial
theorem cv_X12_writes_at_196 : blOK kd_X12_writes bl_X12_writes_at_196 := ⟨ve_X12_writes_0, trivial⟩
theorem ch_X12_writes_at_196 : amchk ta_X12_writes_at_196 bl_X12_writes_at_196 cz_X12_writes_at_196 cc_X12_writes_at_196 = true := by decide +kernel
theorem ct_X12_writes_at_196 : CtOK cc_X12_writes_at_196 := am_ok' (T := ta_X12_writes_at_196) (B := bl_X12_writes_at_196) (cs := cz_X12_writes_at_196) vm_X12_writes cv_X12_writes_at_196 (by decide +kernel) ch_X12_writes_at_196 ck_X12_writes_at_196
def cc_X12_writes_at_197 : aC := (267, 1, [(2, 0, 0, 12), (0, 48, 57, 1)], none, [], 0, [106, 52012], [((2, 590, 51), 0, 197)], [], [((2, 590, 51), 0, 198)])
def ta_X12_writes_at_197 : List aL := [(0, ([(0, ((2, 0, 0, 12), (0, 0, 0), (0, 0), [])), (1, ((0, 48, 57, 1), (0, 0, 0), (0, 0), []))], [], [((2, 590, 51), 0, 197)]), 0, [])]
def bl_X12_writes_at_197 : List aB := [(0, vb_X12_writes_0, none)]
def cz_X12_writes_at_197 : List (Nat × aC) := []
theorem ck_X12_writes_at_197 : csOK cz_X12_writes_at_197 := trivial
theorem cv_X12_writes_at_197 : blOK kd_X12_writes bl_X12_writes_at_197 := ⟨ve_X12_writes_0, trivial⟩
theorem ch_X12_writes_at_197 : amchk ta_X12_writes_at_197 bl_X12_writes_at_197 cz_X12_writes_at_197 cc_X12_writes_at_197 = true := by decide +kernel
theorem ct_X12_writes_at_197 : CtOK cc_X12_writes_at_197 := am_ok' (T := ta_X12_writes_at_197) (B := bl_X12_writes_at_197) (cs := cz_X12_writes_at_197) vm_X12_writes cv_X12_writes_at_197 (by decide +kernel) ch_X12_writes_at_197 ck_X12_writes_at_197
def cc_X12_writes_at_198 : aC := (267, 1, [(2, 0, 0, 12), (0, 48, 57, 1)], none, [], 0, [106, 52012], [((2, 590, 51), 0, 198)], [], [((2, 590, 51), 0, 199)])
def ta_X12_writes_at_198 : List aL := [(0, ([(0, ((2, 0, 0, 12), (0, 0, 0), (0, 0), [])), (1, ((0, 48, 57, 1), (0, 0, 0), (0, 0), []))], [], [((2, 590, 51), 0, 198)]), 0, [])]
def bl_X12_writes_at_198 : List aB := [(0, vb_X12_writes_0, none)]
def cz_X12_writes_at_198 : List (Nat × aC) := []
theorem ck_X12_writes_at_198 : csOK cz_X12_writes_at_198 := trivial
theorem cv_X12_writes_at_198 : blOK kd_X12_writes bl_X12_writes_at_198 := ⟨ve_X12_writes_0, trivial⟩
theorem ch_X12_writes_at_198 : amchk ta_X12_writes_at_198 bl_X12_writes_at_198 cz_X12_writes_at_198 cc_X12_writes_at_198 = true := by decide +kernel
theorem ct_X12_writes_at_198 : CtOK cc_X12_writes_at_198 := am_ok' (T := ta_X12_writes_at_198) (B := bl_X12_writes_at_198) (cs := cz_X12_writes_at_198) vm_X12_writes cv_X12_writes_at_198 (by decide +kernel) ch_X12_writes_at_198 ck_X12_writes_at_198
def cc_X12_writes_at_199 : aC := (267, 1, [(2, 0, 0, 12), (0, 59, 59, 0)], none, [], 0, [106, 52012], [((2, 590, 51), 0, 199)], [], [((2, 590, 51), 0, 200)])
def ta_X12_writes_at_199 : List aL := [(0, ([(0, ((2, 0, 0, 12), (0, 0, 0), (0, 0), [])), (1, ((0, 59, 59, 0), (0, 0, 0), (0, 0), []))], [], [((2, 590, 51), 0, 199)]), 0, [])]
def bl_X12_writes_at_199 : List aB := [(0, vb_X12_writes_0, none)]
def cz_X12_writes_at_199 : List (Nat × aC) := []
theorem ck_X12_writes_at_199 : csOK cz_X12_writes_at_199 := trivial
theorem cv_X12_writes_at_199 : blOK kd_X12_writes bl_X12_writes_at_199 := ⟨ve_X12_writes_0, trivial⟩
theorem ch_X12_writes_at_199 : amchk ta_X12_writes_at_199 bl_X12_writes_at_199 cz_X12_writes_at_199 cc_X12_writes_at_199 = true := by decide +kernel
theorem ct_X12_writes_at_199 : CtOK cc_X12_writes_at_199 := am_ok' (T := ta_X12_writes_at_199) (B := bl_X12_writes_at_199) (cs := cz_X12_writes_at_199) vm_X12_writes cv_X12_writes_at_199 (by decide +kernel) ch_X12_writes_at_199 ck_X12_writes_at_199
def cc_X12_writes_at_2 : aC := (267, 1, [(2, 0, 0, 12), (0, -2147483648, 2147483647, 1)], none, [], 0, [106, 52012], [((2, 590, 51), 0, 2)], [], [((2, 590, 51), 0, 3)])
def ta_X12_writes_at_2 : List aL := [(0, ([(0, ((2, 0, 0, 12), (0, 0, 0), (0, 0), [])), (1, ((0, -2147483648, 2147483647, 1), (0, 0, 0), (0, 0), []))], [], [((2, 590, 51), 0, 2)]), 0, [])]
def bl_X12_writes_at_2 : List aB := [(0, vb_X12_writes_0, none)]
def cz_X12_writes_at_2 : List (Nat × aC) := []
theorem ck_X12_writes_at_2 : csOK cz_X12_writes_at_2 := trivial
theorem cv_X12_writes_at_2 : blOK kd_X12_writes bl_X12_writes_at_2 := ⟨ve_X12_writes_0, trivial⟩
theorem ch_X12_writes_at_2 : amchk ta_X12_writes_at_2 bl_X12_writes_at_2 cz_X12_writes_at_2 cc_X12_writes_at_2 = true := by decide +kernel
theorem ct_X12_writes_at_2 : CtOK cc_X12_writes_at_2 := am_ok' (T := ta_X12_writes_at_2) (B := bl_X12_writes_at_2) (cs := cz_X12_writes_at_2) vm_X12_writes cv_X12_writes_at_2 (by decide +kernel) ch_X12_writes_at_2 ck_X12_writes_at_2
def cc_X12_writes_at_20 : aC := (267, 1, [(2, 0, 0, 12), (0, 98, 98, 0)], none, [], 0, [106, 52012], [((2, 590, 51), 0, 20)], [], [((2, 590, 51), 0, 21)])
def ta_X12_writes_at_20 : List aL := [(0, ([(0, ((2, 0, 0, 12), (0, 0, 0), (0, 0), [])), (1, ((0, 98, 98, 0), (0, 0, 0), (0, 0), []))], [], [((2, 590, 51), 0, 20)]), 0, [])]
def bl_X12_writes_at_20 : List aB := [(0, vb_X12_writes_0, none)]
def cz_X12_writes_at_20 : List (Nat × aC) := []
theorem ck_X12_writes_at_20 : csOK cz_X12_writes_at_20 := trivial
theorem cv_X12_writes_at_20 : blOK kd_X12_writes bl_X12_writes_at_20 := ⟨ve_X12_writes_0, trivial⟩
theorem ch_X12_writes_at_20 : amchk ta_X12_writes_at_20 bl_X12_writes_at_20 cz_X12_writes_at_20 cc_X12_writes_at_20 = true := by decide +kernel
theorem ct_X12_writes_at_20 : CtOK cc_X12_writes_at_20 := am_ok' (T := ta_X12_writes_at_20) (B := bl_X12_writes_at_20) (cs := cz_X12_writes_at_20) vm_X12_writes cv_X12_writes_at_20 (by decide +kernel) ch_X12_writes_at_20 ck_X12_writes_at_20
def cc_X12_writes_at_200 : aC := (267, 1, [(2, 0, 0, 12), (0, 98, 98, 0)], none, [], 0, [106, 52012], [((2, 590, 51), 0, 200)], [], [((2, 590, 51), 0, 201)])
def ta_X12_writes_at_200 : List aL := [(0, ([(0, ((2, 0, 0, 12), (0, 0, 0), (0, 0), [])), (1, ((0, 98, 98, 0), (0, 0, 0), (0, 0), []))], [], [((2, 590, 51), 0, 200)]), 0, [])]
def bl_X12_writes_at_200 : List aB := [(0, vb_X12_writes_0, none)]
def cz_X12_writes_at_200 : List (Nat × aC) := []
theorem ck_X12_writes_at_200 : csOK cz_X12_writes_at_200 := trivial
theorem cv_X12_writes_at_200 : blOK kd_X12_writes bl_X12_writes_at_200 := ⟨ve_X12_writes_0, trivial⟩
theorem ch_X12_writes_at_200 : amchk ta_X12_writes_at_200 bl_X12_writes_at_200 cz_X12_writes_at_200 cc_X12_writes_at_200 = true := by decide +kernel
theorem ct_X12_writes_at_200 : CtOK cc_X12_writes_at_200 := am_ok' (T := ta_X12_writes_at_200) (B := bl_X12_writes_at_200) (cs := cz_X12_writes_at_200) vm_X12_writes cv_X12_writes_at_200 (by decide +kernel) ch_X12_writes_at_200 ck_X12_writes_at_200
def cc_X12_writes_at_201 : aC := (267, 1, [(2, 0, 0, 12), (0, -2147483648, 2147483647, 1)], none, [], 0, [106, 52012], [((2, 590, 51), 0, 201)], [], [((2, 590, 51), 0, 202)])
def ta_X12_writes_at_201 : List aL := [(0, ([(0, ((2, 0, 0, 12), (0, 0, 0), (0, 0), [])), (1, ((0, -2147483648, 2147483647, 1), (0, 0, 0), (0, 0), []))], [], [((2, 590, 51), 0, 201)]), 0, [])]
def bl_X12_writes_at_201 : List aB := [(0, vb_X12_writes_0, none)]
def cz_X12_writes_at_201 : List (Nat × aC) := []
theorem ck_X12_writes_at_201 : csOK cz_X12_writes_at_201 := trivial
theorem cv_X12_writes_at_201 : blOK kd_X12_writes bl_X12_writes_at_201 := ⟨ve_X12_writes_0, trivial⟩
theorem ch_X12_writes_at_201 : amchk ta_X12_writes_at_201 bl_X12_writes_at_201 cz_X12_writes_at_201 cc_X12_writes_at_201 = true := by decide +kernel
theorem ct_X12_writes_at_201 : CtOK cc_X12_writes_at_201 := am_ok' (T := ta_X12_writes_at_201) (B := bl_X12_writes_at_201) (cs := cz_X12_writes_at_201) vm_X12_writes cv_X12_writes_at_201 (by decide +kernel) ch_X12_writes_at_201 ck_X12_writes_at_201
def cc_X12_writes_at_202 : aC := (267, 1, [(2, 0, 0, 12), (0, -2147483648, 2147483647, 1)], none, [], 0, [106, 52012], [((2, 590, 51), 0, 202)], [], [((2, 590, 51), 0, 203)])
def ta_X12_writes_at_202 : List aL := [(0, ([(0, ((2, 0, 0, 12), (0, 0, 0), (0, 0), [])), (1, ((0, -2147483648, 2147483647, 1), (0, 0, 0), (0, 0), []))], [], [((2, 590, 51), 0, 202)]), 0, [])]
def bl_X12_writes_at_202 : List aB := [(0, vb_X12_writes_0, none)]
def cz_X12_writes_at_202 : List (Nat × aC) := []
theorem ck_X12_writes_at_202 : csOK cz_X12_writes_at_202 := trivial
theorem cv_X12_writes_at_202 : blOK kd_X12_writes bl_X12_writes_at_202 := ⟨ve_X12_writes_0, trivial⟩
theorem ch_X12_writes_at_202 : amchk ta_X12_writes_at_202 bl_X12_writes_at_202 cz_X12_writes_at_202 cc_X12_writes_at_202 = true := by decide +kernel
theorem ct_X12_writes_at_202 : CtOK cc_X12_writes_at_202 := am_ok' (T := ta_X12_writes_at_202) (B := bl_X12_writes_at_202) (cs := cz_X12_writes_at_202) vm_X12_writes cv_X12_writes_at_202 (by decide +kernel) ch_X12_writes_at_202 ck_X12_writes_at_202
def cc_X12_writes_at_203 : aC := (267, 1, [(2, 0, 0, 12), (0, -2147483648, 2147483647, 1)], none, [], 0, [106, 52012], [((2, 590, 51), 0, 203)], [], [((2, 590, 51), 0, 204)])
def ta_X12_writes_at_203 : List aL := [(0, ([(0, ((2, 0, 0, 12), (0, 0, 0), (0, 0), [])), (1, ((0, -2147483648, 2147483647, 1), (0, 0, 0), (0, 0), []))], [], [((2, 590, 51), 0, 203)]), 0, [])]
def bl_X12_writes_at_203 : List aB := [(0, vb_X12_writes_0, none)]
def cz_X12_writes_at_203 : List (Nat × aC) := []
theorem ck_X12_writes_at_203 : csOK cz_X12_writes_at_203 := trivial
theorem cv_X12_writes_at_203 : blOK kd_X12_writes bl_X12_writes_at_203 := ⟨ve_X12_writes_0, trivial⟩
theorem ch_X12_writes_at_203 : amchk ta_X12_writes_at_203 bl_X12_writes_at_203 cz_X12_writes_at_203 cc_X12_writes_at_203 = true := by decide +kernel
theorem ct_X12_writes_at_203 : CtOK cc_X12_writes_at_203 := am_ok' (T := ta_X12_writes_at_203) (B := bl_X12_writes_at_203) (cs := cz_X12_writes_at_203) vm_X12_writes cv_X12_writes_at_203 (by decide +kernel) ch_X12_writes_at_203 ck_X12_writes_at_203
def cc_X12_writes_at_204 : aC := (267, 1, [(2, 0, 0, 12), (0, -2147483648, 2147483647, 1)], none, [], 0, [106, 52012], [((2, 590, 51), 0, 204)], [], [((2, 590, 51), 0, 205)])
def ta_X12_writes_at_204 : List aL := [(0, ([(0, ((2, 0, 0, 12), (0, 0, 0), (0, 0), [])), (1, ((0, -2147483648, 2147483647, 1), (0, 0, 0), (0, 0), []))], [], [((2, 590, 51), 0, 204)]), 0, [])]
def bl_X12_writes_at_204 : List aB := [(0, vb_X12_writes_0, none)]
def cz_X12_writes_at_204 : List (Nat × aC) := []
theorem ck_X12_writes_at_204 : csOK cz_X12_writes_at_204 := trivial
theorem cv_X12_writes_at_204 : blOK kd_X12_writes bl_X12_writes_at_204 := ⟨ve_X12_writes_0, trivial⟩
theorem ch_X12_writes_at_204 : amchk ta_X12_writes_at_204 bl_X12_writes_at_204 cz_X12_writes_at_204 cc_X12_writes_at_204 = true := by decide +kernel
theorem ct_X12_writes_at_204 : CtOK cc_X12_writes_at_204 := am_ok' (T := ta_X12_writes_at_204) (B := bl_X12_writes_at_204) (cs := cz_X12_writes_at_204) vm_X12_writes cv_X12_writes_at_204 (by decide +kernel) ch_X12_writes_at_204 ck_X12_writes_at_204
def cc_X12_writes_at_205 : aC := (267, 1, [(2, 0, 0, 12), (0, -2147483648, 2147483647, 1)], none, [], 0, [106, 52012], [((2, 590, 51), 0, 205)], [], [((2, 590, 51), 0, 206)])
def ta_X12_writes_at_205 : List aL := [(0, ([(0, ((2, 0, 0, 12), (0, 0, 0), (0, 0), [])), (1, ((0, -2147483648, 2147483647, 1), (0, 0, 0), (0, 0), []))], [], [((2, 590, 51), 0, 205)]), 0, [])]
def bl_X12_writes_at_205 : List aB := [(0, vb_X12_writes_0, none)]
def cz_X12_writes_at_205 : List (Nat × aC) := []
theorem ck_X12_writes_at_205 : csOK cz_X12_writes_at_205 := trivial
theorem cv_X12_writes_at_205 : blOK kd_X12_writes bl_X12_writes_at_205 := ⟨ve_X12_writes_0, trivial⟩
theorem ch_X12_writes_at_205 : amchk ta_X12_writes_at_205 bl_X12_writes_at_205 cz_X12_writes_at_205 cc_X12_writes_at_205 = true := by decide +kernel
theorem ct_X12_writes_at_205 : CtOK cc_X12_writes_at_205 := am_ok' (T := ta_X12_writes_at_205) (B := bl_X12_writes_at_205) (cs := cz_X12_writes_at_205) vm_X12_writes cv_X12_writes_at_205 (by decide +kernel) ch_X12_writes_at_205 ck_X12_writes_at_205
def cc_X12_writes_at_206 : aC := (267, 1, [(2, 0, 0, 12), (0, -2147483648, 2147483647, 1)], none, [], 0, [106, 52012], [((2, 590, 51), 0, 206)], [], [((2, 590, 51), 0, 207)])
def ta_X12_writes_at_206 : List aL := [(0, ([(0, ((2, 0, 0, 12), (0, 0, 0), (0, 0), [])), (1, ((0, -2147483648, 2147483647, 1), (0, 0, 0), (0, 0), []))], [], [((2, 590, 51), 0, 206)]), 0, [])]
def bl_X12_writes_at_206 : List aB := [(0, vb_X12_writes_0, none)]
def cz_X12_writes_at_206 : List (Nat × aC) := []
theorem ck_X12_writes_at_206 : csOK cz_X12_writes_at_206 := trivial
theorem cv_X12_writes_at_206 : blOK kd_X12_writes bl_X12_writes_at_206 := ⟨ve_X12_writes_0, trivial⟩
theorem ch_X12_writes_at_206 : amchk ta_X12_writes_at_206 bl_X12_writes_at_206 cz_X12_writes_at_206 cc_X12_writes_at_206 = true := by decide +kernel
theorem ct_X12_writes_at_206 : CtOK cc_X12_writes_at_206 := am_ok' (T := ta_X12_writes_at_206) (B := bl_X12_writes_at_206) (cs := cz_X12_writes_at_206) vm_X12_writes cv_X12_writes_at_206 (by decide +kernel) ch_X12_writes_at_206 ck_X12_writes_at_206
def cc_X12_writes_at_207 : aC := (267, 1, [(2, 0, 0, 12), (0, -2147483648, 2147483647, 1)], none, [], 0, [106, 52012], [((2, 590, 51), 0, 207)], [], [((2, 590, 51), 0, 208)])
def ta_X12_writes_at_207 : List aL := [(0, ([(0, ((2, 0, 0, 12), (0, 0, 0), (0, 0), [])), (1, ((0, -2147483648, 2147483647, 1), (0, 0, 0), (0, 0), []))], [], [((2, 590, 51), 0, 207)]), 0, [])]
def bl_X12_writes_at_207 : List aB := [(0, vb_X12_writes_0, none)]
def cz_X12_writes_at_207 : List (Nat × aC) := []
theorem ck_X12_writes_at_207 : csOK cz_X12_writes_at_207 := trivial
theorem cv_X12_writes_at_207 : blOK kd_X12_writes bl_X12_writes_at_207 := ⟨ve_X12_writes_0, trivial⟩
theorem ch_X12_writes_at_207 : amchk ta_X12_writes_at_207 bl_X12_writes_at_207 cz_X12_writes_at_207 cc_X12_writes_at_207 = true := by decide +kernel
theorem ct_X12_writes_at_207 : CtOK cc_X12_writes_at_207 := am_ok' (T := ta_X12_writes_at_207) (B := bl_X12_writes_at_207) (cs := cz_X12_writes_at_207) vm_X12_writes cv_X12_writes_at_207 (by decide +kernel) ch_X12_writes_at_207 ck_X12_writes_at_207
def cc_X12_writes_at_208 : aC := (267, 1, [(2, 0, 0, 12), (0, -2147483648, 2147483647, 1)], none, [], 0, [106, 52012], [((2, 590, 51), 0, 208)], [], [((2, 590, 51), 0, 209)])
def ta_X12_writes_at_208 : List aL := [(0, ([(0, ((2, 0, 0, 12), (0, 0, 0), (0, 0), [])), (1, ((0, -2147483648, 2147483647, 1), (0, 0, 0), (0, 0), []))], [], [((2, 590, 51), 0, 208)]), 0, [])]
def bl_X12_writes_at_208 : List aB := [(0, vb_X12_writes_0, none)]
def cz_X12_writes_at_208 : List (Nat × aC) := []
theorem ck_X12_writes_at_208 : csOK cz_X12_writes_at_208 := trivial
theorem cv_X12_writes_at_208 : blOK kd_X12_writes bl_X12_writes_at_208 := ⟨ve_X12_writes_0, trivial⟩
theorem ch_X12_writes_at_208 : amchk ta_X12_writes_at_208 bl_X12_writes_at_208 cz_X12_writes_at_208 cc_X12_writes_at_208 = true := by decide +kernel
theorem ct_X12_writes_at_208 : CtOK cc_X12_writes_at_208 := am_ok' (T := ta_X12_writes_at_208) (B := bl_X12_writes_at_208) (cs := cz_X12_writes_at_208) vm_X12_writes cv_X12_writes_at_208 (by decide +kernel) ch_X12_writes_at_208 ck_X12_writes_at_208
def cc_X12_writes_at_209 : aC := (267, 1, [(2, 0, 0, 12), (0, 58, 58, 0)], none, [], 0, [106, 52012], [((2, 590, 51), 0, 209)], [], [((2, 590, 51), 0, 210)])
def ta_X12_writes_at_209 : List aL := [(0, ([(0, ((2, 0, 0, 12), (0, 0, 0), (0, 0), [])), (1, ((0, 58, 58, 0), (0, 0, 0), (0, 0), []))], [], [((2, 590, 51), 0, 209)]), 0, [])]
def bl_X12_writes_at_209 : List aB := [(0, vb_X12_writes_0, none)]
def cz_X12_writes_at_209 : List (Nat × aC) := []
theorem ck_X12_writes_at_209 : csOK cz_X12_writes_at_209 := trivial
theorem cv_X12_writes_at_209 : blOK kd_X12_writes bl_X12_writes_at_209 := ⟨ve_X12_writes_0, trivial⟩
theorem ch_X12_writes_at_209 : amchk ta_X12_writes_at_209 bl_X12_writes_at_209 cz_X12_writes_at_209 cc_X12_writes_at_209 = true := by decide +kernel
theorem ct_X12_writes_at_209 : CtOK cc_X12_writes_at_209 := am_ok' (T := ta_X12_writes_at_209) (B := bl_X12_writes_at_209) (cs := cz_X12_writes_at_209) vm_X12_writes cv_X12_writes_at_209 (by decide +kernel) ch_X12_writes_at_209 ck_X12_writes_at_209
def cc_X12_writes_at_21 : aC := (267, 1, [(2, 0, 0, 12), (0, -2147483648, 2147483647, 1)], none, [], 0, [106, 52012], [((2, 590, 51), 0, 21)], [], [((2, 590, 51), 0, 22)])
def ta_X12_writes_at_21 : List aL := [(0, ([(0, ((2, 0, 0, 12), (0, 0, 0), (0, 0), [])), (1, ((0, -2147483648, 2147483647, 1), (0, 0, 0), (0, 0), []))], [], [((2, 590, 51), 0, 21)]), 0, [])]
def bl_X12_writes_at_21 : List aB := [(0, vb_X12_writes_0, none)]
def cz_X12_writes_at_21 : List (Nat × aC) := []
theorem ck_X12_writes_at_21 : csOK cz_X12_writes_at_21 := trivial
theorem cv_X12_writes_at_21 : blOK kd_X12_writes bl_X12_writes_at_21 := ⟨ve_X12_writes_0, trivial⟩
theorem ch_X12_writes_at_21 : amchk ta_X12_writes_at_21 bl_X12_writes_at_21 cz_X12_writes_at_21 cc_X12_writes_at_21 = true := by decide +kernel
theorem ct_X12_writes_at_21 : CtOK cc_X12_writes_at_21 := am_ok' (T := ta_X12_writes_at_21) (B := bl_X12_writes_at_21) (cs := cz_X12_writes_at_21) vm_X12_writes cv_X12_writes_at_21 (by decide +kernel) ch_X12_writes_at_21 ck_X12_writes_at_21
def cc_X12_writes_at_210 : aC := (267, 1, [(2, 0, 0, 12), (0, 48, 57, 1)], none, [], 0, [106, 52012], [((2, 590, 51), 0, 210)], [], [((2, 590, 51), 0, 211)])
def ta_X12_writes_at_210 : List aL := [(0, ([(0, ((2, 0, 0, 12), (0, 0, 0), (0, 0), [])), (1, ((0, 48, 57, 1), (0, 0, 0), (0, 0), []))], [], [((2, 590, 51), 0, 210)]), 0, [])]
def bl_X12_writes_at_210 : List aB := [(0, vb_X12_writes_0, none)]
def cz_X12_writes_at_210 : List (Nat × aC) := []
theorem ck_X12_writes_at_210 : csOK cz_X12_writes_at_210 := trivial
theorem cv_X12_writes_at_210 : blOK kd_X12_writes bl_X12_writes_at_210 := ⟨ve_X12_writes_0, trivial⟩
theorem ch_X12_writes_at_210 : amchk ta_X12_writes_at_210 bl_X12_writes_at_210 cz_X12_writes_at_210 cc_X12_writes_at_210 = true := by decide +kernel
theorem ct_X12_writes_at_210 : CtOK cc_X12_writes_at_210 := am_ok' (T := ta_X12_writes_at_210) (B := bl_X12_writes_at_210) (cs := cz_X12_writes_at_210) vm_X12_writes cv_X12_writes_at_210 (by decide +kernel) ch_X12_writes_at_210 ck_X12_writes_at_210
def cc_X12_writes_at_211 : aC := (267, 1, [(2, 0, 0, 12), (0, 48, 57, 1)], none, [], 0, [106, 52012], [((2, 590, 51), 0, 211)], [], [((2, 590, 51), 0, 212)])
def ta_X12_writes_at_211 : List aL := [(0, ([(0, ((2, 0, 0, 12), (0, 0, 0), (0, 0), [])), (1, ((0, 48, 57, 1), (0, 0, 0), (0, 0), []))], [], [((2, 590, 51), 0, 211)]), 0, [])]
def bl_X12_writes_at_211 : List aB := [(0, vb_X12_writes_0, none)]
def cz_X12_writes_at_211 : List (Nat × aC) := []
theorem ck_X12_writes_at_211 : csOK cz_X12_writes_at_211 := trivial
theorem cv_X12_writes_at_211 : blOK kd_X12_writes bl_X12_writes_at_211 := ⟨ve_X12_writes_0, trivial⟩
theorem ch_X12_writes_at_211 : amchk ta_X12_writes_at_211 bl_X12_writes_at_211 cz_X12_writes_at_211 cc_X12_writes_at_211 = true := by decide +kernel
theorem ct_X12_writes_at_211 : CtOK cc_X12_writes_at_211 := am_ok' (T := ta_X12_writes_at_211) (B := bl_X12_writes_at_211) (cs := cz_X12_writes_at_211) vm_X12_writes cv_X12_writes_at_211 (by decide +kernel) ch_X12_writes_at_211 ck_X12_writes_at_211
def cc_X12_writes_at_212 : aC := (267, 1, [(2, 0, 0, 12), (0, 48, 57, 1)], none, [], 0, [106, 52012], [((2, 590, 51), 0, 212)], [], [((2, 590, 51), 0, 213)])
def ta_X12_writes_at_212 : List aL := [(0, ([(0, ((2, 0, 0, 12), (0, 0, 0), (0, 0), [])), (1, ((0, 48, 57, 1), (0, 0, 0), (0, 0), []))], [], [((2, 590, 51), 0, 212)]), 0, [])]
def bl_X12_writes_at_212 : List aB := [(0, vb_X12_writes_0, none)]
def cz_X12_writes_at_212 : List (Nat × aC) := []
theorem ck_X12_writes_at_212 : csOK cz_X12_writes_at_212 := trivial
theorem cv_X12_writes_at_212 : blOK kd_X12_writes bl_X12_writes_at_212 := ⟨ve_X12_writes_0, trivial⟩
theorem ch_X12_writes_at_212 : amchk ta_X12_writes_at_212 bl_X12_writes_at_212 cz_X12_writes_at_212 cc_X12_writes_at_212 = true := by decide +kernel
theorem ct_X12_writes_at_212 : CtOK cc_X12_writes_at_212 := am_ok' (T := ta_X12_writes_at_212) (B := bl_X12_writes_at_212) (cs := cz_X12_writes_at_212) vm_X12_writes cv_X12_writes_at_212 (by decide +kernel) ch_X12_writes_at_212 ck_X12_writes_at_212
def cc_X12_writes_at_214 : aC := (267, 1, [(2, 0, 0, 12), (0, 42, 42, 0)], none, [], 0, [106, 52012], [((2, 590, 51), 0, 214)], [], [((2, 590, 51), 0, 215)])
def ta_X12_writes_at_214 : List aL := [(0, ([(0, ((2, 0, 0, 12), (0, 0, 0), (0, 0), [])), (1, ((0, 42, 42, 0), (0, 0, 0), (0, 0), []))], [], [((2, 590, 51), 0, 214)]), 0, [])]
def bl_X12_writes_at_214 : List aB := [(0, vb_X12_writes_0, none)]
def cz_X12_writes_at_214 : List (Nat × aC) := []
theorem ck_X12_writes_at_214 : csOK cz_X12_writes_at_214 := trivial
theorem cv_X12_writes_at_214 : blOK kd_X12_writes bl_X12_writes_at_214 := ⟨ve_X12_writes_0, trivial⟩
theorem ch_X12_writes_at_214 : amchk ta_X12_writes_at_214 bl_X12_writes_at_214 cz_X12_writes_at_214 cc_X12_writes_at_214 = true := by decide +kernel
theorem ct_X12_writes_at_214 : CtOK cc_X12_writes_at_214 := am_ok' (T := ta_X12_writes_at_214) (B := bl_X12_writes_at_214) (cs := cz_X12_writes_at_214) vm_X12_writes cv_X12_writes_at_214 (by decide +kernel) ch_X12_writes_at_214 ck_X12_writes_at_214
def cc_X12_writes_at_215 : aC := (267, 1, [(2, 0, 0, 12), (0, 48, 57, 1)], none, [], 0, [106, 52012], [((2, 590, 51), 0, 215)], [], [((2, 590, 51), 0, 216)])
def ta_X12_writes_at_215 : List aL := [(0, ([(0, ((2, 0, 0, 12), (0, 0, 0), (0, 0), [])), (1, ((0, 48, 57, 1), (0, 0, 0), (0, 0), []))], [], [((2, 590, 51), 0, 215)]), 0, [])]
def bl_X12_writes_at_215 : List aB := [(0, vb_X12_writes_0, none)]
def cz_X12_writes_at_215 : List (Nat × aC) := []
theorem ck_X12_writes_at_215 : csOK cz_X12_writes_at_215 := trivial
theorem cv_X12_writes_at_215 : blOK kd_X12_writes bl_X12_writes_at_215 := ⟨ve_X12_writes_0, trivial⟩
theorem ch_X12_writes_at_215 : amchk ta_X12_writes_at_215 bl_X12_writes_at_215 cz_X12_writes_at_215 cc_X12_writes_at_215 = true := by decide +kernel
theorem ct_X12_writes_at_215 : CtOK cc_X12_writes_at_215 := am_ok' (T := ta_X12_writes_at_215) (B := bl_X12_writes_at_215) (cs := cz_X12_writes_at_215) vm_X12_writes cv_X12_writes_at_215 (by decide +kernel) ch_X12_writes_at_215 ck_X12_writes_at_215
def cc_X12_writes_at_216 : aC := (267, 1, [(2, 0, 0, 12), (0, 48, 57, 1)], none, [], 0, [106, 52012], [((2, 590, 51), 0, 216)], [], [((2, 590, 51), 0, 217)])
def ta_X12_writes_at_216 : List aL := [(0, ([(0, ((2, 0, 0, 12), (0, 0, 0), (0, 0), [])), (1, ((0, 48, 57, 1), (0, 0, 0), (0, 0), []))], [], [((2, 590, 51), 0, 216)]), 0, [])]
def bl_X12_writes_at_216 : List aB := [(0, vb_X12_writes_0, none)]
def cz_X12_writes_at_216 : List (Nat × aC) := []
theorem ck_X12_writes_at_216 : csOK cz_X12_writes_at_216 := trivial
theorem cv_X12_writes_at_216 : blOK kd_X12_writes bl_X12_writes_at_216 := ⟨ve_X12_writes_0, trivial⟩
theorem ch_X12_writes_at_216 : amchk ta_X12_writes_at_216 bl_X12_writes_at_216 cz_X12_writes_at_216 cc_X12_writes_at_216 = true := by decide +kernel
theorem ct_X12_writes_at_216 : CtOK cc_X12_writes_at_216 := am_ok' (T := ta_X12_writes_at_216) (B := bl_X12_writes_at_216) (cs := cz_X12_writes_at_216) vm_X12_writes cv_X12_writes_at_216 (by decide +kernel) ch_X12_writes_at_216 ck_X12_writes_at_216
def cc_X12_writes_at_217 : aC := (267, 1, [(2, 0, 0, 12), (0, 48, 57, 1)], none, [], 0, [106, 52012], [((2, 590, 51), 0, 217)], [], [((2, 590, 51), 0, 218)])
def ta_X12_writes_at_217 : List aL := [(0, ([(0, ((2, 0, 0, 12), (0, 0, 0), (0, 0), [])), (1, ((0, 48, 57, 1), (0, 0, 0), (0, 0), []))], [], [((2, 590, 51), 0, 217)]), 0, [])]
def bl_X12_writes_at_217 : List aB := [(0, vb_X12_writes_0, none)]
def cz_X12_writes_at_217 : List (Nat × aC) := []
theorem ck_X12_writes_at_217 : csOK cz_X12_writes_at_217 := trivial
theorem cv_X12_writes_at_217 : blOK kd_X12_writes bl_X12_writes_at_217 := ⟨ve_X12_writes_0, trivial⟩
theorem ch_X12_writes_at_217 : amchk ta_X12_writes_at_217 bl_X12_writes_at_217 cz_X12_writes_at_217 cc_X12_writes_at_217 = true := by decide +kernel
theorem ct_X12_writes_at_217 : CtOK cc_X12_writes_at_217 := am_ok' (T := ta_X12_writes_at_217) (B := bl_X12_writes_at_217) (cs := cz_X12_writes_at_217) vm_X12_writes cv_X12_writes_at_217 (by decide +kernel) ch_X12_writes_at_217 ck_X12_writes_at_217
def cc_X12_writes_at_218 : aC := (267, 1, [(2, 0, 0, 12), (0, 48, 57, 1)], none, [], 0, [106, 52012], [((2, 590, 51), 0, 218)], [], [((2, 590, 51), 0, 219)])
def ta_X12_writes_at_218 : List aL := [(0, ([(0, ((2, 0, 0, 12), (0, 0, 0), (0, 0), [])), (1, ((0, 48, 57, 1), (0, 0, 0), (0, 0), []))], [], [((2, 590, 51), 0, 218)]), 0, [])]
def bl_X12_writes_at_218 : List aB := [(0, vb_X12_writes_0, none)]
def cz_X12_writes_at_218 : List (Nat × aC) := []
theorem ck_X12_writes_at_218 : csOK cz_X12_writes_at_218 := trivial
theorem cv_X12_writes_at_218 : blOK kd_X12_writes bl_X12_writes_at_218 := ⟨ve_X12_writes_0, trivial⟩
theorem ch_X12_writes_at_218 : amchk ta_X12_writes_at_218 bl_X12_writes_at_218 cz_X12_writes_at_218 cc_X12_writes_at_218 = true := by decide +kernel
theorem ct_X12_writes_at_218 : CtOK cc_X12_writes_at_218 := am_ok' (T := ta_X12_writes_at_218) (B := bl_X12_writes_at_218) (cs := cz_X12_writes_at_218) vm_X12_writes cv_X12_writes_at_218 (by decide +kernel) ch_X12_writes_at_218 ck_X12_writes_at_218
def cc_X12_writes_at_219 : aC := (267, 1, [(2, 0, 0, 12), (0, 59, 59, 0)], none, [], 0, [106, 52012], [((2, 590, 51), 0, 219)], [], [((2, 590, 51), 0, 220)])
def ta_X12_writes_at_219 : List aL := [(0, ([(0, ((2, 0, 0, 12), (0, 0, 0), (0, 0), [])), (1, ((0, 59, 59, 0), (0, 0, 0), (0, 0), []))], [], [((2, 590, 51), 0, 219)]), 0, [])]
def bl_X12_writes_at_219 : List aB := [(0, vb_X12_writes_0, none)]
def cz_X12_writes_at_219 : List (Nat × aC) := []
theorem ck_X12_writes_at_219 : csOK cz_X12_writes_at_219 := trivial
theorem cv_X12_writes_at_219 : blOK kd_X12_writes bl_X12_writes_at_219 := ⟨ve_X12_writes_0, trivial⟩
theorem ch_X12_writes_at_219 : amchk ta_X12_writes_at_219 bl_X12_writes_at_219 cz_X12_writes_at_219 cc_X12_writes_at_219 = true := by decide +kernel
theorem ct_X12_writes_at_219 : CtOK cc_X12_writes_at_219 := am_ok' (T := ta_X12_writes_at_219) (B := bl_X12_writes_at_219) (cs := cz_X12_writes_at_219) vm_X12_writes cv_X12_writes_at_219 (by decide +kernel) ch_X12_writes_at_219 ck_X12_writes_at_219
def cc_X12_writes_at_22 : aC := (267, 1, [(2, 0, 0, 12), (0, -2147483648, 2147483647, 1)], none, [], 0, [106, 52012], [((2, 590, 51), 0, 22)], [], [((2, 590, 51), 0, 23)])
def ta_X12_writes_at_22 : List aL := [(0, ([(0, ((2, 0, 0, 12), (0, 0, 0), (0, 0), [])), (1, ((0, -2147483648, 2147483647, 1), (0, 0, 0), (0, 0), []))], [], [((2, 590, 51), 0, 22)]), 0, [])]
def bl_X12_writes_at_22 : List aB := [(0, vb_X12_writes_0, none)]
def cz_X12_writes_at_22 : List (Nat × aC) := []
theorem ck_X12_writes_at_22 : csOK cz_X12_writes_at_22 := trivial
theorem cv_X12_writes_at_22 : blOK kd_X12_writes bl_X12_writes_at_22 := ⟨ve_X12_writes_0, trivial⟩
theorem ch_X12_writes_at_22 : amchk ta_X12_writes_at_22 bl_X12_writes_at_22 cz_X12_writes_at_22 cc_X12_writes_at_22 = true := by decide +kernel
theorem ct_X12_writes_at_22 : CtOK cc_X12_writes_at_22 := am_ok' (T := ta_X12_writes_at_22) (B := bl_X12_writes_at_22) (cs := cz_X12_writes_at_22) vm_X12_writes cv_X12_writes_at_22 (by decide +kernel) ch_X12_writes_at_22 ck_X12_writes_at_22
def cc_X12_writes_at_220 : aC := (267, 1, [(2, 0, 0, 12), (0, 98, 98, 0)], none, [], 0, [106, 52012], [((2, 590, 51), 0, 220)], [], [((2, 590, 51), 0, 221)])
def ta_X12_writes_at_220 : List aL := [(0, ([(0, ((2, 0, 0, 12), (0, 0, 0), (0, 0), [])), (1, ((0, 98, 98, 0), (0, 0, 0), (0, 0), []))], [], [((2, 590, 51), 0, 220)]), 0, [])]
def bl_X12_writes_at_220 : List aB := [(0, vb_X12_writes_0, none)]
def cz_X12_writes_at_220 : List (Nat × aC) := []
theorem ck_X12_writes_at_220 : csOK cz_X12_writes_at_220 := trivial
theorem cv_X12_writes_at_220 : blOK kd_X12_writes bl_X12_writes_at_220 := ⟨ve_X12_writes_0, trivial⟩
theorem ch_X12_writes_at_220 : amchk ta_X12_writes_at_220 bl_X12_writes_at_220 cz_X12_writes_at_220 cc_X12_writes_at_220 = true := by decide +kernel
theorem ct_X12_writes_at_220 : CtOK cc_X12_writes_at_220 := am_ok' (T := ta_X12_writes_at_220) (B := bl_X12_writes_at_220) (cs := cz_X12_writes_at_220) vm_X12_writes cv_X12_writes_at_220 (by decide +kernel) ch_X12_writes_at_220 ck_X12_writes_at_220
def cc_X12_writes_at_221 : aC := (267, 1, [(2, 0, 0, 12), (0, -2147483648, 2147483647, 1)], none, [], 0, [106, 52012], [((2, 590, 51), 0, 221)], [], [((2, 590, 51), 0, 222)])
def ta_X12_writes_at_221 : List aL := [(0, ([(0, ((2, 0, 0, 12), (0, 0, 0), (0, 0), [])), (1, ((0, -2147483648, 2147483647, 1), (0, 0, 0), (0, 0), []))], [], [((2, 590, 51), 0, 221)]), 0, [])]
def bl_X12_writes_at_221 : List aB := [(0, vb_X12_writes_0, none)]
def cz_X12_writes_at_221 : List (Nat × aC) := []
theorem ck_X12_writes_at_221 : csOK cz_X12_writes_at_221 := trivial
theorem cv_X12_writes_at_221 : blOK kd_X12_writes bl_X12_writes_at_221 := ⟨ve_X12_writes_0, trivial⟩
theorem ch_X12_writes_at_221 : amchk ta_X12_writes_at_221 bl_X12_writes_at_221 cz_X12_writes_at_221 cc_X12_writes_at_221 = true := by decide +kernel
theorem ct_X12_writes_at_221 : CtOK cc_X12_writes_at_221 := am_ok' (T := ta_X12_writes_at_221) (B := bl_X12_writes_at_221) (cs := cz_X12_writes_at_221) vm_X12_writes cv_X12_writes_at_221 (by decide +kernel) ch_X12_writes_at_221 ck_X12_writes_at_221
def cc_X12_writes_at_222 : aC := (267, 1, [(2, 0, 0, 12), (0, -2147483648, 2147483647, 1)], none, [], 0, [106, 52012], [((2, 590, 51), 0, 222)], [], [((2, 590, 51), 0, 223)])
def ta_X12_writes_at_222 : List aL := [(0, ([(0, ((2, 0, 0, 12), (0, 0, 0), (0, 0), [])), (1, ((0, -2147483648, 2147483647, 1), (0, 0, 0), (0, 0), []))], [], [((2, 590, 51), 0, 222)]), 0, [])]
def bl_X12_writes_at_222 : List aB := [(0, vb_X12_writes_0, none)]
def cz_X12_writes_at_222 : List (Nat × aC) := []
theorem ck_X12_writes_at_222 : csOK cz_X12_writes_at_222 := trivial
theorem cv_X12_writes_at_222 : blOK kd_X12_writes bl_X12_writes_at_222 := ⟨ve_X12_writes_0, trivial⟩
theorem ch_X12_writes_at_222 : amchk ta_X12_writes_at_222 bl_X12_writes_at_222 cz_X12_writes_at_222 cc_X12_writes_at_222 = true := by decide +kernel
theorem ct_X12_writes_at_222 : CtOK cc_X12_writes_at_222 := am_ok' (T := ta_X12_writes_at_222) (B := bl_X12_writes_at_222) (cs := cz_X12_writes_at_222) vm_X12_writes cv_X12_writes_at_222 (by decide +kernel) ch_X12_writes_at_222 ck_X12_writes_at_222
def cc_X12_writes_at_223 : aC := (267, 1, [(2, 0, 0, 12), (0, -2147483648, 2147483647, 1)], none, [], 0, [106, 52012], [((2, 590, 51), 0, 223)], [], [((2, 590, 51), 0, 224)])
def ta_X12_writes_at_223 : List aL := [(0, ([(0, ((2, 0, 0, 12), (0, 0, 0), (0, 0), [])), (1, ((0, -2147483648, 2147483647, 1), (0, 0, 0), (0, 0), []))], [], [((2, 590, 51), 0, 223)]), 0, [])]
def bl_X12_writes_at_223 : List aB := [(0, vb_X12_writes_0, none)]
def cz_X12_writes_at_223 : List (Nat × aC) := []
theorem ck_X12_writes_at_223 : csOK cz_X12_writes_at_223 := trivial
theorem cv_X12_writes_at_223 : blOK kd_X12_writes bl_X12_writes_at_223 := ⟨ve_X12_writes_0, trivial⟩
theorem ch_X12_writes_at_223 : amchk ta_X12_writes_at_223 bl_X12_writes_at_223 cz_X12_writes_at_223 cc_X12_writes_at_223 = true := by decide +kernel
theorem ct_X12_writes_at_223 : CtOK cc_X12_writes_at_223 := am_ok' (T := ta_X12_writes_at_223) (B := bl_X12_writes_at_223) (cs := cz_X12_writes_at_223) vm_X12_writes cv_X12_writes_at_223 (by decide +kernel) ch_X12_writes_at_223 ck_X12_writes_at_223
def cc_X12_writes_at_224 : aC := (267, 1, [(2, 0, 0, 12), (0, -2147483648, 2147483647, 1)], none, [], 0, [106, 52012], [((2, 590, 51), 0, 224)], [], [((2, 590, 51), 0, 225)])
def ta_X12_writes_at_224 : List aL := [(0, ([(0, ((2, 0, 0, 12), (0, 0, 0), (0, 0), [])), (1, ((0, -2147483648, 2147483647, 1), (0, 0, 0), (0, 0), []))], [], [((2, 590, 51), 0, 224)]), 0, [])]
def bl_X12_writes_at_224 : List aB := [(0, vb_X12_writes_0, none)]
def cz_X12_writes_at_224 : List (Nat × aC) := []
theorem ck_X12_writes_at_224 : csOK cz_X12_writes_at_224 := trivial
theorem cv_X12_writes_at_224 : blOK kd_X12_writes bl_X12_writes_at_224 := ⟨ve_X12_writes_0, trivial⟩
theorem ch_X12_writes_at_224 : amchk ta_X12_writes_at_224 bl_X12_writes_at_224 cz_X12_writes_at_224 cc_X12_writes_at_224 = true := by decide +kernel
theorem ct_X12_writes_at_224 : CtOK cc_X12_writes_at_224 := am_ok' (T := ta_X12_writes_at_224) (B := bl_X12_writes_at_224) (cs := cz_X12_writes_at_224) vm_X12_writes cv_X12_writes_at_224 (by decide +kernel) ch_X12_writes_at_224 ck_X12_writes_at_224
def cc_X12_writes_at_225 : aC := (267, 1, [(2, 0, 0, 12), (0, -2147483648, 2147483647, 1)], none, [], 0, [106, 52012], [((2, 590, 51), 0, 225)], [], [((2, 590, 51), 0, 226)])
def ta_X12_writes_at_225 : List aL := [(0, ([(0, ((2, 0, 0, 12), (0, 0, 0), (0, 0), [])), (1, ((0, -2147483648, 2147483647, 1), (0, 0, 0), (0, 0), []))], [], [((2, 590, 51), 0, 225)]), 0, [])]
def bl_X12_writes_at_225 : List aB := [(0, vb_X12_writes_0, none)]
def cz_X12_writes_at_225 : List (Nat × aC) := []
theorem ck_X12_writes_at_225 : csOK cz_X12_writes_at_225 := trivial
theorem cv_X12_writes_at_225 : blOK kd_X12_writes bl_X12_writes_at_225 := ⟨ve_X12_writes_0, trivial⟩
theorem ch_X12_writes_at_225 : amchk ta_X12_writes_at_225 bl_X12_writes_at_225 cz_X12_writes_at_225 cc_X12_writes_at_225 = true := by decide +kernel
theorem ct_X12_writes_at_225 : CtOK cc_X12_writes_at_225 := am_ok' (T := ta_X12_writes_at_225) (B := bl_X12_writes_at_225) (cs := cz_X12_writes_at_225) vm_X12_writes cv_X12_writes_at_225 (by decide +kernel) ch_X12_writes_at_225 ck_X12_writes_at_225
def cc_X12_writes_at_226 : aC := (267, 1, [(2, 0, 0, 12), (0, -2147483648, 2147483647, 1)], none, [], 0, [106, 52012], [((2, 590, 51), 0, 226)], [], [((2, 590, 51), 0, 227)])
def ta_X12_writes_at_226 : List aL := [(0, ([(0, ((2, 0, 0, 12), (0, 0, 0), (0, 0), [])), (1, ((0, -2147483648, 2147483647, 1), (0, 0, 0), (0, 0), []))], [], [((2, 590, 51), 0, 226)]), 0, [])]
def bl_X12_writes_at_226 : List aB := [(0, vb_X12_writes_0, none)]
def cz_X12_writes_at_226 : List (Nat × aC) := []
theorem ck_X12_writes_at_226 : csOK cz_X12_writes_at_226 := trivial
theorem cv_X12_writes_at_226 : blOK kd_X12_writes bl_X12_writes_at_226 := ⟨ve_X12_writes_0, trivial⟩
theorem ch_X12_writes_at_226 : amchk ta_X12_writes_at_226 bl_X12_writes_at_226 cz_X12_writes_at_226 cc_X12_writes_at_226 = true := by decide +kernel
theorem ct_X12_writes_at_226 : CtOK cc_X12_writes_at_226 := am_ok' (T := ta_X12_writes_at_226) (B := bl_X12_writes_at_226) (cs := cz_X12_writes_at_226) vm_X12_writes cv_X12_writes_at_226 (by decide +kernel) ch_X12_writes_at_226 ck_X12_writes_at_226
def cc_X12_writes_at_227 : aC := (267, 1, [(2, 0, 0, 12), (0, -2147483648, 2147483647, 1)], none, [], 0, [106, 52012], [((2, 590, 51), 0, 227)], [], [((2, 590, 51), 0, 228)])
def ta_X12_writes_at_227 : List aL := [(0, ([(0, ((2, 0, 0, 12), (0, 0, 0), (0, 0), [])), (1, ((0, -2147483648, 2147483647, 1), (0, 0, 0), (0, 0), []))], [], [((2, 590, 51), 0, 227)]), 0, [])]
def bl_X12_writes_at_227 : List aB := [(0, vb_X12_writes_0, none)]
def cz_X12_writes_at_227 : List (Nat × aC) := []
theorem ck_X12_writes_at_227 : csOK cz_X12_writes_at_227 := trivial
theorem cv_X12_writes_at_227 : blOK kd_X12_writes bl_X12_writes_at_227 := ⟨ve_X12_writes_0, trivial⟩
theorem ch_X12_writes_at_227 : amchk ta_X12_writes_at_227 bl_X12_writes_at_227 cz_X12_writes_at_227 cc_X12_writes_at_227 = true := by decide +kernel
theorem ct_X12_writes_at_227 : CtOK cc_X12_writes_at_227 := am_ok' (T := ta_X12_writes_at_227) (B := bl_X12_writes_at_227) (cs := cz_X12_writes_at_227) vm_X12_writes cv_X12_writes_at_227 (by decide +kernel) ch_X12_writes_at_227 ck_X12_writes_at_227
def cc_X12_writes_at_228 : aC := (267, 1, [(2, 0, 0, 12), (0, -2147483648, 2147483647, 1)], none, [], 0, [106, 52012], [((2, 590, 51), 0, 228)], [], [((2, 590, 51), 0, 229)])
def ta_X12_writes_at_228 : List aL := [(0, ([(0, ((2, 0, 0, 12), (0, 0, 0), (0, 0), [])), (1, ((0, -2147483648, 2147483647, 1), (0, 0, 0), (0, 0), []))], [], [((2, 590, 51), 0, 228)]), 0, [])]
def bl_X12_writes_at_228 : List aB := [(0, vb_X12_writes_0, none)]
def cz_X12_writes_at_228 : List (Nat × aC) := []
theorem ck_X12_writes_at_228 : csOK cz_X12_writes_at_228 := trivial
theorem cv_X12_writes_at_228 : blOK kd_X12_writes bl_X12_writes_at_228 := ⟨ve_X12_writes_0, trivial⟩
theorem ch_X12_writes_at_228 : amchk ta_X12_writes_at_228 bl_X12_writes_at_228 cz_X12_writes_at_228 cc_X12_writes_at_228 = true := by decide +kernel
theorem ct_X12_writes_at_228 : CtOK cc_X12_writes_at_228 := am_ok' (T := ta_X12_writes_at_228) (B := bl_X12_writes_at_228) (cs := cz_X12_writes_at_228) vm_X12_writes cv_X12_writes_at_228 (by decide +kernel) ch_X12_writes_at_228 ck_X12_writes_at_228
def cc_X12_writes_at_229 : aC := (267, 1, [(2, 0, 0, 12), (0, 58, 58, 0)], none, [], 0, [106, 52012], [((2, 590, 51), 0, 229)], [], [((2, 590, 51), 0, 230)])
def ta_X12_writes_at_229 : List aL := [(0, ([(0, ((2, 0, 0, 12), (0, 0, 0), (0, 0), [])), (1, ((0, 58, 58, 0), (0, 0, 0), (0, 0), []))], [], [((2, 590, 51), 0, 229)]), 0, [])]
def bl_X12_writes_at_229 : List aB := [(0, vb_X12_writes_0, none)]
def cz_X12_writes_at_229 : List (Nat × aC) := []
theorem ck_X12_writes_at_229 : csOK cz_X12_writes_at_229 := trivial
theorem cv_X12_writes_at_229 : blOK kd_X12_writes bl_X12_writes_at_229 := ⟨ve_X12_writes_0, trivial⟩
theorem ch_X12_writes_at_229 : amchk ta_X12_writes_at_229 bl_X12_writes_at_229 cz_X12_writes_at_229 cc_X12_writes_at_229 = true := by decide +kernel
theorem ct_X12_writes_at_229 : CtOK cc_X12_writes_at_229 := am_ok' (T := ta_X12_writes_at_229) (B := bl_X12_writes_at_229) (cs := cz_X12_writes_at_229) vm_X12_writes cv_X12_writes_at_229 (by decide +kernel) ch_X12_writes_at_229 ck_X12_writes_at_229
def cc_X12_writes_at_23 : aC := (267, 1, [(2, 0, 0, 12), (0, -2147483648, 2147483647, 1)], none, [], 0, [106, 52012], [((2, 590, 51), 0, 23)], [], [((2, 590, 51), 0, 24)])
def ta_X12_writes_at_23 : List aL := [(0, ([(0, ((2, 0, 0, 12), (0, 0, 0), (0, 0), [])), (1, ((0, -2147483648, 2147483647, 1), (0, 0, 0), (0, 0), []))], [], [((2, 590, 51), 0, 23)]), 0, [])]
def bl_X12_writes_at_23 : List aB := [(0, vb_X12_writes_0, none)]
def cz_X12_writes_at_23 : List (Nat × aC) := []
theorem ck_X12_writes_at_23 : csOK cz_X12_writes_at_23 := trivial
theorem cv_X12_writes_at_23 : blOK kd_X12_writes bl_X12_writes_at_23 := ⟨ve_X12_writes_0, trivial⟩
theorem ch_X12_writes_at_23 : amchk ta_X12_writes_at_23 bl_X12_writes_at_23 cz_X12_writes_at_23 cc_X12_writes_at_23 = true := by decide +kernel
theorem ct_X12_writes_at_23 : CtOK cc_X12_writes_at_23 := am_ok' (T := ta_X12_writes_at_23) (B := bl_X12_writes_at_23) (cs := cz_X12_writes_at_23) vm_X12_writes cv_X12_writes_at_23 (by decide +kernel) ch_X12_writes_at_23 ck_X12_writes_at_23
def cc_X12_writes_at_230 : aC := (267, 1, [(2, 0, 0, 12), (0, 48, 57, 1)], none, [], 0, [106, 52012], [((2, 590, 51), 0, 230)], [], [((2, 590, 51), 0, 231)])
def ta_X12_writes_at_230 : List aL := [(0, ([(0, ((2, 0, 0, 12), (0, 0, 0), (0, 0), [])), (1, ((0, 48, 57, 1), (0, 0, 0), (0, 0), []))], [], [((2, 590, 51), 0, 230)]), 0, [])]
def bl_X12_writes_at_230 : List aB := [(0, vb_X12_writes_0, none)]
def cz_X12_writes_at_230 : List (Nat × aC) := []
theorem ck_X12_writes_at_230 : csOK cz_X12_writes_at_230 := trivial
theorem cv_X12_writes_at_230 : blOK kd_X12_writes bl_X12_writes_at_230 := ⟨ve_X12_writes_0, trivial⟩
theorem ch_X12_writes_at_230 : amchk ta_X12_writes_at_230 bl_X12_writes_at_230 cz_X12_writes_at_230 cc_X12_writes_at_230 = true := by decide +kernel
theorem ct_X12_writes_at_230 : CtOK cc_X12_writes_at_230 := am_ok' (T := ta_X12_writes_at_230) (B := bl_X12_writes_at_230) (cs := cz_X12_writes_at_230) vm_X12_writes cv_X12_writes_at_230 (by decide +kernel) ch_X12_writes_at_230 ck_X12_writes_at_230
def cc_X12_writes_at_231 : aC := (267, 1, [(2, 0, 0, 12), (0, 48, 57, 1)], none, [], 0, [106, 52012], [((2, 590, 51), 0, 231)], [], [((2, 590, 51), 0, 232)])
def ta_X12_writes_at_231 : List aL := [(0, ([(0, ((2, 0, 0, 12), (0, 0, 0), (0, 0), [])), (1, ((0, 48, 57, 1), (0, 0, 0), (0, 0), []))], [], [((2, 590, 51), 0, 231)]), 0, [])]
def bl_X12_writes_at_231 : List aB := [(0, vb_X12_writes_0, none)]
def cz_X12_writes_at_231 : List (Nat × aC) := []
theorem ck_X12_writes_at_231 : csOK cz_X12_writes_at_231 := trivial
theorem cv_X12_writes_at_231 : blOK kd_X12_writes bl_X12_writes_at_231 := ⟨ve_X12_writes_0, trivial⟩
theorem ch_X12_writes_at_231 : amchk ta_X12_writes_at_231 bl_X12_writes_at_231 cz_X12_writes_at_231 cc_X12_writes_at_231 = true := by decide +kernel
theorem ct_X12_writes_at_231 : CtOK cc_X12_writes_at_231 := am_ok' (T := ta_X12_writes_at_231) (B := bl_X12_writes_at_231) (cs := cz_X12_writes_at_231) vm_X12_writes cv_X12_writes_at_231 (by decide +kernel) ch_X12_writes_at_231 ck_X12_writes_at_231
def cc_X12_writes_at_232 : aC := (267, 1, [(2, 0, 0, 12), (0, 48, 57, 1)], none, [], 0, [106, 52012], [((2, 590, 51), 0, 232)], [], [((2, 590, 51), 0, 233)])
def ta_X12_writes_at_232 : List aL := [(0, ([(0, ((2, 0, 0, 12), (0, 0, 0), (0, 0), [])), (1, ((0, 48, 57, 1), (0, 0, 0), (0, 0), []))], [], [((2, 590, 51), 0, 232)]), 0, [])]
def bl_X12_writes_at_232 : List aB := [(0, vb_X12_writes_0, none)]
def cz_X12_writes_at_232 : List (Nat × aC) := []
theorem ck_X12_writes_at_232 : csOK cz_X12_writes_at_232 := trivial
theorem cv_X12_writes_at_232 : blOK kd_X12_writes bl_X12_writes_at_232 := ⟨ve_X12_writes_0, trivial⟩
theorem ch_X12_writes_at_232 : amchk ta_X12_writes_at_232 bl_X12_writes_at_232 cz_X12_writes_at_232 cc_X12_writes_at_232 = true := by decide +kernel
theorem ct_X12_writes_at_232 : CtOK cc_X12_writes_at_232 := am_ok' (T := ta_X12_writes_at_232) (B := bl_X12_writes_at_232) (cs := cz_X12_writes_at_232) vm_X12_writes cv_X12_writes_at_232 (by decide +kernel) ch_X12_writes_at_232 ck_X12_writes_at_232
def cc_X12_writes_at_234 : aC := (267, 1, [(2, 0, 0, 12), (0, 42, 42, 0)], none, [], 0, [106, 52012], [((2, 590, 51), 0, 234)], [], [((2, 590, 51), 0, 235)])
def ta_X12_writes_at_234 : List aL := [(0, ([(0, ((2, 0, 0, 12), (0, 0, 0), (0, 0), [])), (1, ((0, 42, 42, 0), (0, 0, 0), (0, 0), []))], [], [((2, 590, 51), 0, 234)]), 0, [])]
def bl_X12_writes_at_234 : List aB := [(0, vb_X12_writes_0, none)]
def cz_X12_writes_at_234 : List (Nat × aC) := []
theorem ck_X12_writes_at_234 : csOK cz_X12_writes_at_234 := trivial
theorem cv_X12_writes_at_234 : blOK kd_X12_writes bl_X12_writes_at_234 := ⟨ve_X12_writes_0, trivial⟩
theorem ch_X12_writes_at_234 : amchk ta_X12_writes_at_234 bl_X12_writes_at_234 cz_X12_writes_at_234 cc_X12_writes_at_234 = true := by decide +kernel
theorem ct_X12_writes_at_234 : CtOK cc_X12_writes_at_234 := am_ok' (T := ta_X12_writes_at_234) (B := bl_X12_writes_at_234) (cs := cz_X12_writes_at_234) vm_X12_writes cv_X12_writes_at_234 (by decide +kernel) ch_X12_writes_at_234 ck_X12_writes_at_234
def cc_X12_writes_at_235 : aC := (267, 1, [(2, 0, 0, 12), (0, 48, 57, 1)], none, [], 0, [106, 52012], [((2, 590, 51), 0, 235)], [], [((2, 590, 51), 0, 236)])
def ta_X12_writes_at_235 : List aL := [(0, ([(0, ((2, 0, 0, 12), (0, 0, 0), (0, 0), [])), (1, ((0, 48, 57, 1), (0, 0, 0), (0, 0), []))], [], [((2, 590, 51), 0, 235)]), 0, [])]
def bl_X12_writes_at_235 : List aB := [(0, vb_X12_writes_0, none)]
def cz_X12_writes_at_235 : List (Nat × aC) := []
theorem ck_X12_writes_at_235 : csOK cz_X12_writes_at_235 := trivial
theorem cv_X12_writes_at_235 : blOK kd_X12_writes bl_X12_writes_at_235 := ⟨ve_X12_writes_0, trivial⟩
theorem ch_X12_writes_at_235 : amchk ta_X12_writes_at_235 bl_X12_writes_at_235 cz_X12_writes_at_235 cc_X12_writes_at_235 = true := by decide +kernel
theorem ct_X12_writes_at_235 : CtOK cc_X12_writes_at_235 := am_ok' (T := ta_X12_writes_at_235) (B := bl_X12_writes_at_235) (cs := cz_X12_writes_at_235) vm_X12_writes cv_X12_writes_at_235 (by decide +kernel) ch_X12_writes_at_235 ck_X12_writes_at_235
def cc_X12_writes_at_236 : aC := (267, 1, [(2, 0, 0, 12), (0, 48, 57, 1)], none, [], 0, [106, 52012], [((2, 590, 51), 0, 236)], [], [((2, 590, 51), 0, 237)])
def ta_X12_writes_at_236 : List aL := [(0, ([(0, ((2, 0, 0, 12), (0, 0, 0), (0, 0), [])), (1, ((0, 48, 57, 1), (0, 0, 0), (0, 0), []))], [], [((2, 590, 51), 0, 236)]), 0, [])]
def bl_X12_writes_at_236 : List aB := [(0, vb_X12_writes_0, none)]
def cz_X12_writes_at_236 : List (Nat × aC) := []
theorem ck_X12_writes_at_236 : csOK cz_X12_writes_at_236 := trivial
theorem cv_X12_writes_at_236 : blOK kd_X12_writes bl_X12_writes_at_236 := ⟨ve_X12_writes_0, trivial⟩
theorem ch_X12_writes_at_236 : amchk ta_X12_writes_at_236 bl_X12_writes_at_236 cz_X12_writes_at_236 cc_X12_writes_at_236 = true := by decide +kernel
theorem ct_X12_writes_at_236 : CtOK cc_X12_writes_at_236 := am_ok' (T := ta_X12_writes_at_236) (B := bl_X12_writes_at_236) (cs := cz_X12_writes_at_236) vm_X12_writes cv_X12_writes_at_236 (by decide +kernel) ch_X12_writes_at_236 ck_X12_writes_at_236
def cc_X12_writes_at_237 : aC := (267, 1, [(2, 0, 0, 12), (0, 48, 57, 1)], none, [], 0, [106, 52012], [((2, 590, 51), 0, 237)], [], [((2, 590, 51), 0, 238)])
def ta_X12_writes_at_237 : List aL := [(0, ([(0, ((2, 0, 0, 12), (0, 0, 0), (0, 0), [])), (1, ((0, 48, 57, 1), (0, 0, 0), (0, 0), []))], [], [((2, 590, 51), 0, 237)]), 0, [])]
def bl_X12_writes_at_237 : List aB := [(0, vb_X12_writes_0, none)]
def cz_X12_writes_at_237 : List (Nat × aC) := []
theorem ck_X12_writes_at_237 : csOK cz_X12_writes_at_237 := trivial
theorem cv_X12_writes_at_237 : blOK kd_X12_writes bl_X12_writes_at_237 := ⟨ve_X12_writes_0, trivial⟩
theorem ch_X12_writes_at_237 : amchk ta_X12_writes_at_237 bl_X12_writes_at_237 cz_X12_writes_at_237 cc_X12_writes_at_237 = true := by decide +kernel
theorem ct_X12_writes_at_237 : CtOK cc_X12_writes_at_237 := am_ok' (T := ta_X12_writes_at_237) (B := bl_X12_writes_at_237) (cs := cz_X12_writes_at_237) vm_X12_writes cv_X12_writes_at_237 (by decide +kernel) ch_X12_writes_at_237 ck_X12_writes_at_237
def cc_X12_writes_at_238 : aC := (267, 1, [(2, 0, 0, 12), (0, 48, 57, 1)], none, [], 0, [106, 52012], [((2, 590, 51), 0, 238)], [], [((2, 590, 51), 0, 239)])
def ta_X12_writes_at_238 : List aL := [(0, ([(0, ((2, 0, 0, 12), (0, 0, 0), (0, 0), [])), (1, ((0, 48, 57, 1), (0, 0, 0), (0, 0), []))], [], [((2, 590, 51), 0, 238)]), 0, [])]
def bl_X12_writes_at_238 : List aB := [(0, vb_X12_writes_0, none)]
def cz_X12_writes_at_238 : List (Nat × aC) := []
theorem ck_X12_writes_at_238 : csOK cz_X12_writes_at_238 := trivial
theorem cv_X12_writes_at_238 : blOK kd_X12_writes bl_X12_writes_at_238 := ⟨ve_X12_writes_0, trivial⟩
theorem ch_X12_writes_at_238 : amchk ta_X12_writes_at_238 bl_X12_writes_at_238 cz_X12_writes_at_238 cc_X12_writes_at_238 = true := by decide +kernel
theorem ct_X12_writes_at_238 : CtOK cc_X12_writes_at_238 := am_ok' (T := ta_X12_writes_at_238) (B := bl_X12_writes_at_238) (cs := cz_X12_writes_at_238) vm_X12_writes cv_X12_writes_at_238 (by decide +kernel) ch_X12_writes_at_238 ck_X12_writes_at_238
def cc_X12_writes_at_239 : aC := (267, 1, [(2, 0, 0, 12), (0, 59, 59, 0)], none, [], 0, [106, 52012], [((2, 590, 51), 0, 239)], [], [((2, 590, 51), 0, 240)])
def ta_X12_writes_at_239 : List aL := [(0, ([(0, ((2, 0, 0, 12), (0, 0, 0), (0, 0), [])), (1, ((0, 59, 59, 0), (0, 0, 0), (0, 0), []))], [], [((2, 590, 51), 0, 239)]), 0, [])]
def bl_X12_writes_at_239 : List aB := [(0, vb_X12_writes_0, none)]
def cz_X12_writes_at_239 : List (Nat × aC) := []
theorem ck_X12_writes_at_239 : csOK cz_X12_writes_at_239 := trivial
theorem cv_X12_writes_at_239 : blOK kd_X12_writes bl_X12_writes_at_239 := ⟨ve_X12_writes_0, trivial⟩
theorem ch_X12_writes_at_239 : amchk ta_X12_writes_at_239 bl_X12_writes_at_239 cz_X12_writes_at_239 cc_X12_writes_at_239 = true := by decide +kernel
theorem ct_X12_writes_at_239 : CtOK cc_X12_writes_at_239 := am_ok' (T := ta_X12_writes_at_239) (B := bl_X12_writes_at_239) (cs := cz_X12_writes_at_239) vm_X12_writes cv_X12_writes_at_239 (by decide +kernel) ch_X12_writes_at_239 ck_X12_writes_at_239
def cc_X12_writes_at_24 : aC := (267, 1, [(2, 0, 0, 12), (0, -2147483648, 2147483647, 1)], none, [], 0, [106, 52012], [((2, 590, 51), 0, 24)], [], [((2, 590, 51), 0, 25)])
def ta_X12_writes_at_24 : List aL := [(0, ([(0, ((2, 0, 0, 12), (0, 0, 0), (0, 0), [])), (1, ((0, -2147483648, 2147483647, 1), (0, 0, 0), (0, 0), []))], [], [((2, 590, 51), 0, 24)]), 0, [])]
def bl_X12_writes_at_24 : List aB := [(0, vb_X12_writes_0, none)]
def cz_X12_writes_at_24 : List (Nat × aC) := []
theorem ck_X12_writes_at_24 : csOK cz_X12_writes_at_24 := trivial
theorem cv_X12_writes_at_24 : blOK kd_X12_writes bl_X12_writes_at_24 := ⟨ve_X12_writes_0, trivial⟩
theorem ch_X12_writes_at_24 : amchk ta_X12_writes_at_24 bl_X12_writes_at_24 cz_X12_writes_at_24 cc_X12_writes_at_24 = true := by decide +kernel
theorem ct_X12_writes_at_24 : CtOK cc_X12_writes_at_24 := am_ok' (T := ta_X12_writes_at_24) (B := bl_X12_writes_at_24) (cs := cz_X12_writes_at_24) vm_X12_writes cv_X12_writes_at_24 (by decide +kernel) ch_X12_writes_at_24 ck_X12_writes_at_24
def cc_X12_writes_at_25 : aC := (267, 1, [(2, 0, 0, 12), (0, -2147483648, 2147483647, 1)], none, [], 0, [106, 52012], [((2, 590, 51), 0, 25)], [], [((2, 590, 51), 0, 26)])
def ta_X12_writes_at_25 : List aL := [(0, ([(0, ((2, 0, 0, 12), (0, 0, 0), (0, 0), [])), (1, ((0, -2147483648, 2147483647, 1), (0, 0, 0), (0, 0), []))], [], [((2, 590, 51), 0, 25)]), 0, [])]
def bl_X12_writes_at_25 : List aB := [(0, vb_X12_writes_0, none)]
def cz_X12_writes_at_25 : List (Nat × aC) := []
theorem ck_X12_writes_at_25 : csOK cz_X12_writes_at_25 := trivial
theorem cv_X12_writes_at_25 : blOK kd_X12_writes bl_X12_writes_at_25 := ⟨ve_X12_writes_0, trivial⟩
theorem ch_X12_writes_at_25 : amchk ta_X12_writes_at_25 bl_X12_writes_at_25 cz_X12_writes_at_25 cc_X12_writes_at_25 = true := by decide +kernel
theorem ct_X12_writes_at_25 : CtOK cc_X12_writes_at_25 := am_ok' (T := ta_X12_writes_at_25) (B := bl_X12_writes_at_25) (cs := cz_X12_writes_at_25) vm_X12_writes cv_X12_writes_at_25 (by decide +kernel) ch_X12_writes_at_25 ck_X12_writes_at_25
def cc_X12_writes_at_26 : aC := (267, 1, [(2, 0, 0, 12), (0, -2147483648, 2147483647, 1)], none, [], 0, [106, 52012], [((2, 590, 51), 0, 26)], [], [((2, 590, 51), 0, 27)])
def ta_X12_writes_at_26 : List aL := [(0, ([(0, ((2, 0, 0, 12), (0, 0, 0), (0, 0), [])), (1, ((0, -2147483648, 2147483647, 1), (0, 0, 0), (0, 0), []))], [], [((2, 590, 51), 0, 26)]), 0, [])]
def bl_X12_writes_at_26 : List aB := [(0, vb_X12_writes_0, none)]
def cz_X12_writes_at_26 : List (Nat × aC) := []
theorem ck_X12_writes_at_26 : csOK cz_X12_writes_at_26 := trivial
theorem cv_X12_writes_at_26 : blOK kd_X12_writes bl_X12_writes_at_26 := ⟨ve_X12_writes_0, trivial⟩
theorem ch_X12_writes_at_26 : amchk ta_X12_writes_at_26 bl_X12_writes_at_26 cz_X12_writes_at_26 cc_X12_writes_at_26 = true := by decide +kernel
theorem ct_X12_writes_at_26 : CtOK cc_X12_writes_at_26 := am_ok' (T := ta_X12_writes_at_26) (B := bl_X12_writes_at_26) (cs := cz_X12_writes_at_26) vm_X12_writes cv_X12_writes_at_26 (by decide +kernel) ch_X12_writes_at_26 ck_X12_writes_at_26
def cc_X12_writes_at_27 : aC := (267, 1, [(2, 0, 0, 12), (0, -2147483648, 2147483647, 1)], none, [], 0, [106, 52012], [((2, 590, 51), 0, 27)], [], [((2, 590, 51), 0, 28)])
def ta_X12_writes_at_27 : List aL := [(0, ([(0, ((2, 0, 0, 12), (0, 0, 0), (0, 0), [])), (1, ((0, -2147483648, 2147483647, 1), (0, 0, 0), (0, 0), []))], [], [((2, 590, 51), 0, 27)]), 0, [])]
def bl_X12_writes_at_27 : List aB := [(0, vb_X12_writes_0, none)]
def cz_X12_writes_at_27 : List (Nat × aC) := []
theorem ck_X12_writes_at_27 : csOK cz_X12_writes_at_27 := trivial
theorem cv_X12_writes_at_27 : blOK kd_X12_writes bl_X12_writes_at_27 := ⟨ve_X12_writes_0, trivial⟩
theorem ch_X12_writes_at_27 : amchk ta_X12_writes_at_27 bl_X12_writes_at_27 cz_X12_writes_at_27 cc_X12_writes_at_27 = true := by decide +kernel
theorem ct_X12_writes_at_27 : CtOK cc_X12_writes_at_27 := am_ok' (T := ta_X12_writes_at_27) (B := bl_X12_writes_at_27) (cs := cz_X12_writes_at_27) vm_X12_writes cv_X12_writes_at_27 (by decide +kernel) ch_X12_writes_at_27 ck_X12_writes_at_27
def cc_X12_writes_at_28 : aC := (267, 1, [(2, 0, 0, 12), (0, -2147483648, 2147483647, 1)], none, [], 0, [106, 52012], [((2, 590, 51), 0, 28)], [], [((2, 590, 51), 0, 29)])
def ta_X12_writes_at_28 : List aL := [(0, ([(0, ((2, 0, 0, 12), (0, 0, 0), (0, 0), [])), (1, ((0, -2147483648, 2147483647, 1), (0, 0, 0), (0, 0), []))], [], [((2, 590, 51), 0, 28)]), 0, [])]
def bl_X12_writes_at_28 : List aB := [(0, vb_X12_writes_0, none)]
def cz_X12_writes_at_28 : List (Nat × aC) := []
theorem ck_X12_writes_at_28 : csOK cz_X12_writes_at_28 := trivial
theorem cv_X12_writes_at_28 : blOK kd_X12_writes bl_X12_writes_at_28 := ⟨ve_X12_writes_0, trivial⟩
theorem ch_X12_writes_at_28 : amchk ta_X12_writes_at_28 bl_X12_writes_at_28 cz_X12_writes_at_28 cc_X12_writes_at_28 = true := by decide +kernel
theorem ct_X12_writes_at_28 : CtOK cc_X12_writes_at_28 := am_ok' (T := ta_X12_writes_at_28) (B := bl_X12_writes_at_28) (cs := cz_X12_writes_at_28) vm_X12_writes cv_X12_writes_at_28 (by decide +kernel) ch_X12_writes_at_28 ck_X12_writes_at_28
def cc_X12_writes_at_29 : aC := (267, 1, [(2, 0, 0, 12), (0, 58, 58, 0)], none, [], 0, [106, 52012], [((2, 590, 51), 0, 29)], [], [((2, 590, 51), 0, 30)])
def ta_X12_writes_at_29 : List aL := [(0, ([(0, ((2, 0, 0, 12), (0, 0, 0), (0, 0), [])), (1, ((0, 58, 58, 0), (0, 0, 0), (0, 0), []))], [], [((2, 590, 51), 0, 29)]), 0, [])]
def bl_X12_writes_at_29 : List aB := [(0, vb_X12_writes_0, none)]
def cz_X12_writes_at_29 : List (Nat × aC) := []
theorem ck_X12_writes_at_29 : csOK cz_X12_writes_at_29 := trivial
theorem cv_X12_writes_at_29 : blOK kd_X12_writes bl_X12_writes_at_29 := ⟨ve_X12_writes_0, trivial⟩
theorem ch_X12_writes_at_29 : amchk ta_X12_writes_at_29 bl_X12_writes_at_29 cz_X12_writes_at_29 cc_X12_writes_at_29 = true := by decide +kernel
theorem ct_X12_writes_at_29 : CtOK cc_X12_writes_at_29 := am_ok' (T := ta_X12_writes_at_29) (B := bl_X12_writes_at_29) (cs := cz_X12_writes_at_29) vm_X12_writes cv_X12_writes_at_29 (by decide +kernel) ch_X12_writes_at_29 ck_X12_writes_at_29
def cc_X12_writes_at_3 : aC := (267, 1, [(2, 0, 0, 12), (0, -2147483648, 2147483647, 1)], none, [], 0, [106, 52012], [((2, 590, 51), 0, 3)], [], [((2, 590, 51), 0, 4)])
def ta_X12_writes_at_3 : List aL := [(0, ([(0, ((2, 0, 0, 12), (0, 0, 0), (0, 0), [])), (1, ((0, -2147483648, 2147483647, 1), (0, 0, 0), (0, 0), []))], [], [((2, 590, 51), 0, 3)]), 0, [])]
def bl_X12_writes_at_3 : List aB := [(0, vb_X12_writes_0, none)]
def cz_X12_writes_at_3 : List (Nat × aC) := []
theorem ck_X12_writes_at_3 : csOK cz_X12_writes_at_3 := trivial
theorem cv_X12_writes_at_3 : blOK kd_X12_writes bl_X12_writes_at_3 := ⟨ve_X12_writes_0, trivial⟩
theorem ch_X12_writes_at_3 : amchk ta_X12_writes_at_3 bl_X12_writes_at_3 cz_X12_writes_at_3 cc_X12_writes_at_3 = true := by decide +kernel
theorem ct_X12_writes_at_3 : CtOK cc_X12_writes_at_3 := am_ok' (T := ta_X12_writes_at_3) (B := bl_X12_writes_at_3) (cs := cz_X12_writes_at_3) vm_X12_writes cv_X12_writes_at_3 (by decide +kernel) ch_X12_writes_at_3 ck_X12_writes_at_3
def cc_X12_writes_at_30 : aC := (267, 1, [(2, 0, 0, 12), (0, 48, 57, 1)], none, [], 0, [106, 52012], [((2, 590, 51), 0, 30)], [], [((2, 590, 51), 0, 31)])
def ta_X12_writes_at_30 : List aL := [(0, ([(0, ((2, 0, 0, 12), (0, 0, 0), (0, 0), [])), (1, ((0, 48, 57, 1), (0, 0, 0), (0, 0), []))], [], [((2, 590, 51), 0, 30)]), 0, [])]
def bl_X12_writes_at_30 : List aB := [(0, vb_X12_writes_0, none)]
def cz_X12_writes_at_30 : List (Nat × aC) := []
theorem ck_X12_writes_at_30 : csOK cz_X12_writes_at_30 := trivial
theorem cv_X12_writes_at_30 : blOK kd_X12_writes bl_X12_writes_at_30 := ⟨ve_X12_writes_0, trivial⟩
theorem ch_X12_writes_at_30 : amchk ta_X12_writes_at_30 bl_X12_writes_at_30 cz_X12_writes_at_30 cc_X12_writes_at_30 = true := by decide +kernel
theorem ct_X12_writes_at_30 : CtOK cc_X12_writes_at_30 := am_ok' (T := ta_X12_writes_at_30) (B := bl_X12_writes_at_30) (cs := cz_X12_writes_at_30) vm_X12_writes cv_X12_writes_at_30 (by decide +kernel) ch_X12_writes_at_30 ck_X12_writes_at_30
def cc_X12_writes_at_31 : aC := (267, 1, [(2, 0, 0, 12), (0, 48, 57, 1)], none, [], 0, [106, 52012], [((2, 590, 51), 0, 31)], [], [((2, 590, 51), 0, 32)])
def ta_X12_writes_at_31 : List aL := [(0, ([(0, ((2, 0, 0, 12), (0, 0, 0), (0, 0), [])), (1, ((0, 48, 57, 1), (0, 0, 0), (0, 0), []))], [], [((2, 590, 51), 0, 31)]), 0, [])]
def bl_X12_writes_at_31 : List aB := [(0, vb_X12_writes_0, none)]
def cz_X12_writes_at_31 : List (Nat × aC) := []
theorem ck_X12_writes_at_31 : csOK cz_X12_writes_at_31 := trivial
theorem cv_X12_writes_at_31 : blOK kd_X12_writes bl_X12_writes_at_31 := ⟨ve_X12_writes_0, trivial⟩
theorem ch_X12_writes_at_31 : amchk ta_X12_writes_at_31 bl_X12_writes_at_31 cz_X12_writes_at_31 cc_X12_writes_at_31 = true := by decide +kernel
theorem ct_X12_writes_at_31 : CtOK cc_X12_writes_at_31 := am_ok' (T := ta_X12_writes_at_31) (B := bl_X12_writes_at_31) (cs := cz_X12_writes_at_31) vm_X12_writes cv_X12_writes_at_31 (by decide +kernel) ch_X12_writes_at_31 ck_X12_writes_at_31
def cc_X12_writes_at_32 : aC := (267, 1, [(2, 0, 0, 12), (0, 48, 57, 1)], none, [], 0, [106, 52012], [((2, 590, 51), 0, 32)], [], [((2, 590, 51), 0, 33)])
def ta_X12_writes_at_32 : List aL := [(0, ([(0, ((2, 0, 0, 12), (0, 0, 0), (0, 0), [])), (1, ((0, 48, 57, 1), (0, 0, 0), (0, 0), []))], [], [((2, 590, 51), 0, 32)]), 0, [])]
def bl_X12_writes_at_32 : List aB := [(0, vb_X12_writes_0, none)]
def cz_X12_writes_at_32 : List (Nat × aC) := []
theorem ck_X12_writes_at_32 : csOK cz_X12_writes_at_32 := trivial
theorem cv_X12_writes_at_32 : blOK kd_X12_writes bl_X12_writes_at_32 := ⟨ve_X12_writes_0, trivial⟩
theorem ch_X12_writes_at_32 : amchk ta_X12_writes_at_32 bl_X12_writes_at_32 cz_X12_writes_at_32 cc_X12_writes_at_32 = true := by decide +kernel
theorem ct_X12_writes_at_32 : CtOK cc_X12_writes_at_32 := am_ok' (T := ta_X12_writes_at_32) (B := bl_X12_writes_at_32) (cs := cz_X12_writes_at_32) vm_X12_writes cv_X12_writes_at_32 (by decide +kernel) ch_X12_writes_at_32 ck_X12_writes_at_32
def cc_X12_writes_at_34 : aC := (267, 1, [(2, 0, 0, 12), (0, 42, 42, 0)], none, [], 0, [106, 52012], [((2, 590, 51), 0, 34)], [], [((2, 590, 51), 0, 35)])
def ta_X12_writes_at_34 : List aL := [(0, ([(0, ((2, 0, 0, 12), (0, 0, 0), (0, 0), [])), (1, ((0, 42, 42, 0), (0, 0, 0), (0, 0), []))], [], [((2, 590, 51), 0, 34)]), 0, [])]
def bl_X12_writes_at_34 : List aB := [(0, vb_X12_writes_0, none)]
def cz_X12_writes_at_34 : List (Nat × aC) := []
theorem ck_X12_writes_at_34 : csOK cz_X12_writes_at_34 := trivial
theorem cv_X12_writes_at_34 : blOK kd_X12_writes bl_X12_writes_at_34 := ⟨ve_X12_writes_0, trivial⟩
theorem ch_X12_writes_at_34 : amchk ta_X12_writes_at_34 bl_X12_writes_at_34 cz_X12_writes_at_34 cc_X12_writes_at_34 = true := by decide +kernel
theorem ct_X12_writes_at_34 : CtOK cc_X12_writes_at_34 := am_ok' (T := ta_X12_writes_at_34) (B := bl_X12_writes_at_34) (cs := cz_X12_writes_at_34) vm_X12_writes cv_X12_writes_at_34 (by decide +kernel) ch_X12_writes_at_34 ck_X12_writes_at_34
def cc_X12_writes_at_35 : aC := (267, 1, [(2, 0, 0, 12), (0, 48, 57, 1)], none, [], 0, [106, 52012], [((2, 590, 51), 0, 35)], [], [((2, 590, 51), 0, 36)])
def ta_X12_writes_at_35 : List aL := [(0, ([(0, ((2, 0, 0, 12), (0, 0, 0), (0, 0), [])), (1, ((0, 48, 57, 1), (0, 0, 0), (0, 0), []))], [], [((2, 590, 51), 0, 35)]), 0, [])]
def bl_X12_writes_at_35 : List aB := [(0, vb_X12_writes_0, none)]
def cz_X12_writes_at_35 : List (Nat × aC) := []
theorem ck_X12_writes_at_35 : csOK cz_X12_writes_at_35 := trivial
theorem cv_X12_writes_at_35 : blOK kd_X12_writes bl_X12_writes_at_35 := ⟨ve_X12_writes_0, trivial⟩
theorem ch_X12_writes_at_35 : amchk ta_X12_writes_at_35 bl_X12_writes_at_35 cz_X12_writes_at_35 cc_X12_writes_at_35 = true := by decide +kernel
theorem ct_X12_writes_at_35 : CtOK cc_X12_writes_at_35 := am_ok' (T := ta_X12_writes_at_35) (B := bl_X12_writes_at_35) (cs := cz_X12_writes_at_35) vm_X12_writes cv_X12_writes_at_35 (by decide +kernel) ch_X12_writes_at_35 ck_X12_writes_at_35
def cc_X12_writes_at_36 : aC := (267, 1, [(2, 0, 0, 12), (0, 48, 57, 1)], none, [], 0, [106, 52012], [((2, 590, 51), 0, 36)], [], [((2, 590, 51), 0, 37)])
def ta_X12_writes_at_36 : List aL := [(0, ([(0, ((2, 0, 0, 12), (0, 0, 0), (0, 0), [])), (1, ((0, 48, 57, 1), (0, 0, 0), (0, 0), []))], [], [((2, 590, 51), 0, 36)]), 0, [])]
def bl_X12_writes_at_36 : List aB := [(0, vb_X12_writes_0, none)]
def cz_X12_writes_at_36 : List (Nat × aC) := []
theorem ck_X12_writes_at_36 : csOK cz_X12_writes_at_36 := trivial
theorem cv_X12_writes_at_36 : blOK kd_X12_writes bl_X12_writes_at_36 := ⟨ve_X12_writes_0, trivial⟩
theorem ch_X12_writes_at_36 : amchk ta_X12_writes_at_36 bl_X12_writes_at_36 cz_X12_writes_at_36 cc_X12_writes_at_36 = true := by decide +kernel
theorem ct_X12_writes_at_36 : CtOK cc_X12_writes_at_36 := am_ok' (T := ta_X12_writes_at_36) (B := bl_X12_writes_at_36) (cs := cz_X12_writes_at_36) vm_X12_writes cv_X12_writes_at_36 (by decide +kernel) ch_X12_writes_at_36 ck_X12_writes_at_36
def cc_X12_writes_at_37 : aC := (267, 1, [(2, 0, 0, 12), (0, 48, 57, 1)], none, [], 0, [106, 52012], [((2, 590, 51), 0, 37)], [], [((2, 590, 51), 0, 38)])
def ta_X12_writes_at_37 : List aL := [(0, ([(0, ((2, 0, 0, 12), (0, 0, 0), (0, 0), [])), (1, ((0, 48, 57, 1), (0, 0, 0), (0, 0), []))], [], [((2, 590, 51), 0, 37)]), 0, [])]
def bl_X12_writes_at_37 : List aB := [(0, vb_X12_writes_0, none)]
def cz_X12_writes_at_37 : List (Nat × aC) := []
theorem ck_X12_writes_at_37 : csOK cz_X12_writes_at_37 := trivial
theorem cv_X12_writes_at_37 : blOK kd_X12_writes bl_X12_writes_at_37 := ⟨ve_X12_writes_0, trivial⟩
theorem ch_X12_writes_at_37 : amchk ta_X12_writes_at_37 bl_X12_writes_at_37 cz_X12_writes_at_37 cc_X12_writes_at_37 = true := by decide +kernel
theorem ct_X12_writes_at_37 : CtOK cc_X12_writes_at_37 := am_ok' (T := ta_X12_writes_at_37) (B := bl_X12_writes_at_37) (cs := cz_X12_writes_at_37) vm_X12_writes cv_X12_writes_at_37 (by decide +kernel) ch_X12_writes_at_37 ck_X12_writes_at_37
def cc_X12_writes_at_38 : aC := (267, 1, [(2, 0, 0, 12), (0, 48, 57, 1)], none, [], 0, [106, 52012], [((2, 590, 51), 0, 38)], [], [((2, 590, 51), 0, 39)])
def ta_X12_writes_at_38 : List aL := [(0, ([(0, ((2, 0, 0, 12), (0, 0, 0), (0, 0), [])), (1, ((0, 48, 57, 1), (0, 0, 0), (0, 0), []))], [], [((2, 590, 51), 0, 38)]), 0, [])]
def bl_X12_writes_at_38 : List aB := [(0, vb_X12_writes_0, none)]
def cz_X12_writes_at_38 : List (Nat × aC) := []
theorem ck_X12_writes_at_38 : csOK cz_X12_writes_at_38 := trivial
theorem cv_X12_writes_at_38 : blOK kd_X12_writes bl_X12_writes_at_38 := ⟨ve_X12_writes_0, trivial⟩
theorem ch_X12_writes_at_38 : amchk ta_X12_writes_at_38 bl_X12_writes_at_38 cz_X12_writes_at_38 cc_X12_writes_at_38 = true := by decide +kernel
theorem ct_X12_writes_at_38 : CtOK cc_X12_writes_at_38 := am_ok' (T := ta_X12_writes_at_38) (B := bl_X12_writes_at_38) (cs := cz_X12_writes_at_38) vm_X12_writes cv_X12_writes_at_38 (by decide +kernel) ch_X12_writes_at_38 ck_X12_writes_at_38
def cc_X12_writes_at_39 : aC := (267, 1, [(2, 0, 0, 12), (0, 59, 59, 0)], none, [], 0, [106, 52012], [((2, 590, 51), 0, 39)], [], [((2, 590, 51), 0, 40)])
def ta_X12_writes_at_39 : List aL := [(0, ([(0, ((2, 0, 0, 12), (0, 0, 0), (0, 0), [])), (1, ((0, 59, 59, 0), (0, 0, 0), (0, 0), []))], [], [((2, 590, 51), 0, 39)]), 0, [])]
def bl_X12_writes_at_39 : List aB := [(0, vb_X12_writes_0, none)]
def cz_X12_writes_at_39 : List (Nat × aC) := []
theorem ck_X12_writes_at_39 : csOK cz_X12_writes_at_39 := trivial
theorem cv_X12_writes_at_39 : blOK kd_X12_writes bl_X12_writes_at_39 := ⟨ve_X12_writes_0, trivial⟩
theorem ch_X12_writes_at_39 : amchk ta_X12_writes_at_39 bl_X12_writes_at_39 cz_X12_writes_at_39 cc_X12_writes_at_39 = true := by decide +kernel
theorem ct_X12_writes_at_39 : CtOK cc_X12_writes_at_39 := am_ok' (T := ta_X12_writes_at_39) (B := bl_X12_writes_at_39) (cs := cz_X12_writes_at_39) vm_X12_writes cv_X12_writes_at_39 (by decide +kernel) ch_X12_writes_at_39 ck_X12_writes_at_39
def cc_X12_writes_at_4 : aC := (267, 1, [(2, 0, 0, 12), (0, -2147483648, 2147483647, 1)], none, [], 0, [106, 52012], [((2, 590, 51), 0, 4)], [], [((2, 590, 51), 0, 5)])
def ta_X12_writes_at_4 : List aL := [(0, ([(0, ((2, 0, 0, 12), (0, 0, 0), (0, 0), [])), (1, ((0, -2147483648, 2147483647, 1), (0, 0, 0), (0, 0), []))], [], [((2, 590, 51), 0, 4)]), 0, [])]
def bl_X12_writes_at_4 : List aB := [(0, vb_X12_writes_0, none)]
def cz_X12_writes_at_4 : List (Nat × aC) := []
theorem ck_X12_writes_at_4 : csOK cz_X12_writes_at_4 := trivial
theorem cv_X12_writes_at_4 : blOK kd_X12_writes bl_X12_writes_at_4 := ⟨ve_X12_writes_0, trivial⟩
theorem ch_X12_writes_at_4 : amchk ta_X12_writes_at_4 bl_X12_writes_at_4 cz_X12_writes_at_4 cc_X12_writes_at_4 = true := by decide +kernel
theorem ct_X12_writes_at_4 : CtOK cc_X12_writes_at_4 := am_ok' (T := ta_X12_writes_at_4) (B := bl_X12_writes_at_4) (cs := cz_X12_writes_at_4) vm_X12_writes cv_X12_writes_at_4 (by decide +kernel) ch_X12_writes_at_4 ck_X12_writes_at_4
def cc_X12_writes_at_40 : aC := (267, 1, [(2, 0, 0, 12), (0, 98, 98, 0)], none, [], 0, [106, 52012], [((2, 590, 51), 0, 40)], [], [((2, 590, 51), 0, 41)])
def ta_X12_writes_at_40 : List aL := [(0, ([(0, ((2, 0, 0, 12), (0, 0, 0), (0, 0), [])), (1, ((0, 98, 98, 0), (0, 0, 0), (0, 0), []))], [], [((2, 590, 51), 0, 40)]), 0, [])]
def bl_X12_writes_at_40 : List aB := [(0, vb_X12_writes_0, none)]
def cz_X12_writes_at_40 : List (Nat × aC) := []
theorem ck_X12_writes_at_40 : csOK cz_X12_writes_at_40 := trivial
theorem cv_X12_writes_at_40 : blOK kd_X12_writes bl_X12_writes_at_40 := ⟨ve_X12_writes_0, trivial⟩
theorem ch_X12_writes_at_40 : amchk ta_X12_writes_at_40 bl_X12_writes_at_40 cz_X12_writes_at_40 cc_X12_writes_at_40 = true := by decide +kernel
theorem ct_X12_writes_at_40 : CtOK cc_X12_writes_at_40 := am_ok' (T := ta_X12_writes_at_40) (B := bl_X12_writes_at_40) (cs := cz_X12_writes_at_40) vm_X12_writes cv_X12_writes_at_40 (by decide +kernel) ch_X12_writes_at_40 ck_X12_writes_at_40
def cc_X12_writes_at_41 : aC := (267, 1, [(2, 0, 0, 12), (0, -2147483648, 2147483647, 1)], none, [], 0, [106, 52012], [((2, 590, 51), 0, 41)], [], [((2, 590, 51), 0, 42)])
def ta_X12_writes_at_41 : List aL := [(0, ([(0, ((2, 0, 0, 12), (0, 0, 0), (0, 0), [])), (1, ((0, -2147483648, 2147483647, 1), (0, 0, 0), (0, 0), []))], [], [((2, 590, 51), 0, 41)]), 0, [])]
def bl_X12_writes_at_41 : List aB := [(0, vb_X12_writes_0, none)]
def cz_X12_writes_at_41 : List (Nat × aC) := []
theorem ck_X12_writes_at_41 : csOK cz_X12_writes_at_41 := trivial
theorem cv_X12_writes_at_41 : blOK kd_X12_writes bl_X12_writes_at_41 := ⟨ve_X12_writes_0, trivial⟩
theorem ch_X12_writes_at_41 : amchk ta_X12_writes_at_41 bl_X12_writes_at_41 cz_X12_writes_at_41 cc_X12_writes_at_41 = true := by decide +kernel
theorem ct_X12_writes_at_41 : CtOK cc_X12_writes_at_41 := am_ok' (T := ta_X12_writes_at_41) (B := bl_X12_writes_at_41) (cs := cz_X12_writes_at_41) vm_X12_writes cv_X12_writes_at_41 (by decide +kernel) ch_X12_writes_at_41 ck_X12_writes_at_41
def cc_X12_writes_at_42 : aC := (267, 1, [(2, 0, 0, 12), (0, -2147483648, 2147483647, 1)], none, [], 0, [106, 52012], [((2, 590, 51), 0, 42)], [], [((2, 590, 51), 0, 43)])
def ta_X12_writes_at_42 : List aL := [(0, ([(0, ((2, 0, 0, 12), (0, 0, 0), (0, 0), [])), (1, ((0, -2147483648, 2147483647, 1), (0, 0, 0), (0, 0), []))], [], [((2, 590, 51), 0, 42)]), 0, [])]
def bl_X12_writes_at_42 : List aB := [(0, vb_X12_writes_0, none)]
def cz_X12_writes_at_42 : List (Nat × aC) := []
theorem ck_X12_writes_at_42 : csOK cz_X12_writes_at_42 := trivial
theorem cv_X12_writes_at_42 : blOK kd_X12_writes bl_X12_writes_at_42 := ⟨ve_X12_writes_0, trivial⟩
theorem ch_X12_writes_at_42 : amchk ta_X12_writes_at_42 bl_X12_writes_at_42 cz_X12_writes_at_42 cc_X12_writes_at_42 = true := by decide +kernel
theorem ct_X12_writes_at_42 : CtOK cc_X12_writes_at_42 := am_ok' (T := ta_X12_writes_at_42) (B := bl_X12_writes_at_42) (cs := cz_X12_writes_at_42) vm_X12_writes cv_X12_writes_at_42 (by decide +kernel) ch_X12_writes_at_42 ck_X12_writes_at_42
def cc_X12_writes_at_43 : aC := (267, 1, [(2, 0, 0, 12), (0, -2147483648, 2147483647, 1)], none, [], 0, [106, 52012], [((2, 590, 51), 0, 43)], [], [((2, 590, 51), 0, 44)])
def ta_X12_writes_at_43 : List aL := [(0, ([(0, ((2, 0, 0, 12), (0, 0, 0), (0, 0), [])), (1, ((0, -2147483648, 2147483647, 1), (0, 0, 0), (0, 0), []))], [], [((2, 590, 51), 0, 43)]), 0, [])]
def bl_X12_writes_at_43 : List aB := [(0, vb_X12_writes_0, none)]
def cz_X12_writes_at_43 : List (Nat × aC) := []
theorem ck_X12_writes_at_43 : csOK cz_X12_writes_at_43 := trivial
theorem cv_X12_writes_at_43 : blOK kd_X12_writes bl_X12_writes_at_43 := ⟨ve_X12_writes_0, trivial⟩
theorem ch_X12_writes_at_43 : amchk ta_X12_writes_at_43 bl_X12_writes_at_43 cz_X12_writes_at_43 cc_X12_writes_at_43 = true := by decide +kernel
theorem ct_X12_writes_at_43 : CtOK cc_X12_writes_at_43 := am_ok' (T := ta_X12_writes_at_43) (B := bl_X12_writes_at_43) (cs := cz_X12_writes_at_43) vm_X12_writes cv_X12_writes_at_43 (by decide +kernel) ch_X12_writes_at_43 ck_X12_writes_at_43
def cc_X12_writes_at_44 : aC := (267, 1, [(2, 0, 0, 12), (0, -2147483648, 2147483647, 1)], none, [], 0, [106, 52012], [((2, 590, 51), 0, 44)], [], [((2, 590, 51), 0, 45)])
def ta_X12_writes_at_44 : List aL := [(0, ([(0, ((2, 0, 0, 12), (0, 0, 0), (0, 0), [])), (1, ((0, -2147483648, 2147483647, 1), (0, 0, 0), (0, 0), []))], [], [((2, 590, 51), 0, 44)]), 0, [])]
def bl_X12_writes_at_44 : List aB := [(0, vb_X12_writes_0, none)]
def cz_X12_writes_at_44 : List (Nat × aC) := []
theorem ck_X12_writes_at_44 : csOK cz_X12_writes_at_44 := trivial
theorem cv_X12_writes_at_44 : blOK kd_X12_writes bl_X12_writes_at_44 := ⟨ve_X12_writes_0, trivial⟩
theorem ch_X12_writes_at_44 : amchk ta_X12_writes_at_44 bl_X12_writes_at_44 cz_X12_writes_at_44 cc_X12_writes_at_44 = true := by decide +kernel
theorem ct_X12_writes_at_44 : CtOK cc_X12_writes_at_44 := am_ok' (T := ta_X12_writes_at_44) (B := bl_X12_writes_at_44) (cs := cz_X12_writes_at_44) vm_X12_writes cv_X12_writes_at_44 (by decide +kernel) ch_X12_writes_at_44 ck_X12_writes_at_44
def cc_X12_writes_at_45 : aC := (267, 1, [(2, 0, 0, 12), (0, -2147483648, 2147483647, 1)], none, [], 0, [106, 52012], [((2, 590, 51), 0, 45)], [], [((2, 590, 51), 0, 46)])
def ta_X12_writes_at_45 : List aL := [(0, ([(0, ((2, 0, 0, 12), (0, 0, 0), (0, 0), [])), (1, ((0, -2147483648, 2147483647, 1), (0, 0, 0), (0, 0), []))], [], [((2, 590, 51), 0, 45)]), 0, [])]
def bl_X12_writes_at_45 : List aB := [(0, vb_X12_writes_0, none)]
def cz_X12_writes_at_45 : List (Nat × aC) := []
theorem ck_X12_writes_at_45 : csOK cz_X12_writes_at_45 := trivial
theorem cv_X12_writes_at_45 : blOK kd_X12_writes bl_X12_writes_at_45 := ⟨ve_X12_writes_0, trivial⟩
theorem ch_X12_writes_at_45 : amchk ta_X12_writes_at_45 bl_X12_writes_at_45 cz_X12_writes_at_45 cc_X12_writes_at_45 = true := by decide +kernel
theorem ct_X12_writes_at_45 : CtOK cc_X12_writes_at_45 := am_ok' (T := ta_X12_writes_at_45) (B := bl_X12_writes_at_45) (cs := cz_X12_writes_at_45) vm_X12_writes cv_X12_writes_at_45 (by decide +kernel) ch_X12_writes_at_45 ck_X12_writes_at_45
def cc_X12_writes_at_46 : aC := (267, 1, [(2, 0, 0, 12), (0, -2147483648, 2147483647, 1)], none, [], 0, [106, 52012], [((2, 590, 51), 0, 46)], [], [((2, 590, 51), 0, 47)])
def ta_X12_writes_at_46 : List aL := [(0, ([(0, ((2, 0, 0, 12), (0, 0, 0), (0, 0), [])), (1, ((0, -2147483648, 2147483647, 1), (0, 0, 0), (0, 0), []))], [], [((2, 590, 51), 0, 46)]), 0, [])]
def bl_X12_writes_at_46 : List aB := [(0, vb_X12_writes_0, none)]
def cz_X12_writes_at_46 : List (Nat × aC) := []
theorem ck_X12_writes_at_46 : csOK cz_X12_writes_at_46 := trivial
theorem cv_X12_writes_at_46 : blOK kd_X12_writes bl_X12_writes_at_46 := ⟨ve_X12_writes_0, trivial⟩
theorem ch_X12_writes_at_46 : amchk ta_X12_writes_at_46 bl_X12_writes_at_46 cz_X12_writes_at_46 cc_X12_writes_at_46 = true := by decide +kernel
theorem ct_X12_writes_at_46 : CtOK cc_X12_writes_at_46 := am_ok' (T := ta_X12_writes_at_46) (B := bl_X12_writes_at_46) (cs := cz_X12_writes_at_46) vm_X12_writes cv_X12_writes_at_46 (by decide +kernel) ch_X12_writes_at_46 ck_X12_writes_at_46
def cc_X12_writes_at_47 : aC := (267, 1, [(2, 0, 0, 12), (0, -2147483648, 2147483647, 1)], none, [], 0, [106, 52012], [((2, 590, 51), 0, 47)], [], [((2, 590, 51), 0, 48)])
def ta_X12_writes_at_47 : List aL := [(0, ([(0, ((2, 0, 0, 12), (0, 0, 0), (0, 0), [])), (1, ((0, -2147483648, 2147483647, 1), (0, 0, 0), (0, 0), []))], [], [((2, 590, 51), 0, 47)]), 0, [])]
def bl_X12_writes_at_47 : List aB := [(0, vb_X12_writes_0, none)]
def cz_X12_writes_at_47 : List (Nat × aC) := []
theorem ck_X12_writes_at_47 : csOK cz_X12_writes_at_47 := trivial
theorem cv_X12_writes_at_47 : blOK kd_X12_writes bl_X12_writes_at_47 := ⟨ve_X12_writes_0, trivial⟩
theorem ch_X12_writes_at_47 : amchk ta_X12_writes_at_47 bl_X12_writes_at_47 cz_X12_writes_at_47 cc_X12_writes_at_47 = true := by decide +kernel
theorem ct_X12_writes_at_47 : CtOK cc_X12_writes_at_47 := am_ok' (T := ta_X12_writes_at_47) (B := bl_X12_writes_at_47) (cs := cz_X12_writes_at_47) vm_X12_writes cv_X12_writes_at_47 (by decide +kernel) ch_X12_writes_at_47 ck_X12_writes_at_47
def cc_X12_writes_at_48 : aC := (267, 1, [(2, 0, 0, 12), (0, -2147483648, 2147483647, 1)], none, [], 0, [106, 52012], [((2, 590, 51), 0, 48)], [], [((2, 590, 51), 0, 49)])
def ta_X12_writes_at_48 : List aL := [(0, ([(0, ((2, 0, 0, 12), (0, 0, 0), (0, 0), [])), (1, ((0, -2147483648, 2147483647, 1), (0, 0, 0), (0, 0), []))], [], [((2, 590, 51), 0, 48)]), 0, [])]
def bl_X12_writes_at_48 : List aB := [(0, vb_X12_writes_0, none)]
def cz_X12_writes_at_48 : List (Nat × aC) := []
theorem ck_X12_writes_at_48 : csOK cz_X12_writes_at_48 := trivial
theorem cv_X12_writes_at_48 : blOK kd_X12_writes bl_X12_writes_at_48 := ⟨ve_X12_writes_0, trivial⟩
theorem ch_X12_writes_at_48 : amchk ta_X12_writes_at_48 bl_X12_writes_at_48 cz_X12_writes_at_48 cc_X12_writes_at_48 = true := by decide +kernel
theorem ct_X12_writes_at_48 : CtOK cc_X12_writes_at_48 := am_ok' (T := ta_X12_writes_at_48) (B := bl_X12_writes_at_48) (cs := cz_X12_writes_at_48) vm_X12_writes cv_X12_writes_at_48 (by decide +kernel) ch_X12_writes_at_48 ck_X12_writes_at_48
def cc_X12_writes_at_49 : aC := (267, 1, [(2, 0, 0, 12), (0, 58, 58, 0)], none, [], 0, [106, 52012], [((2, 590, 51), 0, 49)], [], [((2, 590, 51), 0, 50)])
def ta_X12_writes_at_49 : List aL := [(0, ([(0, ((2, 0, 0, 12), (0, 0, 0), (0, 0), [])), (1, ((0, 58, 58, 0), (0, 0, 0), (0, 0), []))], [], [((2, 590, 51), 0, 49)]), 0, [])]
def bl_X12_writes_at_49 : List aB := [(0, vb_X12_writes_0, none)]
def cz_X12_writes_at_49 : List (Nat × aC) := []
theorem ck_X12_writes_at_49 : csOK cz_X12_writes_at_49 := trivial
theorem cv_X12_writes_at_49 : blOK kd_X12_writes bl_X12_writes_at_49 := ⟨ve_X12_writes_0, trivial⟩
theorem ch_X12_writes_at_49 : amchk ta_X12_writes_at_49 bl_X12_writes_at_49 cz_X12_writes_at_49 cc_X12_writes_at_49 = true := by decide +kernel
theorem ct_X12_writes_at_49 : CtOK cc_X12_writes_at_49 := am_ok' (T := ta_X12_writes_at_49) (B := bl_X12_writes_at_49) (cs := cz_X12_writes_at_49) vm_X12_writes cv_X12_writes_at_49 (by decide +kernel) ch_X12_writes_at_49 ck_X12_writes_at_49
def cc_X12_writes_at_5 : aC := (267, 1, [(2, 0, 0, 12), (0, -2147483648, 2147483647, 1)], none, [], 0, [106, 52012], [((2, 590, 51), 0, 5)], [], [((2, 590, 51), 0, 6)])
def ta_X12_writes_at_5 : List aL := [(0, ([(0, ((2, 0, 0, 12), (0, 0, 0), (0, 0), [])), (1, ((0, -2147483648, 2147483647, 1), (0, 0, 0), (0, 0), []))], [], [((2, 590, 51), 0, 5)]), 0, [])]
def bl_X12_writes_at_5 : List aB := [(0, vb_X12_writes_0, none)]
def cz_X12_writes_at_5 : List (Nat × aC) := []
theorem ck_X12_writes_at_5 : csOK cz_X12_writes_at_5 := trivial
theorem cv_X12_writes_at_5 : blOK kd_X12_writes bl_X12_writes_at_5 := ⟨ve_X12_writes_0, trivial⟩
theorem ch_X12_writes_at_5 : amchk ta_X12_writes_at_5 bl_X12_writes_at_5 cz_X12_writes_at_5 cc_X12_writes_at_5 = true := by decide +kernel
theorem ct_X12_writes_at_5 : CtOK cc_X12_writes_at_5 := am_ok' (T := ta_X12_writes_at_5) (B := bl_X12_writes_at_5) (cs := cz_X12_writes_at_5) vm_X12_writes cv_X12_writes_at_5 (by decide +kernel) ch_X12_writes_at_5 ck_X12_writes_at_5
def cc_X12_writes_at_50 : aC := (267, 1, [(2, 0, 0, 12), (0, 48, 57, 1)], none, [], 0, [106, 52012], [((2, 590, 51), 0, 50)], [], [((2, 590, 51), 0, 51)])
def ta_X12_writes_at_50 : List aL := [(0, ([(0, ((2, 0, 0, 12), (0, 0, 0), (0, 0), [])), (1, ((0, 48, 57, 1), (0, 0, 0), (0, 0), []))], [], [((2, 590, 51), 0, 50)]), 0, [])]
def bl_X12_writes_at_50 : List aB := [(0, vb_X12_writes_0, none)]
def cz_X12_writes_at_50 : List (Nat × aC) := []
theorem ck_X12_writes_at_50 : csOK cz_X12_writes_at_50 := trivial
theorem cv_X12_writes_at_50 : blOK kd_X12_writes bl_X12_writes_at_50 := ⟨ve_X12_writes_0, trivial⟩
theorem ch_X12_writes_at_50 : amchk ta_X12_writes_at_50 bl_X12_writes_at_50 cz_X12_writes_at_50 cc_X12_writes_at_50 = true := by decide +kernel
theorem ct_X12_writes_at_50 : CtOK cc_X12_writes_at_50 := am_ok' (T := ta_X12_writes_at_50) (B := bl_X12_writes_at_50) (cs := cz_X12_writes_at_50) vm_X12_writes cv_X12_writes_at_50 (by decide +kernel) ch_X12_writes_at_50 ck_X12_writes_at_50
def cc_X12_writes_at_51 : aC := (267, 1, [(2, 0, 0, 12), (0, 48, 57, 1)], none, [], 0, [106, 52012], [((2, 590, 51), 0, 51)], [], [((2, 590, 51), 0, 52)])
def ta_X12_writes_at_51 : List aL := [(0, ([(0, ((2, 0, 0, 12), (0, 0, 0), (0, 0), [])), (1, ((0, 48, 57, 1), (0, 0, 0), (0, 0), []))], [], [((2, 590, 51), 0, 51)]), 0, [])]
def bl_X12_writes_at_51 : List aB := [(0, vb_X12_writes_0, none)]
def cz_X12_writes_at_51 : List (Nat × aC) := []
theorem ck_X12_writes_at_51 : csOK cz_X12_writes_at_51 := trivial
theorem cv_X12_writes_at_51 : blOK kd_X12_writes bl_X12_writes_at_51 := ⟨ve_X12_writes_0, trivial⟩
theorem ch_X12_writes_at_51 : amchk ta_X12_writes_at_51 bl_X12_writes_at_51 cz_X12_writes_at_51 cc_X12_writes_at_51 = true := by decide +kernel
theorem ct_X12_writes_at_51 : CtOK cc_X12_writes_at_51 := am_ok' (T := ta_X12_writes_at_51) (B := bl_X12_writes_at_51) (cs := cz_X12_writes_at_51) vm_X12_writes cv_X12_writes_at_51 (by decide +kernel) ch_X12_writes_at_51 ck_X12_writes_at_51
def cc_X12_writes_at_52 : aC := (267, 1, [(2, 0, 0, 12), (0, 48, 57, 1)], none, [], 0, [106, 52012], [((2, 590, 51), 0, 52)], [], [((2, 590, 51), 0, 53)])
def ta_X12_writes_at_52 : List aL := [(0, ([(0, ((2, 0, 0, 12), (0, 0, 0), (0, 0), [])), (1, ((0, 48, 57, 1), (0, 0, 0), (0, 0), []))], [], [((2, 590, 51), 0, 52)]), 0, [])]
def bl_X12_writes_at_52 : List aB := [(0, vb_X12_writes_0, none)]
def cz_X12_writes_at_52 : List (Nat × aC) := []
theorem ck_X12_writes_at_52 : csOK cz_X12_writes_at_52 := trivial
theorem cv_X12_writes_at_52 : blOK kd_X12_writes bl_X12_writes_at_52 := ⟨ve_X12_writes_0, trivial⟩
theorem ch_X12_writes_at_52 : amchk ta_X12_writes_at_52 bl_X12_writes_at_52 cz_X12_writes_at_52 cc_X12_writes_at_52 = true := by decide +kernel
theorem ct_X12_writes_at_52 : CtOK cc_X12_writes_at_52 := am_ok' (T := ta_X12_writes_at_52) (B := bl_X12_writes_at_52) (cs := cz_X12_writes_at_52) vm_X12_writes cv_X12_writes_at_52 (by decide +kernel) ch_X12_writes_at_52 ck_X12_writes_at_52
def cc_X12_writes_at_54 : aC := (267, 1, [(2, 0, 0, 12), (0, 42, 42, 0)], none, [], 0, [106, 52012], [((2, 590, 51), 0, 54)], [], [((2, 590, 51), 0, 55)])
def ta_X12_writes_at_54 : List aL := [(0, ([(0, ((2, 0, 0, 12), (0, 0, 0), (0, 0), [])), (1, ((0, 42, 42, 0), (0, 0, 0), (0, 0), []))], [], [((2, 590, 51), 0, 54)]), 0, [])]
def bl_X12_writes_at_54 : List aB := [(0, vb_X12_writes_0, none)]
def cz_X12_writes_at_54 : List (Nat × aC) := []
theorem ck_X12_writes_at_54 : csOK cz_X12_writes_at_54 := trivial
theorem cv_X12_writes_at_54 : blOK kd_X12_writes bl_X12_writes_at_54 := ⟨ve_X12_writes_0, trivial⟩
theorem ch_X12_writes_at_54 : amchk ta_X12_writes_at_54 bl_X12_writes_at_54 cz_X12_writes_at_54 cc_X12_writes_at_54 = true := by decide +kernel
theorem ct_X12_writes_at_54 : CtOK cc_X12_writes_at_54 := am_ok' (T := ta_X12_writes_at_54) (B := bl_X12_writes_at_54) (cs := cz_X12_writes_at_54) vm_X12_writes cv_X12_writes_at_54 (by decide +kernel) ch_X12_writes_at_54 ck_X12_writes_at_54
def cc_X12_writes_at_55 : aC := (267, 1, [(2, 0, 0, 12), (0, 48, 57, 1)], none, [], 0, [106, 52012], [((2, 590, 51), 0, 55)], [], [((2, 590, 51), 0, 56)])
def ta_X12_writes_at_55 : List aL := [(0, ([(0, ((2, 0, 0, 12), (0, 0, 0), (0, 0), [])), (1, ((0, 48, 57, 1), (0, 0, 0), (0, 0), []))], [], [((2, 590, 51), 0, 55)]), 0, [])]
def bl_X12_writes_at_55 : List aB := [(0, vb_X12_writes_0, none)]
def cz_X12_writes_at_55 : List (Nat × aC) := []
theorem ck_X12_writes_at_55 : csOK cz_X12_writes_at_55 := trivial
theorem cv_X12_writes_at_55 : blOK kd_X12_writes bl_X12_writes_at_55 := ⟨ve_X12_writes_0, trivial⟩
theorem ch_X12_writes_at_55 : amchk ta_X12_writes_at_55 bl_X12_writes_at_55 cz_X12_writes_at_55 cc_X12_writes_at_55 = true := by decide +kernel
theorem ct_X12_writes_at_55 : CtOK cc_X12_writes_at_55 := am_ok' (T := ta_X12_writes_at_55) (B := bl_X12_writes_at_55) (cs := cz_X12_writes_at_55) vm_X12_writes cv_X12_writes_at_55 (by decide +kernel) ch_X12_writes_at_55 ck_X12_writes_at_55
def cc_X12_writes_at_56 : aC := (267, 1, [(2, 0, 0, 12), (0, 48, 57, 1)], none, [], 0, [106, 52012], [((2, 590, 51), 0, 56)], [], [((2, 590, 51), 0, 57)])
def ta_X12_writes_at_56 : List aL := [(0, ([(0, ((2, 0, 0, 12), (0, 0, 0), (0, 0), [])), (1, ((0, 48, 57, 1), (0, 0, 0), (0, 0), []))], [], [((2, 590, 51), 0, 56)]), 0, [])]
def bl_X12_writes_at_56 : List aB := [(0, vb_X12_writes_0, none)]
def cz_X12_writes_at_56 : List (Nat × aC) := []
theorem ck_X12_writes_at_56 : csOK cz_X12_writes_at_56 := trivial
theorem cv_X12_writes_at_56 : blOK kd_X12_writes bl_X12_writes_at_56 := ⟨ve_X12_writes_0, trivial⟩
theorem ch_X12_writes_at_56 : amchk ta_X12_writes_at_56 bl_X12_writes_at_56 cz_X12_writes_at_56 cc_X12_writes_at_56 = true := by decide +kernel
theorem ct_X12_writes_at_56 : CtOK cc_X12_writes_at_56 := am_ok' (T := ta_X12_writes_at_56) (B := bl_X12_writes_at_56) (cs := cz_X12_writes_at_56) vm_X12_writes cv_X12_writes_at_56 (by decide +kernel) ch_X12_writes_at_56 ck_X12_writes_at_56
def cc_X12_writes_at_57 : aC := (267, 1, [(2, 0, 0, 12), (0, 48, 57, 1)], none, [], 0, [106, 52012], [((2, 590, 51), 0, 57)], [], [((2, 590, 51), 0, 58)])
def ta_X12_writes_at_57 : List aL := [(0, ([(0, ((2, 0, 0, 12), (0, 0, 0), (0, 0), [])), (1, ((0, 48, 57, 1), (0, 0, 0), (0, 0), []))], [], [((2, 590, 51), 0, 57)]), 0, [])]
def bl_X12_writes_at_57 : List aB := [(0, vb_X12_writes_0, none)]
def cz_X12_writes_at_57 : List (Nat × aC) := []
theorem ck_X12_writes_at_57 : csOK cz_X12_writes_at_57 := trivial
theorem cv_X12_writes_at_57 : blOK kd_X12_writes bl_X12_writes_at_57 := ⟨ve_X12_writes_0, trivial⟩
theorem ch_X12_writes_at_57 : amchk ta_X12_writes_at_57 bl_X12_writes_at_57 cz_X12_writes_at_57 cc_X12_writes_at_57 = true := by decide +kernel
theorem ct_X12_writes_at_57 : CtOK cc_X12_writes_at_57 := am_ok' (T := ta_X12_writes_at_57) (B := bl_X12_writes_at_57) (cs := cz_X12_writes_at_57) vm_X12_writes cv_X12_writes_at_57 (by decide +kernel) ch_X12_writes_at_57 ck_X12_writes_at_57
def cc_X12_writes_at_58 : aC := (267, 1, [(2, 0, 0, 12), (0, 48, 57, 1)], none, [], 0, [106, 52012], [((2, 590, 51), 0, 58)], [], [((2, 590, 51), 0, 59)])
def ta_X12_writes_at_58 : List aL := [(0, ([(0, ((2, 0, 0, 12), (0, 0, 0), (0, 0), [])), (1, ((0, 48, 57, 1), (0, 0, 0), (0, 0), []))], [], [((2, 590, 51), 0, 58)]), 0, [])]
def bl_X12_writes_at_58 : List aB := [(0, vb_X12_writes_0, none)]
def cz_X12_writes_at_58 : List (Nat × aC) := []
theorem ck_X12_writes_at_58 : csOK cz_X12_writes_at_58 := trivial
theorem cv_X12_writes_at_58 : blOK kd_X12_writes bl_X12_writes_at_58 := ⟨ve_X12_writes_0, trivial⟩
theorem ch_X12_writes_at_58 : amchk ta_X12_writes_at_58 bl_X12_writes_at_58 cz_X12_writes_at_58 cc_X12_writes_at_58 = true := by decide +kernel
theorem ct_X12_writes_at_58 : CtOK cc_X12_writes_at_58 := am_ok' (T := ta_X12_writes_at_58) (B := bl_X12_writes_at_58) (cs := cz_X12_writes_at_58) vm_X12_writes cv_X12_writes_at_58 (by decide +kernel) ch_X12_writes_at_58 ck_X12_writes_at_58
def cc_X12_writes_at_59 : aC := (267, 1, [(2, 0, 0, 12), (0, 59, 59, 0)], none, [], 0, [106, 52012], [((2, 590, 51), 0, 59)], [], [((2, 590, 51), 0, 60)])
def ta_X12_writes_at_59 : List aL := [(0, ([(0, ((2, 0, 0, 12), (0, 0, 0), (0, 0), [])), (1, ((0, 59, 59, 0), (0, 0, 0), (0, 0), []))], [], [((2, 590, 51), 0, 59)]), 0, [])]
def bl_X12_writes_at_59 : List aB := [(0, vb_X12_writes_0, none)]
def cz_X12_writes_at_59 : List (Nat × aC) := []
theorem ck_X12_writes_at_59 : csOK cz_X12_writes_at_59 := trivial
theorem cv_X12_writes_at_59 : blOK kd_X12_writes bl_X12_writes_at_59 := ⟨ve_X12_writes_0, trivial⟩
theorem ch_X12_writes_at_59 : amchk ta_X12_writes_at_59 bl_X12_writes_at_59 cz_X12_writes_at_59 cc_X12_writes_at_59 = true := by decide +kernel
theorem ct_X12_writes_at_59 : CtOK cc_X12_writes_at_59 := am_ok' (T := ta_X12_writes_at_59) (B := bl_X12_writes_at_59) (cs := cz_X12_writes_at_59) vm_X12_writes cv_X12_writes_at_59 (by decide +kernel) ch_X12_writes_at_59 ck_X12_writes_at_59
def cc_X12_writes_at_6 : aC := (267, 1, [(2, 0, 0, 12), (0, -2147483648, 2147483647, 1)], none, [], 0, [106, 52012], [((2, 590, 51), 0, 6)], [], [((2, 590, 51), 0, 7)])
def ta_X12_writes_at_6 : List aL := [(0, ([(0, ((2, 0, 0, 12), (0, 0, 0), (0, 0), [])), (1, ((0, -2147483648, 2147483647, 1), (0, 0, 0), (0, 0), []))], [], [((2, 590, 51), 0, 6)]), 0, [])]
def bl_X12_writes_at_6 : List aB := [(0, vb_X12_writes_0, none)]
def cz_X12_writes_at_6 : List (Nat × aC) := []
theorem ck_X12_writes_at_6 : csOK cz_X12_writes_at_6 := trivial
theorem cv_X12_writes_at_6 : blOK kd_X12_writes bl_X12_writes_at_6 := ⟨ve_X12_writes_0, trivial⟩
theorem ch_X12_writes_at_6 : amchk ta_X12_writes_at_6 bl_X12_writes_at_6 cz_X12_writes_at_6 cc_X12_writes_at_6 = true := by decide +kernel
theorem ct_X12_writes_at_6 : CtOK cc_X12_writes_at_6 := am_ok' (T := ta_X12_writes_at_6) (B := bl_X12_writes_at_6) (cs := cz_X12_writes_at_6) vm_X12_writes cv_X12_writes_at_6 (by decide +kernel) ch_X12_writes_at_6 ck_X12_writes_at_6
def cc_X12_writes_at_60 : aC := (267, 1, [(2, 0, 0, 12), (0, 98, 98, 0)], none, [], 0, [106, 52012], [((2, 590, 51), 0, 60)], [], [((2, 590, 51), 0, 61)])
def ta_X12_writes_at_60 : List aL := [(0, ([(0, ((2, 0, 0, 12), (0, 0, 0), (0, 0), [])), (1, ((0, 98, 98, 0), (0, 0, 0), (0, 0), []))], [], [((2, 590, 51), 0, 60)]), 0, [])]
def bl_X12_writes_at_60 : List aB := [(0, vb_X12_writes_0, none)]
def cz_X12_writes_at_60 : List (Nat × aC) := []
theorem ck_X12_writes_at_60 : csOK cz_X12_writes_at_60 := trivial
theorem cv_X12_writes_at_60 : blOK kd_X12_writes bl_X12_writes_at_60 := ⟨ve_X12_writes_0, trivial⟩
theorem ch_X12_writes_at_60 : amchk ta_X12_writes_at_60 bl_X12_writes_at_60 cz_X12_writes_at_60 cc_X12_writes_at_60 = true := by decide +kernel
theorem ct_X12_writes_at_60 : CtOK cc_X12_writes_at_60 := am_ok' (T := ta_X12_writes_at_60) (B := bl_X12_writes_at_60) (cs := cz_X12_writes_at_60) vm_X12_writes cv_X12_writes_at_60 (by decide +kernel) ch_X12_writes_at_60 ck_X12_writes_at_60
def cc_X12_writes_at_61 : aC := (267, 1, [(2, 0, 0, 12), (0, -2147483648, 2147483647, 1)], none, [], 0, [106, 52012], [((2, 590, 51), 0, 61)], [], [((2, 590, 51), 0, 62)])
def ta_X12_writes_at_61 : List aL := [(0, ([(0, ((2, 0, 0, 12), (0, 0, 0), (0, 0), [])), (1, ((0, -2147483648, 2147483647, 1), (0, 0, 0), (0, 0), []))], [], [((2, 590, 51), 0, 61)]), 0, [])]
def bl_X12_writes_at_61 : List aB := [(0, vb_X12_writes_0, none)]
def cz_X12_writes_at_61 : List (Nat × aC) := []
theorem ck_X12_writes_at_61 : csOK cz_X12_writes_at_61 := trivial
theorem cv_X12_writes_at_61 : blOK kd_X12_writes bl_X12_writes_at_61 := ⟨ve_X12_writes_0, trivial⟩
theorem ch_X12_writes_at_61 : amchk ta_X12_writes_at_61 bl_X12_writes_at_61 cz_X12_writes_at_61 cc_X12_writes_at_61 = true := by decide +kernel
theorem ct_X12_writes_at_61 : CtOK cc_X12_writes_at_61 := am_ok' (T := ta_X12_writes_at_61) (B := bl_X12_writes_at_61) (cs := cz_X12_writes_at_61) vm_X12_writes cv_X12_writes_at_61 (by decide +kernel) ch_X12_writes_at_61 ck_X12_writes_at_61
def cc_X12_writes_at_62 : aC := (267, 1, [(2, 0, 0, 12), (0, -2147483648, 2147483647, 1)], none, [], 0, [106, 52012], [((2, 590, 51), 0, 62)], [], [((2, 590, 51), 0, 63)])
def ta_X12_writes_at_62 : List aL := [(0, ([(0, ((2, 0, 0, 12), (0, 0, 0), (0, 0), [])), (1, ((0, -2147483648, 2147483647, 1), (0, 0, 0), (0, 0), []))], [], [((2, 590, 51), 0, 62)]), 0, [])]
def bl_X12_writes_at_62 : List aB := [(0, vb_X12_writes_0, none)]
def cz_X12_writes_at_62 : List (Nat × aC) := []
theorem ck_X12_writes_at_62 : csOK cz_X12_writes_at_62 := trivial
theorem cv_X12_writes_at_62 : blOK kd_X12_writes bl_X12_writes_at_62 := ⟨ve_X12_writes_0, trivial⟩
theorem ch_X12_writes_at_62 : amchk ta_X12_writes_at_62 bl_X12_writes_at_62 cz_X12_writes_at_62 cc_X12_writes_at_62 = true := by decide +kernel
theorem ct_X12_writes_at_62 : CtOK cc_X12_writes_at_62 := am_ok' (T := ta_X12_writes_at_62) (B := bl_X12_writes_at_62) (cs := cz_X12_writes_at_62) vm_X12_writes cv_X12_writes_at_62 (by decide +kernel) ch_X12_writes_at_62 ck_X12_writes_at_62
def cc_X12_writes_at_63 : aC := (267, 1, [(2, 0, 0, 12), (0, -2147483648, 2147483647, 1)], none, [], 0, [106, 52012], [((2, 590, 51), 0, 63)], [], [((2, 590, 51), 0, 64)])
def ta_X12_writes_at_63 : List aL := [(0, ([(0, ((2, 0, 0, 12), (0, 0, 0), (0, 0), [])), (1, ((0, -2147483648, 2147483647, 1), (0, 0, 0), (0, 0), []))], [], [((2, 590, 51), 0, 63)]), 0, [])]
def bl_X12_writes_at_63 : List aB := [(0, vb_X12_writes_0, none)]
def cz_X12_writes_at_63 : List (Nat × aC) := []
theorem ck_X12_writes_at_63 : csOK cz_X12_writes_at_63 := trivial
theorem cv_X12_writes_at_63 : blOK kd_X12_writes bl_X12_writes_at_63 := ⟨ve_X12_writes_0, trivial⟩
theorem ch_X12_writes_at_63 : amchk ta_X12_writes_at_63 bl_X12_writes_at_63 cz_X12_writes_at_63 cc_X12_writes_at_63 = true := by decide +kernel
theorem ct_X12_writes_at_63 : CtOK cc_X12_writes_at_63 := am_ok' (T := ta_X12_writes_at_63) (B := bl_X12_writes_at_63) (cs := cz_X12_writes_at_63) vm_X12_writes cv_X12_writes_at_63 (by decide +kernel) ch_X12_writes_at_63 ck_X12_writes_at_63
def cc_X12_writes_at_64 : aC := (267, 1, [(2, 0, 0, 12), (0, -2147483648, 2147483647, 1)], none, [], 0, [106, 52012], [((2, 590, 51), 0, 64)], [], [((2, 590, 51), 0, 65)])
def ta_X12_writes_at_64 : List aL := [(0, ([(0, ((2, 0, 0, 12), (0, 0, 0), (0, 0), [])), (1, ((0, -2147483648, 2147483647, 1), (0, 0, 0), (0, 0), []))], [], [((2, 590, 51), 0, 64)]), 0, [])]
def bl_X12_writes_at_64 : List aB := [(0, vb_X12_writes_0, none)]
def cz_X12_writes_at_64 : List (Nat × aC) := []
theorem ck_X12_writes_at_64 : csOK cz_X12_writes_at_64 := trivial
theorem cv_X12_writes_at_64 : blOK kd_X12_writes bl_X12_writes_at_64 := ⟨ve_X12_writes_0, trivial⟩
theorem ch_X12_writes_at_64 : amchk ta_X12_writes_at_64 bl_X12_writes_at_64 cz_X12_writes_at_64 cc_X12_writes_at_64 = true := by decide +kernel
theorem ct_X12_writes_at_64 : CtOK cc_X12_writes_at_64 := am_ok' (T := ta_X12_writes_at_64) (B := bl_X12_writes_at_64) (cs := cz_X12_writes_at_64) vm_X12_writes cv_X12_writes_at_64 (by decide +kernel) ch_X12_writes_at_64 ck_X12_writes_at_64
def cc_X12_writes_at_65 : aC := (267, 1, [(2, 0, 0, 12), (0, -2147483648, 2147483647, 1)], none, [], 0, [106, 52012], [((2, 590, 51), 0, 65)], [], [((2, 590, 51), 0, 66)])
def ta_X12_writes_at_65 : List aL := [(0, ([(0, ((2, 0, 0, 12), (0, 0, 0), (0, 0), [])), (1, ((0, -2147483648, 2147483647, 1), (0, 0, 0), (0, 0), []))], [], [((2, 590, 51), 0, 65)]), 0, [])]
def bl_X12_writes_at_65 : List aB := [(0, vb_X12_writes_0, none)]
def cz_X12_writes_at_65 : List (Nat × aC) := []
theorem ck_X12_writes_at_65 : csOK cz_X12_writes_at_65 := trivial
theorem cv_X12_writes_at_65 : blOK kd_X12_writes bl_X12_writes_at_65 := ⟨ve_X12_writes_0, trivial⟩
theorem ch_X12_writes_at_65 : amchk ta_X12_writes_at_65 bl_X12_writes_at_65 cz_X12_writes_at_65 cc_X12_writes_at_65 = true := by decide +kernel
theorem ct_X12_writes_at_65 : CtOK cc_X12_writes_at_65 := am_ok' (T := ta_X12_writes_at_65) (B := bl_X12_writes_at_65) (cs := cz_X12_writes_at_65) vm_X12_writes cv_X12_writes_at_65 (by decide +kernel) ch_X12_writes_at_65 ck_X12_writes_at_65
def cc_X12_writes_at_66 : aC := (267, 1, [(2, 0, 0, 12), (0, -2147483648, 2147483647, 1)], none, [], 0, [106, 52012], [((2, 590, 51), 0, 66)], [], [((2, 590, 51), 0, 67)])
def ta_X12_writes_at_66 : List aL := [(0, ([(0, ((2, 0, 0, 12), (0, 0, 0), (0, 0), [])), (1, ((0, -2147483648, 2147483647, 1), (0, 0, 0), (0, 0), []))], [], [((2, 590, 51), 0, 66)]), 0, [])]
def bl_X12_writes_at_66 : List aB := [(0, vb_X12_writes_0, none)]
def cz_X12_writes_at_66 : List (Nat × aC) := []
theorem ck_X12_writes_at_66 : csOK cz_X12_writes_at_66 := trivial
theorem cv_X12_writes_at_66 : blOK kd_X12_writes bl_X12_writes_at_66 := ⟨ve_X12_writes_0, trivial⟩
theorem ch_X12_writes_at_66 : amchk ta_X12_writes_at_66 bl_X12_writes_at_66 cz_X12_writes_at_66 cc_X12_writes_at_66 = true := by decide +kernel
theorem ct_X12_writes_at_66 : CtOK cc_X12_writes_at_66 := am_ok' (T := ta_X12_writes_at_66) (B := bl_X12_writes_at_66) (cs := cz_X12_writes_at_66) vm_X12_writes cv_X12_writes_at_66 (by decide +kernel) ch_X12_writes_at_66 ck_X12_writes_at_66
def cc_X12_writes_at_67 : aC := (267, 1, [(2, 0, 0, 12), (0, -2147483648, 2147483647, 1)], none, [], 0, [106, 52012], [((2, 590, 51), 0, 67)], [], [((2, 590, 51), 0, 68)])
def ta_X12_writes_at_67 : List aL := [(0, ([(0, ((2, 0, 0, 12), (0, 0, 0), (0, 0), [])), (1, ((0, -2147483648, 2147483647, 1), (0, 0, 0), (0, 0), []))], [], [((2, 590, 51), 0, 67)]), 0, [])]
def bl_X12_writes_at_67 : List aB := [(0, vb_X12_writes_0, none)]
def cz_X12_writes_at_67 : List (Nat × aC) := []
theorem ck_X12_writes_at_67 : csOK cz_X12_writes_at_67 := trivial
theorem cv_X12_writes_at_67 : blOK kd_X12_writes bl_X12_writes_at_67 := ⟨ve_X12_writes_0, trivial⟩
theorem ch_X12_writes_at_67 : amchk ta_X12_writes_at_67 bl_X12_writes_at_67 cz_X12_writes_at_67 cc_X12_writes_at_67 = true := by decide +kernel
theorem ct_X12_writes_at_67 : CtOK cc_X12_writes_at_67 := am_ok' (T := ta_X12_writes_at_67) (B := bl_X12_writes_at_67) (cs := cz_X12_writes_at_67) vm_X12_writes cv_X12_writes_at_67 (by decide +kernel) ch_X12_writes_at_67 ck_X12_writes_at_67
def cc_X12_writes_at_68 : aC := (267, 1, [(2, 0, 0, 12), (0, -2147483648, 2147483647, 1)], none, [], 0, [106, 52012], [((2, 590, 51), 0, 68)], [], [((2, 590, 51), 0, 69)])
def ta_X12_writes_at_68 : List aL := [(0, ([(0, ((2, 0, 0, 12), (0, 0, 0), (0, 0), [])), (1, ((0, -2147483648, 2147483647, 1), (0, 0, 0), (0, 0), []))], [], [((2, 590, 51), 0, 68)]), 0, [])]
def bl_X12_writes_at_68 : List aB := [(0, vb_X12_writes_0, none)]
def cz_X12_writes_at_68 : List (Nat × aC) := []
theorem ck_X12_writes_at_68 : csOK cz_X12_writes_at_68 := trivial
theorem cv_X12_writes_at_68 : blOK kd_X12_writes bl_X12_writes_at_68 := ⟨ve_X12_writes_0, trivial⟩
theorem ch_X12_writes_at_68 : amchk ta_X12_writes_at_68 bl_X12_writes_at_68 cz_X12_writes_at_68 cc_X12_writes_at_68 = true := by decide +kernel
theorem ct_X12_writes_at_68 : CtOK cc_X12_writes_at_68 := am_ok' (T := ta_X12_writes_at_68) (B := bl_X12_writes_at_68) (cs := cz_X12_writes_at_68) vm_X12_writes cv_X12_writes_at_68 (by decide +kernel) ch_X12_writes_at_68 ck_X12_writes_at_68
def cc_X12_writes_at_69 : aC := (267, 1, [(2, 0, 0, 12), (0, 58, 58, 0)], none, [], 0, [106, 52012], [((2, 590, 51), 0, 69)], [], [((2, 590, 51), 0, 70)])
def ta_X12_writes_at_69 : List aL := [(0, ([(0, ((2, 0, 0, 12), (0, 0, 0), (0, 0), [])), (1, ((0, 58, 58, 0), (0, 0, 0), (0, 0), []))], [], [((2, 590, 51), 0, 69)]), 0, [])]
def bl_X12_writes_at_69 : List aB := [(0, vb_X12_writes_0, none)]
def cz_X12_writes_at_69 : List (Nat × aC) := []
theorem ck_X12_writes_at_69 : csOK cz_X12_writes_at_69 := trivial
theorem cv_X12_writes_at_69 : blOK kd_X12_writes bl_X12_writes_at_69 := ⟨ve_X12_writes_0, trivial⟩
theorem ch_X12_writes_at_69 : amchk ta_X12_writes_at_69 bl_X12_writes_at_69 cz_X12_writes_at_69 cc_X12_writes_at_69 = true := by decide +kernel
theorem ct_X12_writes_at_69 : CtOK cc_X12_writes_at_69 := am_ok' (T := ta_X12_writes_at_69) (B := bl_X12_writes_at_69) (cs := cz_X12_writes_at_69) vm_X12_writes cv_X12_writes_at_69 (by decide +kernel) ch_X12_writes_at_69 ck_X12_writes_at_69
def cc_X12_writes_at_7 : aC := (267, 1, [(2, 0, 0, 12), (0, -2147483648, 2147483647, 1)], none, [], 0, [106, 52012], [((2, 590, 51), 0, 7)], [], [((2, 590, 51), 0, 8)])
def ta_X12_writes_at_7 : List aL := [(0, ([(0, ((2, 0, 0, 12), (0, 0, 0), (0, 0), [])), (1, ((0, -2147483648, 2147483647, 1), (0, 0, 0), (0, 0), []))], [], [((2, 590, 51), 0, 7)]), 0, [])]
def bl_X12_writes_at_7 : List aB := [(0, vb_X12_writes_0, none)]
def cz_X12_writes_at_7 : List (Nat × aC) := []
theorem ck_X12_writes_at_7 : csOK cz_X12_writes_at_7 := trivial
theorem cv_X12_writes_at_7 : blOK kd_X12_writes bl_X12_writes_at_7 := ⟨ve_X12_writes_0, trivial⟩
theorem ch_X12_writes_at_7 : amchk ta_X12_writes_at_7 bl_X12_writes_at_7 cz_X12_writes_at_7 cc_X12_writes_at_7 = true := by decide +kernel
theorem ct_X12_writes_at_7 : CtOK cc_X12_writes_at_7 := am_ok' (T := ta_X12_writes_at_7) (B := bl_X12_writes_at_7) (cs := cz_X12_writes_at_7) vm_X12_writes cv_X12_writes_at_7 (by decide +kernel) ch_X12_writes_at_7 ck_X12_writes_at_7
def cc_X12_writes_at_70 : aC := (267, 1, [(2, 0, 0, 12), (0, 48, 57, 1)], none, [], 0, [106, 52012], [((2, 590, 51), 0, 70)], [], [((2, 590, 51), 0, 71)])
def ta_X12_writes_at_70 : List aL := [(0, ([(0, ((2, 0, 0, 12), (0, 0, 0), (0, 0), [])), (1, ((0, 48, 57, 1), (0, 0, 0), (0, 0), []))], [], [((2, 590, 51), 0, 70)]), 0, [])]
def bl_X12_writes_at_70 : List aB := [(0, vb_X12_writes_0, none)]
def cz_X12_writes_at_70 : List (Nat × aC) := []
theorem ck_X12_writes_at_70 : csOK cz_X12_writes_at_70 := trivial
theorem cv_X12_writes_at_70 : blOK kd_X12_writes bl_X12_writes_at_70 := ⟨ve_X12_writes_0, trivial⟩
theorem ch_X12_writes_at_70 : amchk ta_X12_writes_at_70 bl_X12_writes_at_70 cz_X12_writes_at_70 cc_X12_writes_at_70 = true := by decide +kernel
theorem ct_X12_writes_at_70 : CtOK cc_X12_writes_at_70 := am_ok' (T := ta_X12_writes_at_70) (B := bl_X12_writes_at_70) (cs := cz_X12_writes_at_70) vm_X12_writes cv_X12_writes_at_70 (by decide +kernel) ch_X12_writes_at_70 ck_X12_writes_at_70
def cc_X12_writes_at_71 : aC := (267, 1, [(2, 0, 0, 12), (0, 48, 57, 1)], none, [], 0, [106, 52012], [((2, 590, 51), 0, 71)], [], [((2, 590, 51), 0, 72)])
def ta_X12_writes_at_71 : List aL := [(0, ([(0, ((2, 0, 0, 12), (0, 0, 0), (0, 0), [])), (1, ((0, 48, 57, 1), (0, 0, 0), (0, 0), []))], [], [((2, 590, 51), 0, 71)]), 0, [])]
def bl_X12_writes_at_71 : List aB := [(0, vb_X12_writes_0, none)]
def cz_X12_writes_at_71 : List (Nat × aC) := []
theorem ck_X12_writes_at_71 : csOK cz_X12_writes_at_71 := trivial
theorem cv_X12_writes_at_71 : blOK kd_X12_writes bl_X12_writes_at_71 := ⟨ve_X12_writes_0, trivial⟩
theorem ch_X12_writes_at_71 : amchk ta_X12_writes_at_71 bl_X12_writes_at_71 cz_X12_writes_at_71 cc_X12_writes_at_71 = true := by decide +kernel
theorem ct_X12_writes_at_71 : CtOK cc_X12_writes_at_71 := am_ok' (T := ta_X12_writes_at_71) (B := bl_X12_writes_at_71) (cs := cz_X12_writes_at_71) vm_X12_writes cv_X12_writes_at_71 (by decide +kernel) ch_X12_writes_at_71 ck_X12_writes_at_71
def cc_X12_writes_at_72 : aC := (267, 1, [(2, 0, 0, 12), (0, 48, 57, 1)], none, [], 0, [106, 52012], [((2, 590, 51), 0, 72)], [], [((2, 590, 51), 0, 73)])
def ta_X12_writes_at_72 : List aL := [(0, ([(0, ((2, 0, 0, 12), (0, 0, 0), (0, 0), [])), (1, ((0, 48, 57, 1), (0, 0, 0), (0, 0), []))], [], [((2, 590, 51), 0, 72)]), 0, [])]
def bl_X12_writes_at_72 : List aB := [(0, vb_X12_writes_0, none)]
def cz_X12_writes_at_72 : List (Nat × aC) := []
theorem ck_X12_writes_at_72 : csOK cz_X12_writes_at_72 := trivial
theorem cv_X12_writes_at_72 : blOK kd_X12_writes bl_X12_writes_at_72 := ⟨ve_X12_writes_0, trivial⟩
theorem ch_X12_writes_at_72 : amchk ta_X12_writes_at_72 bl_X12_writes_at_72 cz_X12_writes_at_72 cc_X12_writes_at_72 = true := by decide +kernel
theorem ct_X12_writes_at_72 : CtOK cc_X12_writes_at_72 := am_ok' (T := ta_X12_writes_at_72) (B := bl_X12_writes_at_72) (cs := cz_X12_writes_at_72) vm_X12_writes cv_X12_writes_at_72 (by decide +kernel) ch_X12_writes_at_72 ck_X12_writes_at_72
def cc_X12_writes_at_74 : aC := (267, 1, [(2, 0, 0, 12), (0, 42, 42, 0)], none, [], 0, [106, 52012], [((2, 590, 51), 0, 74)], [], [((2, 590, 51), 0, 75)])
def ta_X12_writes_at_74 : List aL := [(0, ([(0, ((2, 0, 0, 12), (0, 0, 0), (0, 0), [])), (1, ((0, 42, 42, 0), (0, 0, 0), (0, 0), []))], [], [((2, 590, 51), 0, 74)]), 0, [])]
def bl_X12_writes_at_74 : List aB := [(0, vb_X12_writes_0, none)]
def cz_X12_writes_at_74 : List (Nat × aC) := []
theorem ck_X12_writes_at_74 : csOK cz_X12_writes_at_74 := trivial
theorem cv_X12_writes_at_74 : blOK kd_X12_writes bl_X12_writes_at_74 := ⟨ve_X12_writes_0, trivial⟩
theorem ch_X12_writes_at_74 : amchk ta_X12_writes_at_74 bl_X12_writes_at_74 cz_X12_writes_at_74 cc_X12_writes_at_74 = true := by decide +kernel
theorem ct_X12_writes_at_74 : CtOK cc_X12_writes_at_74 := am_ok' (T := ta_X12_writes_at_74) (B := bl_X12_writes_at_74) (cs := cz_X12_writes_at_74) vm_X12_writes cv_X12_writes_at_74 (by decide +kernel) ch_X12_writes_at_74 ck_X12_writes_at_74
def cc_X12_writes_at_75 : aC := (267, 1, [(2, 0, 0, 12), (0, 48, 57, 1)], none, [], 0, [106, 52012], [((2, 590, 51), 0, 75)], [], [((2, 590, 51), 0, 76)])
def ta_X12_writes_at_75 : List aL := [(0, ([(0, ((2, 0, 0, 12), (0, 0, 0), (0, 0), [])), (1, ((0, 48, 57, 1), (0, 0, 0), (0, 0), []))], [], [((2, 590, 51), 0, 75)]), 0, [])]
def bl_X12_writes_at_75 : List aB := [(0, vb_X12_writes_0, none)]
def cz_X12_writes_at_75 : List (Nat × aC) := []
theorem ck_X12_writes_at_75 : csOK cz_X12_writes_at_75 := trivial
theorem cv_X12_writes_at_75 : blOK kd_X12_writes bl_X12_writes_at_75 := ⟨ve_X12_writes_0, trivial⟩
theorem ch_X12_writes_at_75 : amchk ta_X12_writes_at_75 bl_X12_writes_at_75 cz_X12_writes_at_75 cc_X12_writes_at_75 = true := by decide +kernel
theorem ct_X12_writes_at_75 : CtOK cc_X12_writes_at_75 := am_ok' (T := ta_X12_writes_at_75) (B := bl_X12_writes_at_75) (cs := cz_X12_writes_at_75) vm_X12_writes cv_X12_writes_at_75 (by decide +kernel) ch_X12_writes_at_75 ck_X12_writes_at_75
def cc_X12_writes_at_76 : aC := (267, 1, [(2, 0, 0, 12), (0, 48, 57, 1)], none, [], 0, [106, 52012], [((2, 590, 51), 0, 76)], [], [((2, 590, 51), 0, 77)])
def ta_X12_writes_at_76 : List aL := [(0, ([(0, ((2, 0, 0, 12), (0, 0, 0), (0, 0), [])), (1, ((0, 48, 57, 1), (0, 0, 0), (0, 0), []))], [], [((2, 590, 51), 0, 76)]), 0, [])]
def bl_X12_writes_at_76 : List aB := [(0, vb_X12_writes_0, none)]
def cz_X12_writes_at_76 : List (Nat × aC) := []
theorem ck_X12_writes_at_76 : csOK cz_X12_writes_at_76 := trivial
theorem cv_X12_writes_at_76 : blOK kd_X12_writes bl_X12_writes_at_76 := ⟨ve_X12_writes_0, trivial⟩
theorem ch_X12_writes_at_76 : amchk ta_X12_writes_at_76 bl_X12_writes_at_76 cz_X12_writes_at_76 cc_X12_writes_at_76 = true := by decide +kernel
theorem ct_X12_writes_at_76 : CtOK cc_X12_writes_at_76 := am_ok' (T := ta_X12_writes_at_76) (B := bl_X12_writes_at_76) (cs := cz_X12_writes_at_76) vm_X12_writes cv_X12_writes_at_76 (by decide +kernel) ch_X12_writes_at_76 ck_X12_writes_at_76
def cc_X12_writes_at_77 : aC := (267, 1, [(2, 0, 0, 12), (0, 48, 57, 1)], none, [], 0, [106, 52012], [((2, 590, 51), 0, 77)], [], [((2, 590, 51), 0, 78)])
def ta_X12_writes_at_77 : List aL := [(0, ([(0, ((2, 0, 0, 12), (0, 0, 0), (0, 0), [])), (1, ((0, 48, 57, 1), (0, 0, 0), (0, 0), []))], [], [((2, 590, 51), 0, 77)]), 0, [])]
def bl_X12_writes_at_77 : List aB := [(0, vb_X12_writes_0, none)]
def cz_X12_writes_at_77 : List (Nat × aC) := []
theorem ck_X12_writes_at_77 : csOK cz_X12_writes_at_77 := trivial
theorem cv_X12_writes_at_77 : blOK kd_X12_writes bl_X12_writes_at_77 := ⟨ve_X12_writes_0, trivial⟩
theorem ch_X12_writes_at_77 : amchk ta_X12_writes_at_77 bl_X12_writes_at_77 cz_X12_writes_at_77 cc_X12_writes_at_77 = true := by decide +kernel
theorem ct_X12_writes_at_77 : CtOK cc_X12_writes_at_77 := am_ok' (T := ta_X12_writes_at_77) (B := bl_X12_writes_at_77) (cs := cz_X12_writes_at_77) vm_X12_writes cv_X12_writes_at_77 (by decide +kernel) ch_X12_writes_at_77 ck_X12_writes_at_77
def cc_X12_writes_at_78 : aC := (267, 1, [(2, 0, 0, 12), (0, 48, 57, 1)], none, [], 0, [106, 52012], [((2, 590, 51), 0, 78)], [], [((2, 590, 51), 0, 79)])
def ta_X12_writes_at_78 : List aL := [(0, ([(0, ((2, 0, 0, 12), (0, 0, 0), (0, 0), [])), (1, ((0, 48, 57, 1), (0, 0, 0), (0, 0), []))], [], [((2, 590, 51), 0, 78)]), 0, [])]
def bl_X12_writes_at_78 : List aB := [(0, vb_X12_writes_0, none)]
def cz_X12_writes_at_78 : List (Nat × aC) := []
theorem ck_X12_writes_at_78 : csOK cz_X12_writes_at_78 := trivial
theorem cv_X12_writes_at_78 : blOK kd_X12_writes bl_X12_writes_at_78 := ⟨ve_X12_writes_0, trivial⟩
theorem ch_X12_writes_at_78 : amchk ta_X12_writes_at_78 bl_X12_writes_at_78 cz_X12_writes_at_78 cc_X12_writes_at_78 = true := by decide +kernel
theorem ct_X12_writes_at_78 : CtOK cc_X12_writes_at_78 := am_ok' (T := ta_X12_writes_at_78) (B := bl_X12_writes_at_78) (cs := cz_X12_writes_at_78) vm_X12_writes cv_X12_writes_at_78 (by decide +kernel) ch_X12_writes_at_78 ck_X12_writes_at_78
def cc_X12_writes_at_79 : aC := (267, 1, [(2, 0, 0, 12), (0, 59, 59, 0)], none, [], 0, [106, 52012], [((2, 590, 51), 0, 79)], [], [((2, 590, 51), 0, 80)])
def ta_X12_writes_at_79 : List aL := [(0, ([(0, ((2, 0, 0, 12), (0, 0, 0), (0, 0), [])), (1, ((0, 59, 59, 0), (0, 0, 0), (0, 0), []))], [], [((2, 590, 51), 0, 79)]), 0, [])]
def bl_X12_writes_at_79 : List aB := [(0, vb_X12_writes_0, none)]
def cz_X12_writes_at_79 : List (Nat × aC) := []
theorem ck_X12_writes_at_79 : csOK cz_X12_writes_at_79 := trivial
theorem cv_X12_writes_at_79 : blOK kd_X12_writes bl_X12_writes_at_79 := ⟨ve_X12_writes_0, trivial⟩
theorem ch_X12_writes_at_79 : amchk ta_X12_writes_at_79 bl_X12_writes_at_79 cz_X12_writes_at_79 cc_X12_writes_at_79 = true := by decide +kernel
theorem ct_X12_writes_at_79 : CtOK cc_X12_writes_at_79 := am_ok' (T := ta_X12_writes_at_79) (B := bl_X12_writes_at_79) (cs := cz_X12_writes_at_79) vm_X12_writes cv_X12_writes_at_79 (by decide +kernel) ch_X12_writes_at_79 ck_X12_writes_at_79
def cc_X12_writes_at_8 : aC := (267, 1, [(2, 0, 0, 12), (0, -2147483648, 2147483647, 1)], none, [], 0, [106, 52012], [((2, 590, 51), 0, 8)], [], [((2, 590, 51), 0, 9)])
def ta_X12_writes_at_8 : List aL := [(0, ([(0, ((2, 0, 0, 12), (0, 0, 0), (0, 0), [])), (1, ((0, -2147483648, 2147483647, 1), (0, 0, 0), (0, 0), []))], [], [((2, 590, 51), 0, 8)]), 0, [])]
def bl_X12_writes_at_8 : List aB := [(0, vb_X12_writes_0, none)]
def cz_X12_writes_at_8 : List (Nat × aC) := []
theorem ck_X12_writes_at_8 : csOK cz_X12_writes_at_8 := trivial
theorem cv_X12_writes_at_8 : blOK kd_X12_writes bl_X12_writes_at_8 := ⟨ve_X12_writes_0, trivial⟩
theorem ch_X12_writes_at_8 : amchk ta_X12_writes_at_8 bl_X12_writes_at_8 cz_X12_writes_at_8 cc_X12_writes_at_8 = true := by decide +kernel
theorem ct_X12_writes_at_8 : CtOK cc_X12_writes_at_8 := am_ok' (T := ta_X12_writes_at_8) (B := bl_X12_writes_at_8) (cs := cz_X12_writes_at_8) vm_X12_writes cv_X12_writes_at_8 (by decide +kernel) ch_X12_writes_at_8 ck_X12_writes_at_8
def cc_X12_writes_at_80 : aC := (267, 1, [(2, 0, 0, 12), (0, 98, 98, 0)], none, [], 0, [106, 52012], [((2, 590, 51), 0, 80)], [], [((2, 590, 51), 0, 81)])
def ta_X12_writes_at_80 : List aL := [(0, ([(0, ((2, 0, 0, 12), (0, 0, 0), (0, 0), [])), (1, ((0, 98, 98, 0), (0, 0, 0), (0, 0), []))], [], [((2, 590, 51), 0, 80)]), 0, [])]
def bl_X12_writes_at_80 : List aB := [(0, vb_X12_writes_0, none)]
def cz_X12_writes_at_80 : List (Nat × aC) := []
theorem ck_X12_writes_at_80 : csOK cz_X12_writes_at_80 := trivial
theorem cv_X12_writes_at_80 : blOK kd_X12_writes bl_X12_writes_at_80 := ⟨ve_X12_writes_0, trivial⟩
theorem ch_X12_writes_at_80 : amchk ta_X12_writes_at_80 bl_X12_writes_at_80 cz_X12_writes_at_80 cc_X12_writes_at_80 = true := by decide +kernel
theorem ct_X12_writes_at_80 : CtOK cc_X12_writes_at_80 := am_ok' (T := ta_X12_writes_at_80) (B := bl_X12_writes_at_80) (cs := cz_X12_writes_at_80) vm_X12_writes cv_X12_writes_at_80 (by decide +kernel) ch_X12_writes_at_80 ck_X12_writes_at_80
def cc_X12_writes_at_81 : aC := (267, 1, [(2, 0, 0, 12), (0, -2147483648, 2147483647, 1)], none, [], 0, [106, 52012], [((2, 590, 51), 0, 81)], [], [((2, 590, 51), 0, 82)])
def ta_X12_writes_at_81 : List aL := [(0, ([(0, ((2, 0, 0, 12), (0, 0, 0), (0, 0), [])), (1, ((0, -2147483648, 2147483647, 1), (0, 0, 0), (0, 0), []))], [], [((2, 590, 51), 0, 81)]), 0, [])]
def bl_X12_writes_at_81 : List aB := [(0, vb_X12_writes_0, none)]
def cz_X12_writes_at_81 : List (Nat × aC) := []
theorem ck_X12_writes_at_81 : csOK cz_X12_writes_at_81 := trivial
theorem cv_X12_writes_at_81 : blOK kd_X12_writes bl_X12_writes_at_81 := ⟨ve_X12_writes_0, trivial⟩
theorem ch_X12_writes_at_81 : amchk ta_X12_writes_at_81 bl_X12_writes_at_81 cz_X12_writes_at_81 cc_X12_writes_at_81 = true := by decide +kernel
theorem ct_X12_writes_at_81 : CtOK cc_X12_writes_at_81 := am_ok' (T := ta_X12_writes_at_81) (B := bl_X12_writes_at_81) (cs := cz_X12_writes_at_81) vm_X12_writes cv_X12_writes_at_81 (by decide +kernel) ch_X12_writes_at_81 ck_X12_writes_at_81
def cc_X12_writes_at_82 : aC := (267, 1, [(2, 0, 0, 12), (0, -2147483648, 2147483647, 1)], none, [], 0, [106, 52012], [((2, 590, 51), 0, 82)], [], [((2, 590, 51), 0, 83)])
def ta_X12_writes_at_82 : List aL := [(0, ([(0, ((2, 0, 0, 12), (0, 0, 0), (0, 0), [])), (1, ((0, -2147483648, 2147483647, 1), (0, 0, 0), (0, 0), []))], [], [((2, 590, 51), 0, 82)]), 0, [])]
def bl_X12_writes_at_82 : List aB := [(0, vb_X12_writes_0, none)]
def cz_X12_writes_at_82 : List (Nat × aC) := []
theorem ck_X12_writes_at_82 : csOK cz_X12_writes_at_82 := trivial
theorem cv_X12_writes_at_82 : blOK kd_X12_writes bl_X12_writes_at_82 := ⟨ve_X12_writes_0, trivial⟩
theorem ch_X12_writes_at_82 : amchk ta_X12_writes_at_82 bl_X12_writes_at_82 cz_X12_writes_at_82 cc_X12_writes_at_82 = true := by decide +kernel
theorem ct_X12_writes_at_82 : CtOK cc_X12_writes_at_82 := am_ok' (T := ta_X12_writes_at_82) (B := bl_X12_writes_at_82) (cs := cz_X12_writes_at_82) vm_X12_writes cv_X12_writes_at_82 (by decide +kernel) ch_X12_writes_at_82 ck_X12_writes_at_82
def cc_X12_writes_at_83 : aC := (267, 1, [(2, 0, 0, 12), (0, -2147483648, 2147483647, 1)], none, [], 0, [106, 52012], [((2, 590, 51), 0, 83)], [], [((2, 590, 51), 0, 84)])
def ta_X12_writes_at_83 : List aL := [(0, ([(0, ((2, 0, 0, 12), (0, 0, 0), (0, 0), [])), (1, ((0, -2147483648, 2147483647, 1), (0, 0, 0), (0, 0), []))], [], [((2, 590, 51), 0, 83)]), 0, [])]
def bl_X12_writes_at_83 : List aB := [(0, vb_X12_writes_0, none)]
def cz_X12_writes_at_83 : List (Nat × aC) := []
theorem ck_X12_writes_at_83 : csOK cz_X12_writes_at_83 := trivial
theorem cv_X12_writes_at_83 : blOK kd_X12_writes bl_X12_writes_at_83 := ⟨ve_X12_writes_0, trivial⟩
theorem ch_X12_writes_at_83 : amchk ta_X12_writes_at_83 bl_X12_writes_at_83 cz_X12_writes_at_83 cc_X12_writes_at_83 = true := by decide +kernel
theorem ct_X12_writes_at_83 : CtOK cc_X12_writes_at_83 := am_ok' (T := ta_X12_writes_at_83) (B := bl_X12_writes_at_83) (cs := cz_X12_writes_at_83) vm_X12_writes cv_X12_writes_at_83 (by decide +kernel) ch_X12_writes_at_83 ck_X12_writes_at_83
def cc_X12_writes_at_84 : aC := (267, 1, [(2, 0, 0, 12), (0, -2147483648, 2147483647, 1)], none, [], 0, [106, 52012], [((2, 590, 51), 0, 84)], [], [((2, 590, 51), 0, 85)])
def ta_X12_writes_at_84 : List aL := [(0, ([(0, ((2, 0, 0, 12), (0, 0, 0), (0, 0), [])), (1, ((0, -2147483648, 2147483647, 1), (0, 0, 0), (0, 0), []))], [], [((2, 590, 51), 0, 84)]), 0, [])]
def bl_X12_writes_at_84 : List aB := [(0, vb_X12_writes_0, none)]
def cz_X12_writes_at_84 : List (Nat × aC) := []
theorem ck_X12_writes_at_84 : csOK cz_X12_writes_at_84 := trivial
theorem cv_X12_writes_at_84 : blOK kd_X12_writes bl_X12_writes_at_84 := ⟨ve_X12_writes_0, trivial⟩
theorem ch_X12_writes_at_84 : amchk ta_X12_writes_at_84 bl_X12_writes_at_84 cz_X12_writes_at_84 cc_X12_writes_at_84 = true := by decide +kernel
theorem ct_X12_writes_at_84 : CtOK cc_X12_writes_at_84 := am_ok' (T := ta_X12_writes_at_84) (B := bl_X12_writes_at_84) (cs := cz_X12_writes_at_84) vm_X12_writes cv_X12_writes_at_84 (by decide +kernel) ch_X12_writes_at_84 ck_X12_writes_at_84
def cc_X12_writes_at_85 : aC := (267, 1, [(2, 0, 0, 12), (0, -2147483648, 2147483647, 1)], none, [], 0, [106, 52012], [((2, 590, 51), 0, 85)], [], [((2, 590, 51), 0, 86)])
def ta_X12_writes_at_85 : List aL := [(0, ([(0, ((2, 0, 0, 12), (0, 0, 0), (0, 0), [])), (1, ((0, -2147483648, 2147483647, 1), (0, 0, 0), (0, 0), []))], [], [((2, 590, 51), 0, 85)]), 0, [])]
def bl_X12_writes_at_85 : List aB := [(0, vb_X12_writes_0, none)]
def cz_X12_writes_at_85 : List (Nat × aC) := []
theorem ck_X12_writes_at_85 : csOK cz_X12_writes_at_85 := trivial
theorem cv_X12_writes_at_85 : blOK kd_X12_writes bl_X12_writes_at_85 := ⟨ve_X12_writes_0, trivial⟩
theorem ch_X12_writes_at_85 : amchk ta_X12_writes_at_85 bl_X12_writes_at_85 cz_X12_writes_at_85 cc_X12_writes_at_85 = true := by decide +kernel
theorem ct_X12_writes_at_85 : CtOK cc_X12_writes_at_85 := am_ok' (T := ta_X12_writes_at_85) (B := bl_X12_writes_at_85) (cs := cz_X12_writes_at_85) vm_X12_writes cv_X12_writes_at_85 (by decide +kernel) ch_X12_writes_at_85 ck_X12_writes_at_85
def cc_X12_writes_at_86 : aC := (267, 1, [(2, 0, 0, 12), (0, -2147483648, 2147483647, 1)], none, [], 0, [106, 52012], [((2, 590, 51), 0, 86)], [], [((2, 590, 51), 0, 87)])
def ta_X12_writes_at_86 : List aL := [(0, ([(0, ((2, 0, 0, 12), (0, 0, 0), (0, 0), [])), (1, ((0, -2147483648, 2147483647, 1), (0, 0, 0), (0, 0), []))], [], [((2, 590, 51), 0, 86)]), 0, [])]
def bl_X12_writes_at_86 : List aB := [(0, vb_X12_writes_0, none)]
def cz_X12_writes_at_86 : List (Nat × aC) := []
theorem ck_X12_writes_at_86 : csOK cz_X12_writes_at_86 := trivial
theorem cv_X12_writes_at_86 : blOK kd_X12_writes bl_X12_writes_at_86 := ⟨ve_X12_writes_0, trivial⟩
theorem ch_X12_writes_at_86 : amchk ta_X12_writes_at_86 bl_X12_writes_at_86 cz_X12_writes_at_86 cc_X12_writes_at_86 = true := by decide +kernel
theorem ct_X12_writes_at_86 : CtOK cc_X12_writes_at_86 := am_ok' (T := ta_X12_writes_at_86) (B := bl_X12_writes_at_86) (cs := cz_X12_writes_at_86) vm_X12_writes cv_X12_writes_at_86 (by decide +kernel) ch_X12_writes_at_86 ck_X12_writes_at_86
def cc_X12_writes_at_87 : aC := (267, 1, [(2, 0, 0, 12), (0, -2147483648, 2147483647, 1)], none, [], 0, [106, 52012], [((2, 590, 51), 0, 87)], [], [((2, 590, 51), 0, 88)])
def ta_X12_writes_at_87 : List aL := [(0, ([(0, ((2, 0, 0, 12), (0, 0, 0), (0, 0), [])), (1, ((0, -2147483648, 2147483647, 1), (0, 0, 0), (0, 0), []))], [], [((2, 590, 51), 0, 87)]), 0, [])]
def bl_X12_writes_at_87 : List aB := [(0, vb_X12_writes_0, none)]
def cz_X12_writes_at_87 : List (Nat × aC) := []
theorem ck_X12_writes_at_87 : csOK cz_X12_writes_at_87 := trivial
theorem cv_X12_writes_at_87 : blOK kd_X12_writes bl_X12_writes_at_87 := ⟨ve_X12_writes_0, trivial⟩
theorem ch_X12_writes_at_87 : amchk ta_X12_writes_at_87 bl_X12_writes_at_87 cz_X12_writes_at_87 cc_X12_writes_at_87 = true := by decide +kernel
theorem ct_X12_writes_at_87 : CtOK cc_X12_writes_at_87 := am_ok' (T := ta_X12_writes_at_87) (B := bl_X12_writes_at_87) (cs := cz_X12_writes_at_87) vm_X12_writes cv_X12_writes_at_87 (by decide +kernel) ch_X12_writes_at_87 ck_X12_writes_at_87
def cc_X12_writes_at_88 : aC := (267, 1, [(2, 0, 0, 12), (0, -2147483648, 2147483647, 1)], none, [], 0, [106, 52012], [((2, 590, 51), 0, 88)], [], [((2, 590, 51), 0, 89)])
def ta_X12_writes_at_88 : List aL := [(0, ([(0, ((2, 0, 0, 12), (0, 0, 0), (0, 0), [])), (1, ((0, -2147483648, 2147483647, 1), (0, 0, 0), (0, 0), []))], [], [((2, 590, 51), 0, 88)]), 0, [])]
def bl_X12_writes_at_88 : List aB := [(0, vb_X12_writes_0, none)]
def cz_X12_writes_at_88 : List (Nat × aC) := []
theorem ck_X12_writes_at_88 : csOK cz_X12_writes_at_88 := trivial
theorem cv_X12_writes_at_88 : blOK kd_X12_writes bl_X12_writes_at_88 := ⟨ve_X12_writes_0, trivial⟩
theorem ch_X12_writes_at_88 : amchk ta_X12_writes_at_88 bl_X12_writes_at_88 cz_X12_writes_at_88 cc_X12_writes_at_88 = true := by decide +kernel
theorem ct_X12_writes_at_88 : CtOK cc_X12_writes_at_88 := am_ok' (T := ta_X12_writes_at_88) (B := bl_X12_writes_at_88) (cs := cz_X12_writes_at_88) vm_X12_writes cv_X12_writes_at_88 (by decide +kernel) ch_X12_writes_at_88 ck_X12_writes_at_88
def cc_X12_writes_at_89 : aC := (267, 1, [(2, 0, 0, 12), (0, 58, 58, 0)], none, [], 0, [106, 52012], [((2, 590, 51), 0, 89)], [], [((2, 590, 51), 0, 90)])
def ta_X12_writes_at_89 : List aL := [(0, ([(0, ((2, 0, 0, 12), (0, 0, 0), (0, 0), [])), (1, ((0, 58, 58, 0), (0, 0, 0), (0, 0), []))], [], [((2, 590, 51), 0, 89)]), 0, [])]
def bl_X12_writes_at_89 : List aB := [(0, vb_X12_writes_0, none)]
def cz_X12_writes_at_89 : List (Nat × aC) := []
theorem ck_X12_writes_at_89 : csOK cz_X12_writes_at_89 := trivial
theorem cv_X12_writes_at_89 : blOK kd_X12_writes bl_X12_writes_at_89 := ⟨ve_X12_writes_0, trivial⟩
theorem ch_X12_writes_at_89 : amchk ta_X12_writes_at_89 bl_X12_writes_at_89 cz_X12_writes_at_89 cc_X12_writes_at_89 = true := by decide +kernel
theorem ct_X12_writes_at_89 : CtOK cc_X12_writes_at_89 := am_ok' (T := ta_X12_writes_at_89) (B := bl_X12_writes_at_89) (cs := cz_X12_writes_at_89) vm_X12_writes cv_X12_writes_at_89 (by decide +kernel) ch_X12_writes_at_89 ck_X12_writes_at_89
def cc_X12_writes_at_9 : aC := (267, 1, [(2, 0, 0, 12), (0, 58, 58, 0)], none, [], 0, [106, 52012], [((2, 590, 51), 0, 9)], [], [((2, 590, 51), 0, 10)])
def ta_X12_writes_at_9 : List aL := [(0, ([(0, ((2, 0, 0, 12), (0, 0, 0), (0, 0), [])), (1, ((0, 58, 58, 0), (0, 0, 0), (0, 0), []))], [], [((2, 590, 51), 0, 9)]), 0, [])]
def bl_X12_writes_at_9 : List aB := [(0, vb_X12_writes_0, none)]
def cz_X12_writes_at_9 : List (Nat × aC) := []
theorem ck_X12_writes_at_9 : csOK cz_X12_writes_at_9 := trivial
theorem cv_X12_writes_at_9 : blOK kd_X12_writes bl_X12_writes_at_9 := ⟨ve_X12_writes_0, trivial⟩
theorem ch_X12_writes_at_9 : amchk ta_X12_writes_at_9 bl_X12_writes_at_9 cz_X12_writes_at_9 cc_X12_writes_at_9 = true := by decide +kernel
theorem ct_X12_writes_at_9 : CtOK cc_X12_writes_at_9 := am_ok' (T := ta_X12_writes_at_9) (B := bl_X12_writes_at_9) (cs := cz_X12_writes_at_9) vm_X12_writes cv_X12_writes_at_9 (by decide +kernel) ch_X12_writes_at_9 ck_X12_writes_at_9
def cc_X12_writes_at_90 : aC := (267, 1, [(2, 0, 0, 12), (0, 48, 57, 1)], none, [], 0, [106, 52012], [((2, 590, 51), 0, 90)], [], [((2, 590, 51), 0, 91)])
def ta_X12_writes_at_90 : List aL := [(0, ([(0, ((2, 0, 0, 12), (0, 0, 0), (0, 0), [])), (1, ((0, 48, 57, 1), (0, 0, 0), (0, 0), []))], [], [((2, 590, 51), 0, 90)]), 0, [])]
def bl_X12_writes_at_90 : List aB := [(0, vb_X12_writes_0, none)]
def cz_X12_writes_at_90 : List (Nat × aC) := []
theorem ck_X12_writes_at_90 : csOK cz_X12_writes_at_90 := trivial
theorem cv_X12_writes_at_90 : blOK kd_X12_writes bl_X12_writes_at_90 := ⟨ve_X12_writes_0, trivial⟩
theorem ch_X12_writes_at_90 : amchk ta_X12_writes_at_90 bl_X12_writes_at_90 cz_X12_writes_at_90 cc_X12_writes_at_90 = true := by decide +kernel
theorem ct_X12_writes_at_90 : CtOK cc_X12_writes_at_90 := am_ok' (T := ta_X12_writes_at_90) (B := bl_X12_writes_at_90) (cs := cz_X12_writes_at_90) vm_X12_writes cv_X12_writes_at_90 (by decide +kernel) ch_X12_writes_at_90 ck_X12_writes_at_90
def cc_X12_writes_at_91 : aC := (267, 1, [(2, 0, 0, 12), (0, 48, 57, 1)], none, [], 0, [106, 52012], [((2, 590, 51), 0, 91)], [], [((2, 590, 51), 0, 92)])
def ta_X12_writes_at_91 : List aL := [(0, ([(0, ((2, 0, 0, 12), (0, 0, 0), (0, 0), [])), (1, ((0, 48, 57, 1), (0, 0, 0), (0, 0), []))], [], [((2, 590, 51), 0, 91)]), 0, [])]
def bl_X12_writes_at_91 : List aB := [(0, vb_X12_writes_0, none)]
def cz_X12_writes_at_91 : List (Nat × aC) := []
theorem ck_X12_writes_at_91 : csOK cz_X12_writes_at_91 := trivial
theorem cv_X12_writes_at_91 : blOK kd_X12_writes bl_X12_writes_at_91 := ⟨ve_X12_writes_0, trivial⟩
theorem ch_X12_writes_at_91 : amchk ta_X12_writes_at_91 bl_X12_writes_at_91 cz_X12_writes_at_91 cc_X12_writes_at_91 = true := by decide +kernel
theorem ct_X12_writes_at_91 : CtOK cc_X12_writes_at_91 := am_ok' (T := ta_X12_writes_at_91) (B := bl_X12_writes_at_91) (cs := cz_X12_writes_at_91) vm_X12_writes cv_X12_writes_at_91 (by decide +kernel) ch_X12_writes_at_91 ck_X12_writes_at_91
def cc_X12_writes_at_92 : aC := (267, 1, [(2, 0, 0, 12), (0, 48, 57, 1)], none, [], 0, [106, 52012], [((2, 590, 51), 0, 92)], [], [((2, 590, 51), 0, 93)])
def ta_X12_writes_at_92 : List aL := [(0, ([(0, ((2, 0, 0, 12), (0, 0, 0), (0, 0), [])), (1, ((0, 48, 57, 1), (0, 0, 0), (0, 0), []))], [], [((2, 590, 51), 0, 92)]), 0, [])]
def bl_X12_writes_at_92 : List aB := [(0, vb_X12_writes_0, none)]
def cz_X12_writes_at_92 : List (Nat × aC) := []
theorem ck_X12_writes_at_92 : csOK cz_X12_writes_at_92 := trivial
theorem cv_X12_writes_at_92 : blOK kd_X12_writes bl_X12_writes_at_92 := ⟨ve_X12_writes_0, trivial⟩
theorem ch_X12_writes_at_92 : amchk ta_X12_writes_at_92 bl_X12_writes_at_92 cz_X12_writes_at_92 cc_X12_writes_at_92 = true := by decide +kernel
theorem ct_X12_writes_at_92 : CtOK cc_X12_writes_at_92 := am_ok' (T := ta_X12_writes_at_92) (B := bl_X12_writes_at_92) (cs := cz_X12_writes_at_92) vm_X12_writes cv_X12_writes_at_92 (by decide +kernel) ch_X12_writes_at_92 ck_X12_writes_at_92
def cc_X12_writes_at_94 : aC := (267, 1, [(2, 0, 0, 12), (0, 42, 42, 0)], none, [], 0, [106, 52012], [((2, 590, 51), 0, 94)], [], [((2, 590, 51), 0, 95)])
def ta_X12_writes_at_94 : List aL := [(0, ([(0, ((2, 0, 0, 12), (0, 0, 0), (0, 0), [])), (1, ((0, 42, 42, 0), (0, 0, 0), (0, 0), []))], [], [((2, 590, 51), 0, 94)]), 0, [])]
def bl_X12_writes_at_94 : List aB := [(0, vb_X12_writes_0, none)]
def cz_X12_writes_at_94 : List (Nat × aC) := []
theorem ck_X12_writes_at_94 : csOK cz_X12_writes_at_94 := trivial
theorem cv_X12_writes_at_94 : blOK kd_X12_writes bl_X12_writes_at_94 := ⟨ve_X12_writes_0, trivial⟩
theorem ch_X12_writes_at_94 : amchk ta_X12_writes_at_94 bl_X12_writes_at_94 cz_X12_writes_at_94 cc_X12_writes_at_94 = true := by decide +kernel
theorem ct_X12_writes_at_94 : CtOK cc_X12_writes_at_94 := am_ok' (T := ta_X12_writes_at_94) (B := bl_X12_writes_at_94) (cs := cz_X12_writes_at_94) vm_X12_writes cv_X12_writes_at_94 (by decide +kernel) ch_X12_writes_at_94 ck_X12_writes_at_94
def cc_X12_writes_at_95 : aC := (267, 1, [(2, 0, 0, 12), (0, 48, 57, 1)], none, [], 0, [106, 52012], [((2, 590, 51), 0, 95)], [], [((2, 590, 51), 0, 96)])
def ta_X12_writes_at_95 : List aL := [(0, ([(0, ((2, 0, 0, 12), (0, 0, 0), (0, 0), [])), (1, ((0, 48, 57, 1), (0, 0, 0), (0, 0), []))], [], [((2, 590, 51), 0, 95)]), 0, [])]
def bl_X12_writes_at_95 : List aB := [(0, vb_X12_writes_0, none)]
def cz_X12_writes_at_95 : List (Nat × aC) := []
theorem ck_X12_writes_at_95 : csOK cz_X12_writes_at_95 := trivial
theorem cv_X12_writes_at_95 : blOK kd_X12_writes bl_X12_writes_at_95 := ⟨ve_X12_writes_0, trivial⟩
theorem ch_X12_writes_at_95 : amchk ta_X12_writes_at_95 bl_X12_writes_at_95 cz_X12_writes_at_95 cc_X12_writes_at_95 = true := by decide +kernel
theorem ct_X12_writes_at_95 : CtOK cc_X12_writes_at_95 := am_ok' (T := ta_X12_writes_at_95) (B := bl_X12_writes_at_95) (cs := cz_X12_writes_at_95) vm_X12_writes cv_X12_writes_at_95 (by decide +kernel) ch_X12_writes_at_95 ck_X12_writes_at_95
def cc_X12_writes_at_96 : aC := (267, 1, [(2, 0, 0, 12), (0, 48, 57, 1)], none, [], 0, [106, 52012], [((2, 590, 51), 0, 96)], [], [((2, 590, 51), 0, 97)])
def ta_X12_writes_at_96 : List aL := [(0, ([(0, ((2, 0, 0, 12), (0, 0, 0), (0, 0), [])), (1, ((0, 48, 57, 1), (0, 0, 0), (0, 0), []))], [], [((2, 590, 51), 0, 96)]), 0, [])]
def bl_X12_writes_at_96 : List aB := [(0, vb_X12_writes_0, none)]
def cz_X12_writes_at_96 : List (Nat × aC) := []
theorem ck_X12_writes_at_96 : csOK cz_X12_writes_at_96 := trivial
theorem cv_X12_writes_at_96 : blOK kd_X12_writes bl_X12_writes_at_96 := ⟨ve_X12_writes_0, trivial⟩
theorem ch_X12_writes_at_96 : amchk ta_X12_writes_at_96 bl_X12_writes_at_96 cz_X12_writes_at_96 cc_X12_writes_at_96 = true := by decide +kernel
theorem ct_X12_writes_at_96 : CtOK cc_X12_writes_at_96 := am_ok' (T := ta_X12_writes_at_96) (B := bl_X12_writes_at_96) (cs := cz_X12_writes_at_96) vm_X12_writes cv_X12_writes_at_96 (by decide +kernel) ch_X12_writes_at_96 ck_X12_writes_at_96
def cc_X12_writes_at_97 : aC := (267, 1, [(2, 0, 0, 12), (0, 48, 57, 1)], none, [], 0, [106, 52012], [((2, 590, 51), 0, 97)], [], [((2, 590, 51), 0, 98)])
def ta_X12_writes_at_97 : List aL := [(0, ([(0, ((2, 0, 0, 12), (0, 0, 0), (0, 0), [])), (1, ((0, 48, 57, 1), (0, 0, 0), (0, 0), []))], [], [((2, 590, 51), 0, 97)]), 0, [])]
def bl_X12_writes_at_97 : List aB := [(0, vb_X12_writes_0, none)]
def cz_X12_writes_at_97 : List (Nat × aC) := []
theorem ck_X12_writes_at_97 : csOK cz_X12_writes_at_97 := trivial
theorem cv_X12_writes_at_97 : blOK kd_X12_writes bl_X12_writes_at_97 := ⟨ve_X12_writes_0, trivial⟩
theorem ch_X12_writes_at_97 : amchk ta_X12_writes_at_97 bl_X12_writes_at_97 cz_X12_writes_at_97 cc_X12_writes_at_97 = true := by decide +kernel
theorem ct_X12_writes_at_97 : CtOK cc_X12_writes_at_97 := am_ok' (T := ta_X12_writes_at_97) (B := bl_X12_writes_at_97) (cs := cz_X12_writes_at_97) vm_X12_writes cv_X12_writes_at_97 (by decide +kernel) ch_X12_writes_at_97 ck_X12_writes_at_97
def cc_X12_writes_at_98 : aC := (267, 1, [(2, 0, 0, 12), (0, 48, 57, 1)], none, [], 0, [106, 52012], [((2, 590, 51), 0, 98)], [], [((2, 590, 51), 0, 99)])
def ta_X12_writes_at_98 : List aL := [(0, ([(0, ((2, 0, 0, 12), (0, 0, 0), (0, 0), [])), (1, ((0, 48, 57, 1), (0, 0, 0), (0, 0), []))], [], [((2, 590, 51), 0, 98)]), 0, [])]
def bl_X12_writes_at_98 : List aB := [(0, vb_X12_writes_0, none)]
def cz_X12_writes_at_98 : List (Nat × aC) := []
theorem ck_X12_writes_at_98 : csOK cz_X12_writes_at_98 := trivial
theorem cv_X12_writes_at_98 : blOK kd_X12_writes bl_X12_writes_at_98 := ⟨ve_X12_writes_0, trivial⟩
theorem ch_X12_writes_at_98 : amchk ta_X12_writes_at_98 bl_X12_writes_at_98 cz_X12_writes_at_98 cc_X12_writes_at_98 = true := by decide +kernel
theorem ct_X12_writes_at_98 : CtOK cc_X12_writes_at_98 := am_ok' (T := ta_X12_writes_at_98) (B := bl_X12_writes_at_98) (cs := cz_X12_writes_at_98) vm_X12_writes cv_X12_writes_at_98 (by decide +kernel) ch_X12_writes_at_98 ck_X12_writes_at_98
def cc_X12_writes_at_99 : aC := (267, 1, [(2, 0, 0, 12), (0, 59, 59, 0)], none, [], 0, [106, 52012], [((2, 590, 51), 0, 99)], [], [((2, 590, 51), 0, 100)])
def ta_X12_writes_at_99 : List aL := [(0, ([(0, ((2, 0, 0, 12), (0, 0, 0), (0, 0), [])), (1, ((0, 59, 59, 0), (0, 0, 0), (0, 0), []))], [], [((2, 590, 51), 0, 99)]), 0, [])]
def bl_X12_writes_at_99 : List aB := [(0, vb_X12_writes_0, none)]
def cz_X12_writes_at_99 : List (Nat × aC) := []
theorem ck_X12_writes_at_99 : csOK cz_X12_writes_at_99 := trivial
theorem cv_X12_writes_at_99 : blOK kd_X12_writes bl_X12_writes_at_99 := ⟨ve_X12_writes_0, trivial⟩
theorem ch_X12_writes_at_99 : amchk ta_X12_writes_at_99 bl_X12_writes_at_99 cz_X12_writes_at_99 cc_X12_writes_at_99 = true := by decide +kernel
theorem ct_X12_writes_at_99 : CtOK cc_X12_writes_at_99 := am_ok' (T := ta_X12_writes_at_99) (B := bl_X12_writes_at_99) (cs := cz_X12_writes_at_99) vm_X12_writes cv_X12_writes_at_99 (by decide +kernel) ch_X12_writes_at_99 ck_X12_writes_at_99
def cc_X12_octet : aC := (270, 2, [(2, 0, 0, 12), (0, -2147483648, 2147483647, 1)], some (0, -2147483648, 2147483647, 1), [], 0, [], [], [], [])
def ta_X12_octet : List aL := [(0, ([(0, ((2, 0, 0, 12), (0, 0, 0), (0, 0), [])), (1, ((0, -2147483648, 2147483647, 1), (0, 0, 0), (0, 0), []))], [], []), 2, []),
  (23, ([(0, ((2, 0, 0, 12), (0, 0, 0), (0, 0), [])), (1, ((0, -2147483648, 2147483647, 1), (0, 0, 0), (0, 0), []))], [], []), 1, []),
  (24, ([(0, ((2, 0, 0, 12), (0, 0, 0), (0, 0), [])), (1, ((0, -2147483648, 2147483647, 1), (0, 0, 0), (0, 0), []))], [((0, -2147483648, 2147483647, 1), (0, 0, 0), (0, 0), [])], []), 0, [])]
def bl_X12_octet : List aB := [(0, vb_X12_octet_0, some 23), (23, vb_X12_octet_23, some 24), (24, vb_X12_octet_24, none)]
def cz_X12_octet : List (Nat × aC) := [(8, (cc_X12_isIn (0) (0) 0 (-1) (239) 1))]
theorem ck_X12_octet : csOK cz_X12_octet := ⟨(ct_X12_isIn (0) (0) 0 (-1) (239) 1), trivial⟩
theorem cv_X12_octet : blOK kd_X12_octet bl_X12_octet := ⟨ve_X12_octet_0, ve_X12_octet_23, ve_X12_octet_24, trivial⟩
theorem ch_X12_octet : amchk ta_X12_octet bl_X12_octet cz_X12_octet cc_X12_octet = true := by decide +kernel
theorem ct_X12_octet : CtOK cc_X12_octet := am_ok' (T := ta_X12_octet) (B := bl_X12_octet) (cs := cz_X12_octet) vm_X12_octet cv_X12_octet (by decide +kernel) ch_X12_octet ck_X12_octet
def cc_X4_isSumSign : aC := (48, 1, [(0, -2147483648, 2147483647, 1)], some (0, 0, 1, 1), [(1, 1, 0, 43, 45)], 0, [], [], [], [])
theorem ct_X4_isSumSign : CtOK cc_X4_isSumSign := by
  intro G us g H as hg hW ha hp
  obtain ⟨p0, rfl, A0⟩ := aargs1 ha
  obtain ⟨c, rfl, c1, c2, _⟩ := arg_int A0
  refine Ca_use (ca_X4_isSumSign c H) (Nat.le_refl _) ?_
  rintro r H' ⟨rfl, rfl⟩
  refine fin_pure hW b01i (fact1 (j := 0) (v := c) rfl (fun q _ => ?_))
  have := if_ne (fun e => by rw [e] at q; omega); omega
def cc_X4_isProductSign : aC := (49, 1, [(0, -2147483648, 2147483647, 1)], some (0, 0, 1, 1), [(1, 1, 0, 42, 62)], 0, [], [], [], [])
theorem ct_X4_isProductSign : CtOK cc_X4_isProductSign := by
  intro G us g H as hg hW ha hp
  obtain ⟨p0, rfl, A0⟩ := aargs1 ha
  obtain ⟨c, rfl, c1, c2, _⟩ := arg_int A0
  refine Ca_use (ca_X4_isProductSign c H) (Nat.le_refl _) ?_
  rintro r H' ⟨rfl, rfl⟩
  refine fin_pure hW b01i (fact1 (j := 0) (v := c) rfl (fun q _ => ?_))
  have := if_ne (fun e => by rw [e] at q; omega); omega
def cc_X4_add : aC := (50, 1, [(2, 0, 0, 4), (0, -2147483648, 2147483647, 1)], none, [], 0, [4, 47], [], [], [])
theorem ct_X4_add : CtOK cc_X4_add := by
  intro G us g H as hg hW ha hp
  obtain ⟨p0, p1, rfl, A0, A1⟩ := aargs2 ha
  obtain ⟨c, rfl, hc, ht⟩ := arg_ref A0
  obtain ⟨x, rfl, x1, x2, _⟩ := arg_int A1
  have k := tau_ok hc
  rw [ht] at k
  have k1 : (zSh c).1 = 4 := k.1
  have k2 : (zSh c).2.1 = 4 := k.2.1
  have w0 := (hW c 0 hc (by rw [k2]; omega)).1
  have w2 := (hW c 2 hc (by rw [k2]; omega)).1
  rw [ht] at w0 w2
  have z2 : zrt c 2 = none := zrt_num hc (by rw [k1]; omega) (by rw [k1]; decide)
  have g2 : gv H c ((2 : Nat) : Int) = H c 2 := gv_none (by rw [Int.toNat_natCast]; exact z2)
  obtain ⟨d, hd, hd1, hdt⟩ := arg_ref (p := (2, gv H c ((0 : Nat) : Int))) w0
  have hd : gv H c ((0 : Nat) : Int) = d := congrArg Prod.snd hd
  have kd := tau_ok hd1
  rw [hdt] at kd
  have k3 : (zSh d).1 = 16 := kd.1
  have k4 : (zSh d).2.1 = 60 := kd.2.1
  have w2 : aval (0, 0, 60, 1) (0, gv H c ((2 : Nat) : Int)) := w2
  rw [g2] at w2
  have r0 : 0 ≤ H c 2 := (w2.2.1 rfl).1
  have r1 : H c 2 ≤ 60 := (w2.2.1 rfl).2.1
  have zd : ∀ i, zrt d i = none := fun i => zrt_row hd1 (by rw [k3]; omega)
  have g3 : gv (pup H d (H c 2) x) c 2 = H c 2 := by
    rw [gv_pup (by rw [Int.toNat_natCast]; exact zd _), if_neg, ← g2]
    · rfl
    · rintro ⟨e, _⟩
      have e : c = d := by omega
      rw [e, hdt] at ht
      omega
  refine Ca_use (ca_X4_add c d x H (by omega) (by omega) (by rw [Int.toNat_natCast]; exact k1) (by rw [Int.toNat_natCast]; exact k2) (by omega) (by omega) (by rw [Int.toNat_natCast]; exact k3) (by rw [Int.toNat_natCast]; exact k4) (by rw [Int.toNat_natCast]; exact z2) hd g2 g3 r0 r1) (Nat.le_refl _) ?_
  rintro r H' ⟨rfl, (rfl | ⟨hlt, rfl⟩)⟩
  · exact fin_plain hW trivial (frm_refl _ _)
  · have e : ((H c 2).toNat : Int) = H c 2 := by omega
    have hW1 : WT 0 g (pup H d (H c 2) x) := by
      rw [← e]
      refine WT_up hW (zd _) ?_ ?_
      · rw [hdt, fty_row (by omega)]
        exact vin x1 x2
      · rw [hdt, fz_row (by omega)]
        rfl
    have hW2 : WT 0 g (pup (pup H d (H c 2) x) c 2 (H c 2 + 1)) := WT_up (c := c) (i := 2) hW1 z2 (by rw [ht]; exact vin (by omega) (by omega)) (by rw [ht]; rfl)
    exact fin_plain hW2 trivial (frm_up (c := c) (i := 2) (frm_up (frm_refl _ _) (zd _) (by rw [hdt]; rfl)) z2 (by rw [ht]; rfl))
def cc_X4_join : aC := (53, 1, [(0, -2147483648, 2147483647, 1), (0, -2147483648, 2147483647, 1), (0, -2147483648, 2147483647, 1)], some (0, -2147483648, 2147483647, 1), [], 0, [], [], [], [])
theorem ct_X4_join : CtOK cc_X4_join := by
  intro G us g H as hg hW ha hp
  obtain ⟨p0, p1, p2, rfl, A0, A1, A2⟩ := aargs3 ha
  obtain ⟨a, rfl, a1, a2, _⟩ := arg_int A0
  obtain ⟨b, rfl, b1, b2, _⟩ := arg_int A1
  obtain ⟨c, rfl, c1, c2, _⟩ := arg_int A2
  refine Ca_use (ca_X4_join a b c H ⟨b1, by omega⟩ ⟨c1, by omega⟩) (Nat.le_refl _) ?_
  rintro r H' ⟨rfl, x, rfl, hx⟩
  exact fin_plain hW (aval_top hx) (frm_refl _ _)
def cc_X8_codeOf : aC := (73, 2, [(0, -2147483648, 2147483647, 1)], some (0, 0, 36, 1), [(1, 2147483647, 0, 48, 90)], 0, [], [], [], [])
theorem ct_X8_codeOf : CtOK cc_X8_codeOf := by
  intro G us g H as hg hW ha hp
  obtain ⟨p0, rfl, A0⟩ := aargs1 ha
  obtain ⟨c, rfl, c1, c2, _⟩ := arg_int A0
  refine Ca_use (ca_X8_codeOf c H) (Nat.le_refl _) ?_
  rintro r H' ⟨rfl, x, rfl, hx⟩
  exact fin_pure hW (vin (by omega) (by omega)) (fact1 (j := 0) (v := c) rfl (fun q _ => by omega))
def cc_X8_sizeOf : aC := (76, 1, [(1, 1, 0, 0)], some (0, 0, 8, 1), [], 0, [], [], [], [])
theorem MK_size {x : Int} (h : MK x) : 0 ≤ x / 281474976710656 ∧ x / 281474976710656 ≤ 8 := by
  have := h.1
  have := h.2.1
  omega
theorem sz_ok {x : Int} (h : MK x) : qli (qlushr x 48) = x / 281474976710656 := by
  have h1 := h.1
  have h2 := h.2.1
  have h3 := MK_size h
  have e : qlushr x 48 = x / 281474976710656 := qlushr_ok (m := 48) h1 (by omega) (by omega)
  rw [e]
  exact qli_ok h3.1 (by omega)
theorem ct_X8_sizeOf : CtOK cc_X8_sizeOf := by
  intro G us g H as hg hW ha hp
  obtain ⟨p0, rfl, A0⟩ := aargs1 ha
  obtain ⟨x, rfl, xM⟩ := arg_long A0
  have hM : MK x := xM.resolve_left (by decide)
  refine Ca_use (ca_X8_sizeOf x H) (Nat.le_refl _) ?_
  rintro r H' ⟨rfl, rfl⟩
  rw [sz_ok hM]
  exact fin_plain hW (vin (MK_size hM).1 (MK_size hM).2) (frm_refl _ _)
def cc_X8_signAt : aC := (77, 1, [(1, 1, 0, 0), (0, 0, 7, 1)], some (0, 0, 37, 1), [], 0, [], [], [], [])
theorem sg_ok {x i : Int} (h : MK x) (h0 : 0 ≤ i) (h1 : i ≤ 7) : q2 (· &&& ·) (qli (qlushr x (6 * i))) 63 = (x / 64 ^ i.toNat) % 64 := by
  obtain ⟨n, rfl⟩ := Int.eq_ofNat_of_zero_le h0
  have h2 := h.1
  have h3 := h.2.1
  have e : qlushr x (6 * (n : Int)) = x / 2 ^ (6 * n) := by
    have e1 : (6 * (n : Int)) = ((6 * n : Nat) : Int) := by omega
    rw [e1]
    exact qlushr_ok h2 (by omega) (by omega)
  have e2 : (2 : Int) ^ (6 * n) = 64 ^ n := by rw [Int.pow_mul]; rfl
  rw [e, e2, Int.toNat_natCast]
  have h4 : 0 ≤ x / 64 ^ n := Int.ediv_nonneg h2 (Int.pow_nonneg (by omega))
  have h5 : x / 64 ^ n ≤ x := Int.ediv_le_self _ h2
  exact qand63 h4 (by omega)
theorem MK_sg {x i : Int} (h : MK x) (h0 : 0 ≤ i) (h1 : i ≤ 7) : 0 ≤ (x / 64 ^ i.toNat) % 64 ∧ (x / 64 ^ i.toNat) % 64 ≤ 37 := ⟨Int.emod_nonneg _ (by omega), h.2.2 i.toNat (by omega)⟩
theorem ct_X8_signAt : CtOK cc_X8_signAt := by
  intro G us g H as hg hW ha hp
  obtain ⟨p0, p1, rfl, A0, A1⟩ := aargs2 ha
  obtain ⟨x, rfl, xM⟩ := arg_long A0
  obtain ⟨i, rfl, i1, i2, _⟩ := arg_int A1
  have hM : MK x := xM.resolve_left (by decide)
  refine Ca_use (ca_X8_signAt x i H i1 i2) (Nat.le_refl _) ?_
  rintro r H' ⟨rfl, rfl⟩
  rw [sg_ok hM i1 i2]
  exact fin_plain hW (vin (MK_sg hM i1 i2).1 (MK_sg hM i1 i2).2) (frm_refl _ _)
def cc_X10_next : aC := (95, 1, [(2, 0, 0, 10)], some (0, -2147483648, 2147483647, 1), [], 0, [], [], [(0, 2147483647, ((2, 213, 2), 0, 599))], [])
theorem ct_X10_next : CtOK cc_X10_next := by
  intro G us g H as hg hW ha hp
  obtain ⟨p0, rfl, A0⟩ := aargs1 ha
  have e0 := arg_sing (n := 213) A0 rfl
  subst e0
  have t1 := rf_213_1 hW
  have t2 := rf_213_2 hW
  have t3 := rf_213_3 hW
  refine Ca_in0 (fun hI => ?_) ⟨_, vm_X10_next, rfl, by decide⟩
  refine Ca_use (ca_X10_next H t2.1 t2.2 t1.2) (Nat.le_refl _) ?_
  rintro r H' ⟨rfl, rfl⟩
  have hz : zIn (nx H) := by
    unfold nx
    split
    · have := ra_214 hW (i := H 213 2) (by omega) (by omega)
      exact ⟨by omega, by omega⟩
    · constructor <;> omega
  refine fin_hf hW (aval_top hz) (frm_refl _ _) ?_
  intro x e h1 h2
  cases e
  have h1 : 0 ≤ nx H := h1
  have hb := nx_b H
  exact fokf rfl (by show 0 ≤ H 213 2; omega) (by show H 213 2 ≤ 599; omega)
def cc_X10_isDigit : aC := (98, 1, [(0, -2147483648, 2147483647, 1)], some (0, 0, 1, 1), [(1, 1, 0, 48, 57)], 0, [], [], [], [])
theorem ct_X10_isDigit : CtOK cc_X10_isDigit := by
  intro G us g H as hg hW ha hp
  obtain ⟨p0, rfl, A0⟩ := aargs1 ha
  obtain ⟨c, rfl, c1, c2, _⟩ := arg_int A0
  refine Ca_use (ca_X10_isDigit c H) (Nat.le_refl _) ?_
  rintro r H' ⟨rfl, rfl⟩
  refine fin_pure hW b01i (fact1 (j := 0) (v := c) rfl (fun q _ => ?_))
  have := if_ne (fun e => by rw [e] at q; omega); omega
def cc_X11_isBill : aC := (146, 2, [(2, 0, 0, 11), (0, -2147483648, 2147483647, 1)], some (0, 0, 1, 1), [(1, 1, 1, 0, 11)], 0, [], [], [], [])
theorem ct_X11_isBill : CtOK cc_X11_isBill := by
  intro G us g H as hg hW ha hp
  obtain ⟨p0, p1, rfl, A0, A1⟩ := aargs2 ha
  have e0 := arg_sing (n := 0) A0 rfl
  subst e0
  obtain ⟨b, rfl, b1, b2, _⟩ := arg_int A1
  have h3 : 0 ≤ H 1 2 ∧ H 1 2 ≤ 12 := rf_1_2 hW
  refine Ca_use (ca_X11_isBill b H h3.1 h3.2) (Nat.le_refl _) ?_
  rintro r H' ⟨rfl, rfl⟩
  refine fin_pure hW b01i (fact1 (j := 1) (v := b) rfl (fun q _ => ?_))
  have := if_ne (fun e => by rw [e] at q; omega); omega
def cc_X11_isLine : aC := (147, 2, [(2, 0, 0, 11), (0, -2147483648, 2147483647, 1)], some (0, 0, 1, 1), [(1, 1, 1, 0, 59)], 0, [], [], [], [])
theorem ct_X11_isLine : CtOK cc_X11_isLine := by
  intro G us g H as hg hW ha hp
  obtain ⟨p0, p1, rfl, A0, A1⟩ := aargs2 ha
  have e0 := arg_sing (n := 0) A0 rfl
  subst e0
  obtain ⟨b, rfl, b1, b2, _⟩ := arg_int A1
  have h3 : 0 ≤ H 1 4 ∧ H 1 4 ≤ 60 := rf_1_4 hW
  refine Ca_use (ca_X11_isLine b H h3.1 h3.2) (Nat.le_refl _) ?_
  rintro r H' ⟨rfl, rfl⟩
  refine fin_pure hW b01i (fact1 (j := 1) (v := b) rfl (fun q _ => ?_))
  have := if_ne (fun e => by rw [e] at q; omega); omega
def cc_X11_isHold : aC := (148, 2, [(0, -2147483648, 2147483647, 1)], some (0, 0, 1, 1), [(1, 1, 0, 0, 4)], 0, [], [], [], [])
theorem ct_X11_isHold : CtOK cc_X11_isHold := by
  intro G us g H as hg hW ha hp
  obtain ⟨p0, rfl, A0⟩ := aargs1 ha
  obtain ⟨b, rfl, b1, b2, _⟩ := arg_int A0
  refine Ca_use (ca_X11_isHold b H) (Nat.le_refl _) ?_
  rintro r H' ⟨rfl, rfl⟩
  refine fin_pure hW b01i (fact1 (j := 0) (v := b) rfl (fun q _ => ?_))
  have := if_ne (fun e => by rw [e] at q; omega); omega
def cc_X12_here : aC := (163, 1, [(2, 0, 0, 12)], some (0, -1, 255, 1), [], 0, [], [], [(0, 255, ((2, 590, 5), 0, 599))], [])
theorem ct_X12_here : CtOK cc_X12_here := by
  intro G us g H as hg hW ha hp
  obtain ⟨p0, rfl, A0⟩ := aargs1 ha
  have e0 := arg_sing (n := 590) A0 rfl
  subst e0
  have t4 := rf_590_4 hW
  have t5 := rf_590_5 hW
  refine Ca_use (ca_X12_here H t5.1 t4.2) (Nat.le_refl _) ?_
  rintro r H' ⟨rfl, rfl, hx⟩
  refine fin_hf hW (vin (by omega) (by omega)) (frm_refl _ _) ?_
  intro x e h1 h2
  cases e
  have h1 : 0 ≤ hr H := h1
  exact fokf rfl (by show 0 ≤ H 590 5; omega) (by show H 590 5 ≤ 599; omega)
def cc_X12_isSame_0 : aC := (176, 1, [(2, 0, 0, 12), (0, 407, 1115, 12), (0, 408, 1116, 12), (0, 407, 1115, 12), (0, 408, 1116, 12)], some (0, 0, 1, 1), [], 0, [], [], [], [])
def cc_X12_isSame_1 : aC := (176, 1, [(2, 0, 0, 12), (0, 407, 1115, 12), (0, 408, 1116, 12), (0, 92, 378, 26), (0, 93, 379, 26)], some (0, 0, 1, 1), [], 0, [], [], [], [])
def cc_X12_isSame_2 : aC := (176, 1, [(2, 0, 0, 12), (0, 92, 378, 26), (0, 93, 379, 26), (0, 407, 1115, 12), (0, 408, 1116, 12)], some (0, 0, 1, 1), [], 0, [], [], [], [])
def cc_X12_isSame_3 : aC := (176, 1, [(2, 0, 0, 12), (0, 92, 378, 26), (0, 93, 379, 26), (0, 92, 378, 26), (0, 93, 379, 26)], some (0, 0, 1, 1), [], 0, [], [], [], [])
theorem is_len {a lo hi : Int} {s : Nat} {H : PH} {lv : Nat} {g : Nat → Nat → Int} (hW : WT lv g H) (hk : (decide (0 ≤ lo) && decide (hi ≤ 1123) && rng (fun i => vsub' (fty 32 i) (0, 0, 8, 1)) (0, lo, hi, s)) = true) (h1 : lo ≤ a) (h2 : a ≤ hi) (h3 : (s : Int) ∣ a - lo) : 0 ≤ H 591 a ∧ H 591 a ≤ 8 := by
  simp only [Bool.and_eq_true, decide_eq_true_iff] at hk
  obtain ⟨⟨k1, k2⟩, k3⟩ := hk
  have h4 := (rng_ok k3 (x := a) ⟨h1, h2, h3⟩).2
  have h5 := (hW 591 a.toNat (by decide) (by rw [sh_591']; omega)).1
  rw [show tau 591 = 32 from rfl] at h5
  have h6 := vsub'_ok h4 h5
  have e : ((a.toNat : Nat) : Int) = a := by omega
  have h7 := (h6.2.1 rfl)
  have e2 : gv H ((591 : Nat) : Int) ((a.toNat : Nat) : Int) = H 591 a := by
    rw [e]
    exact gv_none (zrt_row (c := 591) (by decide) (by decide +kernel))
  have h8 : (0 : Int) ≤ gv H ((591 : Nat) : Int) ((a.toNat : Nat) : Int) := h7.1
  have h9 : gv H ((591 : Nat) : Int) ((a.toNat : Nat) : Int) ≤ 8 := h7.2.1
  rw [e2] at h8 h9
  exact ⟨h8, h9⟩
theorem ct_X12_isSame_0 : CtOK cc_X12_isSame_0 := by
  intro G us g H as hg hW ha hp
  obtain ⟨p0, p1, p2, p3, p4, rfl, A0, A1, A2, A3, A4⟩ := aargs5 ha
  have e0 := arg_sing (n := 590) A0 rfl
  subst e0
  obtain ⟨a, rfl, q1, q2, q3⟩ := arg_int A1
  obtain ⟨b, rfl, b1, b2, _⟩ := arg_int A2
  obtain ⟨c, rfl, c1, c2, _⟩ := arg_int A3
  obtain ⟨d, rfl, d1, d2, _⟩ := arg_int A4
  have h3 := is_len (a := a) hW (by decide +kernel) q1 q2 q3
  refine Ca_use (ca_X12_isSame a b c d H (by omega) (by omega) (by omega) (by omega) h3.2) (Nat.le_refl _) ?_
  rintro r H' ⟨rfl, (rfl | rfl)⟩
  · exact fin_plain hW (b01 (Or.inl rfl)) (frm_refl _ _)
  · exact fin_plain hW (b01 (Or.inr rfl)) (frm_refl _ _)
theorem ct_X12_isSame_1 : CtOK cc_X12_isSame_1 := by
  intro G us g H as hg hW ha hp
  obtain ⟨p0, p1, p2, p3, p4, rfl, A0, A1, A2, A3, A4⟩ := aargs5 ha
  have e0 := arg_sing (n := 590) A0 rfl
  subst e0
  obtain ⟨a, rfl, q1, q2, q3⟩ := arg_int A1
  obtain ⟨b, rfl, b1, b2, _⟩ := arg_int A2
  obtain ⟨c, rfl, c1, c2, _⟩ := arg_int A3
  obtain ⟨d, rfl, d1, d2, _⟩ := arg_int A4
  have h3 := is_len (a := a) hW (by decide +kernel) q1 q2 q3
  refine Ca_use (ca_X12_isSame a b c d H (by omega) (by omega) (by omega) (by omega) h3.2) (Nat.le_refl _) ?_
  rintro r H' ⟨rfl, (rfl | rfl)⟩
  · exact fin_plain hW (b01 (Or.inl rfl)) (frm_refl _ _)
  · exact fin_plain hW (b01 (Or.inr rfl)) (frm_refl _ _)
theorem ct_X12_isSame_2 : CtOK cc_X12_isSame_2 := by
  intro G us g H as hg hW ha hp
  obtain ⟨p0, p1, p2, p3, p4, rfl, A0, A1, A2, A3, A4⟩ := aargs5 ha
  have e0 := arg_sing (n := 590) A0 rfl
  subst e0
  obtain ⟨a, rfl, q1, q2, q3⟩ := arg_int A1
  obtain ⟨b, rfl, b1, b2, _⟩ := arg_int A2
  obtain ⟨c, rfl, c1, c2, _⟩ := arg_int A3
  obtain ⟨d, rfl, d1, d2, _⟩ := arg_int A4
  have h3 := is_len (a := a) hW (by decide +kernel) q1 q2 q3
  refine Ca_use (ca_X12_isSame a b c d H (by omega) (by omega) (by omega) (by omega) h3.2) (Nat.le_refl _) ?_
  rintro r H' ⟨rfl, (rfl | rfl)⟩
  · exact fin_plain hW (b01 (Or.inl rfl)) (frm_refl _ _)
  · exact fin_plain hW (b01 (Or.inr rfl)) (frm_refl _ _)
theorem ct_X12_isSame_3 : CtOK cc_X12_isSame_3 := by
  intro G us g H as hg hW ha hp
  obtain ⟨p0, p1, p2, p3, p4, rfl, A0, A1, A2, A3, A4⟩ := aargs5 ha
  have e0 := arg_sing (n := 590) A0 rfl
  subst e0
  obtain ⟨a, rfl, q1, q2, q3⟩ := arg_int A1
  obtain ⟨b, rfl, b1, b2, _⟩ := arg_int A2
  obtain ⟨c, rfl, c1, c2, _⟩ := arg_int A3
  obtain ⟨d, rfl, d1, d2, _⟩ := arg_int A4
  have h3 := is_len (a := a) hW (by decide +kernel) q1 q2 q3
  refine Ca_use (ca_X12_isSame a b c d H (by omega) (by omega) (by omega) (by omega) h3.2) (Nat.le_refl _) ?_
  rintro r H' ⟨rfl, (rfl | rfl)⟩
  · exact fin_plain hW (b01 (Or.inl rfl)) (frm_refl _ _)
  · exact fin_plain hW (b01 (Or.inr rfl)) (frm_refl _ _)
def cc_X12_joined : aC := (190, 1, [(0, -2147483648, 2147483647, 1), (0, -2147483648, 2147483647, 1), (0, -2147483648, 2147483647, 1)], some (0, -2147483648, 2147483647, 1), [], 0, [], [], [], [])
theorem ct_X12_joined : CtOK cc_X12_joined := by
  intro G us g H as hg hW ha hp
  obtain ⟨p0, p1, p2, rfl, A0, A1, A2⟩ := aargs3 ha
  obtain ⟨a, rfl, a1, a2, _⟩ := arg_int A0
  obtain ⟨b, rfl, b1, b2, _⟩ := arg_int A1
  obtain ⟨c, rfl, c1, c2, _⟩ := arg_int A2
  refine Ca_use (ca_X12_joined a b c H ⟨b1, by omega⟩ ⟨c1, by omega⟩) (Nat.le_refl _) ?_
  rintro r H' ⟨rfl, x, rfl, hx⟩
  exact fin_plain hW (aval_top hx) (frm_refl _ _)
def cc_X12_isBill : aC := (198, 2, [(2, 0, 0, 12), (0, -2147483648, 2147483647, 1)], some (0, 0, 1, 1), [(1, 1, 1, 0, 11)], 0, [], [], [], [])
theorem ct_X12_isBill : CtOK cc_X12_isBill := by
  intro G us g H as hg hW ha hp
  obtain ⟨p0, p1, rfl, A0, A1⟩ := aargs2 ha
  have e0 := arg_sing (n := 590) A0 rfl
  subst e0
  obtain ⟨b, rfl, b1, b2, _⟩ := arg_int A1
  have h3 : 0 ≤ H 591 0 ∧ H 591 0 ≤ 12 := WT_rf (c := 591) (i := 0) hW (by decide +kernel)
  refine Ca_use (ca_X12_isBill b H h3.1 h3.2) (Nat.le_refl _) ?_
  rintro r H' ⟨rfl, rfl⟩
  refine fin_pure hW b01i (fact1 (j := 1) (v := b) rfl (fun q _ => ?_))
  have := if_ne (fun e => by rw [e] at q; omega); omega
def cc_X12_isLine : aC := (199, 2, [(2, 0, 0, 12), (0, -2147483648, 2147483647, 1)], some (0, 0, 1, 1), [(1, 1, 1, 0, 59)], 0, [], [], [], [])
theorem ct_X12_isLine : CtOK cc_X12_isLine := by
  intro G us g H as hg hW ha hp
  obtain ⟨p0, p1, rfl, A0, A1⟩ := aargs2 ha
  have e0 := arg_sing (n := 590) A0 rfl
  subst e0
  obtain ⟨b, rfl, b1, b2, _⟩ := arg_int A1
  have h3 : 0 ≤ H 591 2 ∧ H 591 2 ≤ 60 := WT_rf (c := 591) (i := 2) hW (by decide +kernel)
  refine Ca_use (ca_X12_isLine b H h3.1 h3.2) (Nat.le_refl _) ?_
  rintro r H' ⟨rfl, rfl⟩
  refine fin_pure hW b01i (fact1 (j := 1) (v := b) rfl (fun q _ => ?_))
  have := if_ne (fun e => by rw [e] at q; omega); omega
def cc_X12_isHold : aC := (240, 2, [(0, -2147483648, 2147483647, 1)], some (0, 0, 1, 1), [(1, 1, 0, 0, 4)], 0, [], [], [], [])
theorem ct_X12_isHold : CtOK cc_X12_isHold := by
  intro G us g H as hg hW ha hp
  obtain ⟨p0, rfl, A0⟩ := aargs1 ha
  obtain ⟨b, rfl, b1, b2, _⟩ := arg_int A0
  refine Ca_use (ca_X12_isHold b H) (Nat.le_refl _) ?_
  rintro r H' ⟨rfl, rfl⟩
  refine fin_pure hW b01i (fact1 (j := 0) (v := b) rfl (fun q _ => ?_))
  have := if_ne (fun e => by rw [e] at q; omega); omega
