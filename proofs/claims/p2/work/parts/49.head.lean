theorem vm_X1_takeOut : zget zM 13 = some ((13, 1, false, cX1_takeOut, 5, (some (.object "BaleTallies$Line"))), kd_X1_takeOut) := rfl
theorem vm_X1_putBack : zget zM 14 = some ((14, 1, false, cX1_putBack, 5, (some (.object "BaleTallies$Line"))), kd_X1_putBack) := rfl
theorem vm_X1_gapsOf : zget zM 15 = some ((15, 1, false, cX1_gapsOf, 4, (some (.array .int))), kd_X1_gapsOf) := rfl
theorem vm_X11_noteDeed : zget zM 154 = some ((154, 11, false, cX11_noteDeed, 6, (some (.object "BaleTallies$Deed"))), kd_X11_noteDeed) := rfl
def cc_X11_within (l l' : Int) (s : Nat) (h h' : Int) (s' : Nat) : aC := (145, 1, [vtop, (0, l, l', s), (0, h, h', s')], some (0, 0, 1, 1), [(0, l, h')], 0, [], [], [], [])
theorem ct_X11_within (l l' : Int) (s : Nat) (h h' : Int) (s' : Nat) : CtOK (cc_X11_within l l' s h h' s') := by sorry
def cc_X12_isIn (l l' : Int) (s : Nat) (h h' : Int) (s' : Nat) : aC := (156, 1, [vtop, (0, l, l', s), (0, h, h', s')], some (0, 0, 1, 1), [(0, l, h')], 0, [], [], [], [])
theorem ct_X12_isIn (l l' : Int) (s : Nat) (h h' : Int) (s' : Nat) : CtOK (cc_X12_isIn l l' s h h' s') := by sorry
