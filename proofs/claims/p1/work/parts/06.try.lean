noncomputable def t_h0 : zH := zput (zrep (0, 0, .leaf (zr 0)) zdep) (zini 11) 0
noncomputable def t_ok (r : zR) : Bool := match r with
  | some _ => true
  | none => false
theorem t_1 : t_ok (zrun zM (none, none, []) 100000 30 kd_X8_init kb_X8_init_0 0 [(0, zr 2)] [] 1 11 (zput t_h0 (zini 8) 0)) = true := by decide +kernel
