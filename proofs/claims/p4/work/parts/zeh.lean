theorem gf_11_9 : gfOK 11 9 = true := by decide +kernel
theorem gf_11_10 : gfOK 11 10 = true := by decide +kernel
theorem gf_12_50 : gfOK 12 50 = true := by decide +kernel
theorem gf_12_51 : gfOK 12 51 = true := by decide +kernel
theorem pf_11_10 : pfOK 11 10 = true := by decide +kernel
theorem pf_12_51 : pfOK 12 51 = true := by decide +kernel
def xm_X11_write : List xbT := [(0, vb_X11_write_0, some 7), (7, vb_X11_write_7, some 36), (36, vb_X11_write_36, some 68), (68, vb_X11_write_68, some 108), (108, vb_X11_write_108, none)]
theorem xc_X11_write : xOK kd_X11_write xm_X11_write := ⟨ve_X11_write_0, ve_X11_write_7, ve_X11_write_36, ve_X11_write_68, ve_X11_write_108, trivial⟩
theorem xa_X11_write : xm_X11_write.all (fun q => aOKb q.2.1 && !q.2.1.isEmpty) = true := by decide +kernel
theorem xw_X11_write_0 {E : xE} {res : xR} {N : Nat} {hd : List Nat} {C : xCT} {k : Nat} {L : List Int} {st : List pv} {H : PH} : xW E res N kd_X11_write xm_X11_write hd C (k + 1) 0 L st H = xB (fun t L st H => if t ∈ hd then xJ E res N kd_X11_write t L st H else xW E res N kd_X11_write xm_X11_write hd C k t L st H) (REPR E res) C (some 7) vb_X11_write_0 0 L st H := Eq.trans rfl rfl
theorem xw_X11_write_7 {E : xE} {res : xR} {N : Nat} {hd : List Nat} {C : xCT} {k : Nat} {L : List Int} {st : List pv} {H : PH} : xW E res N kd_X11_write xm_X11_write hd C (k + 1) 7 L st H = xB (fun t L st H => if t ∈ hd then xJ E res N kd_X11_write t L st H else xW E res N kd_X11_write xm_X11_write hd C k t L st H) (REPR E res) C (some 36) vb_X11_write_7 7 L st H := Eq.trans rfl rfl
theorem xw_X11_write_36 {E : xE} {res : xR} {N : Nat} {hd : List Nat} {C : xCT} {k : Nat} {L : List Int} {st : List pv} {H : PH} : xW E res N kd_X11_write xm_X11_write hd C (k + 1) 36 L st H = xB (fun t L st H => if t ∈ hd then xJ E res N kd_X11_write t L st H else xW E res N kd_X11_write xm_X11_write hd C k t L st H) (REPR E res) C (some 68) vb_X11_write_36 36 L st H := Eq.trans rfl rfl
theorem xw_X11_write_68 {E : xE} {res : xR} {N : Nat} {hd : List Nat} {C : xCT} {k : Nat} {L : List Int} {st : List pv} {H : PH} : xW E res N kd_X11_write xm_X11_write hd C (k + 1) 68 L st H = xB (fun t L st H => if t ∈ hd then xJ E res N kd_X11_write t L st H else xW E res N kd_X11_write xm_X11_write hd C k t L st H) (REPR E res) C (some 108) vb_X11_write_68 68 L st H := Eq.trans rfl rfl
theorem xw_X11_write_108 {E : xE} {res : xR} {N : Nat} {hd : List Nat} {C : xCT} {k : Nat} {L : List Int} {st : List pv} {H : PH} : xW E res N kd_X11_write xm_X11_write hd C (k + 1) 108 L st H = xB (fun t L st H => if t ∈ hd then xJ E res N kd_X11_write t L st H else xW E res N kd_X11_write xm_X11_write hd C k t L st H) (REPR E res) C (none) vb_X11_write_108 108 L st H := Eq.trans rfl rfl
def xm_X11_put : List xbT := [(0, vb_X11_put_0, some 32), (32, vb_X11_put_32, none)]
theorem xc_X11_put : xOK kd_X11_put xm_X11_put := ⟨ve_X11_put_0, ve_X11_put_32, trivial⟩
theorem xa_X11_put : xm_X11_put.all (fun q => aOKb q.2.1 && !q.2.1.isEmpty) = true := by decide +kernel
theorem xw_X11_put_0 {E : xE} {res : xR} {N : Nat} {hd : List Nat} {C : xCT} {k : Nat} {L : List Int} {st : List pv} {H : PH} : xW E res N kd_X11_put xm_X11_put hd C (k + 1) 0 L st H = xB (fun t L st H => if t ∈ hd then xJ E res N kd_X11_put t L st H else xW E res N kd_X11_put xm_X11_put hd C k t L st H) (REPR E res) C (some 32) vb_X11_put_0 0 L st H := Eq.trans rfl rfl
theorem xw_X11_put_32 {E : xE} {res : xR} {N : Nat} {hd : List Nat} {C : xCT} {k : Nat} {L : List Int} {st : List pv} {H : PH} : xW E res N kd_X11_put xm_X11_put hd C (k + 1) 32 L st H = xB (fun t L st H => if t ∈ hd then xJ E res N kd_X11_put t L st H else xW E res N kd_X11_put xm_X11_put hd C k t L st H) (REPR E res) C (none) vb_X11_put_32 32 L st H := Eq.trans rfl rfl
def xm_X11_putNumber : List xbT := [(0, vb_X11_putNumber_0, some 6), (6, vb_X11_putNumber_6, some 28), (28, vb_X11_putNumber_28, some 32), (32, vb_X11_putNumber_32, some 33), (33, vb_X11_putNumber_33, some 47), (47, vb_X11_putNumber_47, some 55), (55, vb_X11_putNumber_55, none)]
theorem xc_X11_putNumber : xOK kd_X11_putNumber xm_X11_putNumber := ⟨ve_X11_putNumber_0, ve_X11_putNumber_6, ve_X11_putNumber_28, ve_X11_putNumber_32, ve_X11_putNumber_33, ve_X11_putNumber_47, ve_X11_putNumber_55, trivial⟩
theorem xa_X11_putNumber : xm_X11_putNumber.all (fun q => aOKb q.2.1 && !q.2.1.isEmpty) = true := by decide +kernel
theorem xw_X11_putNumber_0 {E : xE} {res : xR} {N : Nat} {hd : List Nat} {C : xCT} {k : Nat} {L : List Int} {st : List pv} {H : PH} : xW E res N kd_X11_putNumber xm_X11_putNumber hd C (k + 1) 0 L st H = xB (fun t L st H => if t ∈ hd then xJ E res N kd_X11_putNumber t L st H else xW E res N kd_X11_putNumber xm_X11_putNumber hd C k t L st H) (REPR E res) C (some 6) vb_X11_putNumber_0 0 L st H := Eq.trans rfl rfl
theorem xw_X11_putNumber_6 {E : xE} {res : xR} {N : Nat} {hd : List Nat} {C : xCT} {k : Nat} {L : List Int} {st : List pv} {H : PH} : xW E res N kd_X11_putNumber xm_X11_putNumber hd C (k + 1) 6 L st H = xB (fun t L st H => if t ∈ hd then xJ E res N kd_X11_putNumber t L st H else xW E res N kd_X11_putNumber xm_X11_putNumber hd C k t L st H) (REPR E res) C (some 28) vb_X11_putNumber_6 6 L st H := Eq.trans rfl rfl
theorem xw_X11_putNumber_28 {E : xE} {res : xR} {N : Nat} {hd : List Nat} {C : xCT} {k : Nat} {L : List Int} {st : List pv} {H : PH} : xW E res N kd_X11_putNumber xm_X11_putNumber hd C (k + 1) 28 L st H = xB (fun t L st H => if t ∈ hd then xJ E res N kd_X11_putNumber t L st H else xW E res N kd_X11_putNumber xm_X11_putNumber hd C k t L st H) (REPR E res) C (some 32) vb_X11_putNumber_28 28 L st H := Eq.trans rfl rfl
theorem xw_X11_putNumber_32 {E : xE} {res : xR} {N : Nat} {hd : List Nat} {C : xCT} {k : Nat} {L : List Int} {st : List pv} {H : PH} : xW E res N kd_X11_putNumber xm_X11_putNumber hd C (k + 1) 32 L st H = xB (fun t L st H => if t ∈ hd then xJ E res N kd_X11_putNumber t L st H else xW E res N kd_X11_putNumber xm_X11_putNumber hd C k t L st H) (REPR E res) C (some 33) vb_X11_putNumber_32 32 L st H := Eq.trans rfl rfl
theorem xw_X11_putNumber_33 {E : xE} {res : xR} {N : Nat} {hd : List Nat} {C : xCT} {k : Nat} {L : List Int} {st : List pv} {H : PH} : xW E res N kd_X11_putNumber xm_X11_putNumber hd C (k + 1) 33 L st H = xB (fun t L st H => if t ∈ hd then xJ E res N kd_X11_putNumber t L st H else xW E res N kd_X11_putNumber xm_X11_putNumber hd C k t L st H) (REPR E res) C (some 47) vb_X11_putNumber_33 33 L st H := Eq.trans rfl rfl
theorem xw_X11_putNumber_47 {E : xE} {res : xR} {N : Nat} {hd : List Nat} {C : xCT} {k : Nat} {L : List Int} {st : List pv} {H : PH} : xW E res N kd_X11_putNumber xm_X11_putNumber hd C (k + 1) 47 L st H = xB (fun t L st H => if t ∈ hd then xJ E res N kd_X11_putNumber t L st H else xW E res N kd_X11_putNumber xm_X11_putNumber hd C k t L st H) (REPR E res) C (some 55) vb_X11_putNumber_47 47 L st H := Eq.trans rfl rfl
theorem xw_X11_putNumber_55 {E : xE} {res : xR} {N : Nat} {hd : List Nat} {C : xCT} {k : Nat} {L : List Int} {st : List pv} {H : PH} : xW E res N kd_X11_putNumber xm_X11_putNumber hd C (k + 1) 55 L st H = xB (fun t L st H => if t ∈ hd then xJ E res N kd_X11_putNumber t L st H else xW E res N kd_X11_putNumber xm_X11_putNumber hd C k t L st H) (REPR E res) C (none) vb_X11_putNumber_55 55 L st H := Eq.trans rfl rfl
def xm_X11_octet : List xbT := [(0, vb_X11_octet_0, some 23), (23, vb_X11_octet_23, some 24), (24, vb_X11_octet_24, none)]
theorem xc_X11_octet : xOK kd_X11_octet xm_X11_octet := ⟨ve_X11_octet_0, ve_X11_octet_23, ve_X11_octet_24, trivial⟩
theorem xa_X11_octet : xm_X11_octet.all (fun q => aOKb q.2.1 && !q.2.1.isEmpty) = true := by decide +kernel
theorem xw_X11_octet_0 {E : xE} {res : xR} {N : Nat} {hd : List Nat} {C : xCT} {k : Nat} {L : List Int} {st : List pv} {H : PH} : xW E res N kd_X11_octet xm_X11_octet hd C (k + 1) 0 L st H = xB (fun t L st H => if t ∈ hd then xJ E res N kd_X11_octet t L st H else xW E res N kd_X11_octet xm_X11_octet hd C k t L st H) (REPR E res) C (some 23) vb_X11_octet_0 0 L st H := Eq.trans rfl rfl
theorem xw_X11_octet_23 {E : xE} {res : xR} {N : Nat} {hd : List Nat} {C : xCT} {k : Nat} {L : List Int} {st : List pv} {H : PH} : xW E res N kd_X11_octet xm_X11_octet hd C (k + 1) 23 L st H = xB (fun t L st H => if t ∈ hd then xJ E res N kd_X11_octet t L st H else xW E res N kd_X11_octet xm_X11_octet hd C k t L st H) (REPR E res) C (some 24) vb_X11_octet_23 23 L st H := Eq.trans rfl rfl
theorem xw_X11_octet_24 {E : xE} {res : xR} {N : Nat} {hd : List Nat} {C : xCT} {k : Nat} {L : List Int} {st : List pv} {H : PH} : xW E res N kd_X11_octet xm_X11_octet hd C (k + 1) 24 L st H = xB (fun t L st H => if t ∈ hd then xJ E res N kd_X11_octet t L st H else xW E res N kd_X11_octet xm_X11_octet hd C k t L st H) (REPR E res) C (none) vb_X11_octet_24 24 L st H := Eq.trans rfl rfl
def xm_X12_write : List xbT := [(0, vb_X12_write_0, some 7), (7, vb_X12_write_7, some 30), (30, vb_X12_write_30, some 62), (62, vb_X12_write_62, some 112), (112, vb_X12_write_112, none)]
theorem xc_X12_write : xOK kd_X12_write xm_X12_write := ⟨ve_X12_write_0, ve_X12_write_7, ve_X12_write_30, ve_X12_write_62, ve_X12_write_112, trivial⟩
theorem xa_X12_write : xm_X12_write.all (fun q => aOKb q.2.1 && !q.2.1.isEmpty) = true := by decide +kernel
theorem xw_X12_write_0 {E : xE} {res : xR} {N : Nat} {hd : List Nat} {C : xCT} {k : Nat} {L : List Int} {st : List pv} {H : PH} : xW E res N kd_X12_write xm_X12_write hd C (k + 1) 0 L st H = xB (fun t L st H => if t ∈ hd then xJ E res N kd_X12_write t L st H else xW E res N kd_X12_write xm_X12_write hd C k t L st H) (REPR E res) C (some 7) vb_X12_write_0 0 L st H := Eq.trans rfl rfl
theorem xw_X12_write_7 {E : xE} {res : xR} {N : Nat} {hd : List Nat} {C : xCT} {k : Nat} {L : List Int} {st : List pv} {H : PH} : xW E res N kd_X12_write xm_X12_write hd C (k + 1) 7 L st H = xB (fun t L st H => if t ∈ hd then xJ E res N kd_X12_write t L st H else xW E res N kd_X12_write xm_X12_write hd C k t L st H) (REPR E res) C (some 30) vb_X12_write_7 7 L st H := Eq.trans rfl rfl
theorem xw_X12_write_30 {E : xE} {res : xR} {N : Nat} {hd : List Nat} {C : xCT} {k : Nat} {L : List Int} {st : List pv} {H : PH} : xW E res N kd_X12_write xm_X12_write hd C (k + 1) 30 L st H = xB (fun t L st H => if t ∈ hd then xJ E res N kd_X12_write t L st H else xW E res N kd_X12_write xm_X12_write hd C k t L st H) (REPR E res) C (some 62) vb_X12_write_30 30 L st H := Eq.trans rfl rfl
theorem xw_X12_write_62 {E : xE} {res : xR} {N : Nat} {hd : List Nat} {C : xCT} {k : Nat} {L : List Int} {st : List pv} {H : PH} : xW E res N kd_X12_write xm_X12_write hd C (k + 1) 62 L st H = xB (fun t L st H => if t ∈ hd then xJ E res N kd_X12_write t L st H else xW E res N kd_X12_write xm_X12_write hd C k t L st H) (REPR E res) C (some 112) vb_X12_write_62 62 L st H := Eq.trans rfl rfl
theorem xw_X12_write_112 {E : xE} {res : xR} {N : Nat} {hd : List Nat} {C : xCT} {k : Nat} {L : List Int} {st : List pv} {H : PH} : xW E res N kd_X12_write xm_X12_write hd C (k + 1) 112 L st H = xB (fun t L st H => if t ∈ hd then xJ E res N kd_X12_write t L st H else xW E res N kd_X12_write xm_X12_write hd C k t L st H) (REPR E res) C (none) vb_X12_write_112 112 L st H := Eq.trans rfl rfl
def xm_X12_writes : List xbT := [(0, vb_X12_writes_0, none)]
theorem xc_X12_writes : xOK kd_X12_writes xm_X12_writes := ⟨ve_X12_writes_0, trivial⟩
theorem xa_X12_writes : xm_X12_writes.all (fun q => aOKb q.2.1 && !q.2.1.isEmpty) = true := by decide +kernel
theorem xw_X12_writes_0 {E : xE} {res : xR} {N : Nat} {hd : List Nat} {C : xCT} {k : Nat} {L : List Int} {st : List pv} {H : PH} : xW E res N kd_X12_writes xm_X12_writes hd C (k + 1) 0 L st H = xB (fun t L st H => if t ∈ hd then xJ E res N kd_X12_writes t L st H else xW E res N kd_X12_writes xm_X12_writes hd C k t L st H) (REPR E res) C (none) vb_X12_writes_0 0 L st H := Eq.trans rfl rfl
def xm_X12_writeNumber : List xbT := [(0, vb_X12_writeNumber_0, some 19), (19, vb_X12_writeNumber_19, some 39), (39, vb_X12_writeNumber_39, some 59), (59, vb_X12_writeNumber_59, none)]
theorem xc_X12_writeNumber : xOK kd_X12_writeNumber xm_X12_writeNumber := ⟨ve_X12_writeNumber_0, ve_X12_writeNumber_19, ve_X12_writeNumber_39, ve_X12_writeNumber_59, trivial⟩
theorem xa_X12_writeNumber : xm_X12_writeNumber.all (fun q => aOKb q.2.1 && !q.2.1.isEmpty) = true := by decide +kernel
theorem xw_X12_writeNumber_0 {E : xE} {res : xR} {N : Nat} {hd : List Nat} {C : xCT} {k : Nat} {L : List Int} {st : List pv} {H : PH} : xW E res N kd_X12_writeNumber xm_X12_writeNumber hd C (k + 1) 0 L st H = xB (fun t L st H => if t ∈ hd then xJ E res N kd_X12_writeNumber t L st H else xW E res N kd_X12_writeNumber xm_X12_writeNumber hd C k t L st H) (REPR E res) C (some 19) vb_X12_writeNumber_0 0 L st H := Eq.trans rfl rfl
theorem xw_X12_writeNumber_19 {E : xE} {res : xR} {N : Nat} {hd : List Nat} {C : xCT} {k : Nat} {L : List Int} {st : List pv} {H : PH} : xW E res N kd_X12_writeNumber xm_X12_writeNumber hd C (k + 1) 19 L st H = xB (fun t L st H => if t ∈ hd then xJ E res N kd_X12_writeNumber t L st H else xW E res N kd_X12_writeNumber xm_X12_writeNumber hd C k t L st H) (REPR E res) C (some 39) vb_X12_writeNumber_19 19 L st H := Eq.trans rfl rfl
theorem xw_X12_writeNumber_39 {E : xE} {res : xR} {N : Nat} {hd : List Nat} {C : xCT} {k : Nat} {L : List Int} {st : List pv} {H : PH} : xW E res N kd_X12_writeNumber xm_X12_writeNumber hd C (k + 1) 39 L st H = xB (fun t L st H => if t ∈ hd then xJ E res N kd_X12_writeNumber t L st H else xW E res N kd_X12_writeNumber xm_X12_writeNumber hd C k t L st H) (REPR E res) C (some 59) vb_X12_writeNumber_39 39 L st H := Eq.trans rfl rfl
theorem xw_X12_writeNumber_59 {E : xE} {res : xR} {N : Nat} {hd : List Nat} {C : xCT} {k : Nat} {L : List Int} {st : List pv} {H : PH} : xW E res N kd_X12_writeNumber xm_X12_writeNumber hd C (k + 1) 59 L st H = xB (fun t L st H => if t ∈ hd then xJ E res N kd_X12_writeNumber t L st H else xW E res N kd_X12_writeNumber xm_X12_writeNumber hd C k t L st H) (REPR E res) C (none) vb_X12_writeNumber_59 59 L st H := Eq.trans rfl rfl
def xm_X12_octet : List xbT := [(0, vb_X12_octet_0, some 23), (23, vb_X12_octet_23, some 24), (24, vb_X12_octet_24, none)]
theorem xc_X12_octet : xOK kd_X12_octet xm_X12_octet := ⟨ve_X12_octet_0, ve_X12_octet_23, ve_X12_octet_24, trivial⟩
theorem xa_X12_octet : xm_X12_octet.all (fun q => aOKb q.2.1 && !q.2.1.isEmpty) = true := by decide +kernel
theorem xw_X12_octet_0 {E : xE} {res : xR} {N : Nat} {hd : List Nat} {C : xCT} {k : Nat} {L : List Int} {st : List pv} {H : PH} : xW E res N kd_X12_octet xm_X12_octet hd C (k + 1) 0 L st H = xB (fun t L st H => if t ∈ hd then xJ E res N kd_X12_octet t L st H else xW E res N kd_X12_octet xm_X12_octet hd C k t L st H) (REPR E res) C (some 23) vb_X12_octet_0 0 L st H := Eq.trans rfl rfl
theorem xw_X12_octet_23 {E : xE} {res : xR} {N : Nat} {hd : List Nat} {C : xCT} {k : Nat} {L : List Int} {st : List pv} {H : PH} : xW E res N kd_X12_octet xm_X12_octet hd C (k + 1) 23 L st H = xB (fun t L st H => if t ∈ hd then xJ E res N kd_X12_octet t L st H else xW E res N kd_X12_octet xm_X12_octet hd C k t L st H) (REPR E res) C (some 24) vb_X12_octet_23 23 L st H := Eq.trans rfl rfl
theorem xw_X12_octet_24 {E : xE} {res : xR} {N : Nat} {hd : List Nat} {C : xCT} {k : Nat} {L : List Int} {st : List pv} {H : PH} : xW E res N kd_X12_octet xm_X12_octet hd C (k + 1) 24 L st H = xB (fun t L st H => if t ∈ hd then xJ E res N kd_X12_octet t L st H else xW E res N kd_X12_octet xm_X12_octet hd C k t L st H) (REPR E res) C (none) vb_X12_octet_24 24 L st H := Eq.trans rfl rfl
/-! ===== write, octet: both sides ===== -/
abbrev wS : Type := Int × (Int → Int)
def psh (c : Int) (s : wS) : wS := (s.1 + 1, xup s.2 s.1 c)
def nmF (v : Int) (s : wS) : wS := psh (48 + v % 10) (if 9 < v then psh (48 + v / 10 % 10) (if 99 < v then psh (48 + v / 100 % 10) (if 999 < v then psh (48 + v / 1000 % 10) s else s) else s) else s)
def mkF (f : Int → Int) : Nat → Int → wS → wS
  | 0, _, s => s
  | n + 1, i, s => mkF f n (i + 1) (psh (f i) s)
def wbF (A : Int → Int) (b : Int) (s : wS) : wS := psh 59 (nmF (A (92 + 26 * b + 10)) (psh 42 (nmF (A (92 + 26 * b + 9)) (psh 58 (mkF (fun i => A (92 + 26 * b + 1 + i)) (A (92 + 26 * b)).toNat 0 (psh 98 s))))))
def wtF (A : Int → Int) : Nat → Int → wS → wS
  | 0, _, s => s
  | n + 1, b, s => wtF A n (b + 1) (wbF A b s)
def wtZ (A : Int → Int) : wS := wtF A (A 0).toNat 0 (0, fun _ => 0)
theorem nmF_len (v : Int) (s : wS) : s.1 + 1 ≤ (nmF v s).1 ∧ (nmF v s).1 ≤ s.1 + 4 := by
  have p : ∀ (c : Int) (t : wS), (psh c t).1 = t.1 + 1 := fun _ _ => rfl
  unfold nmF
  rw [p]
  by_cases c1 : 9 < v
  · rw [if_pos c1, p]
    by_cases c2 : 99 < v
    · rw [if_pos c2, p]
      by_cases c3 : 999 < v
      · rw [if_pos c3, p]
        omega
      · rw [if_neg c3]
        omega
    · rw [if_neg c2]
      omega
  · rw [if_neg c1]
    omega
theorem mkF_len (f : Int → Int) : ∀ (n : Nat) (i : Int) (s : wS), (mkF f n i s).1 = s.1 + n
  | 0, _, s => by show s.1 = s.1 + ((0 : Nat) : Int); omega
  | n + 1, i, s => by
    unfold mkF
    rw [mkF_len f n (i + 1)]
    show s.1 + 1 + (n : Int) = _
    omega
theorem wbF_len {A : Int → Int} {b : Int} {s : wS} (h : 0 ≤ A (92 + 26 * b) ∧ A (92 + 26 * b) ≤ 8) : s.1 ≤ (wbF A b s).1 ∧ (wbF A b s).1 ≤ s.1 + 20 := by
  unfold wbF
  have m := mkF_len (fun i => A (92 + 26 * b + 1 + i)) (A (92 + 26 * b)).toNat 0 (psh 98 s)
  have m0 : (psh 98 s).1 = s.1 + 1 := rfl
  have n1 := nmF_len (A (92 + 26 * b + 9)) (psh 58 (mkF (fun i => A (92 + 26 * b + 1 + i)) (A (92 + 26 * b)).toNat 0 (psh 98 s)))
  have p1 : (psh 58 (mkF (fun i => A (92 + 26 * b + 1 + i)) (A (92 + 26 * b)).toNat 0 (psh 98 s))).1 = (mkF (fun i => A (92 + 26 * b + 1 + i)) (A (92 + 26 * b)).toNat 0 (psh 98 s)).1 + 1 := rfl
  have n2 := nmF_len (A (92 + 26 * b + 10)) (psh 42 (nmF (A (92 + 26 * b + 9)) (psh 58 (mkF (fun i => A (92 + 26 * b + 1 + i)) (A (92 + 26 * b)).toNat 0 (psh 98 s)))))
  have p2 : (psh 42 (nmF (A (92 + 26 * b + 9)) (psh 58 (mkF (fun i => A (92 + 26 * b + 1 + i)) (A (92 + 26 * b)).toNat 0 (psh 98 s))))).1 = (nmF (A (92 + 26 * b + 9)) (psh 58 (mkF (fun i => A (92 + 26 * b + 1 + i)) (A (92 + 26 * b)).toNat 0 (psh 98 s)))).1 + 1 := rfl
  show s.1 ≤ (nmF (A (92 + 26 * b + 10)) _).1 + 1 ∧ (nmF (A (92 + 26 * b + 10)) _).1 + 1 ≤ s.1 + 20
  omega
/-- written so far: the class's, the model's -/
def WC (s : wS) (H : PH) : Prop := H 0 10 = s.1 ∧ ∀ x, 0 ≤ x → x < s.1 → H 589 x = s.2 x
def WM (s : wS) (H : PH) : Prop := H 590 51 = s.1 ∧ ∀ x, 0 ≤ x → x < s.1 → H 621 x = s.2 x
def FRW (X H : PH) : Prop := (∀ c, ¬ c = 0 → ¬ c = 589 → H c = X c) ∧ ∀ i, ¬ i = 10 → H 0 i = X 0 i
def FRV (X H : PH) : Prop := (∀ c, ¬ c = 590 → ¬ c = 621 → H c = X c) ∧ ∀ i, ¬ i = 51 → H 590 i = X 590 i
theorem ln_589 : (zSh 589).2.1 = 240 := by decide +kernel
theorem qb_621 (x : Int) : qb (zSh 621).1 x = q1 (fun x => x.toInt8.toInt32) x := if_pos (by decide +kernel)
theorem by_all : (List.range 128).all (fun n => q1 (fun x => x.toInt8.toInt32) (n : Int) == (n : Int)) = true := by decide +kernel
theorem by_id {x : Int} (h0 : 0 ≤ x) (h1 : x ≤ 127) : q1 (fun x => x.toInt8.toInt32) x = x := by
  obtain ⟨n, rfl⟩ := Int.eq_ofNat_of_zero_le h0
  have := List.all_eq_true.mp by_all n (List.mem_range.mpr (by omega))
  exact eq_of_beq this
set_option maxRecDepth 100000 in
theorem sp_X11_put (c : Int) (s : wS) (X H : PH) (h0 : 0 ≤ s.1 ∧ s.1 < 240) (hF : FRW X H) (hW : WC s H) : SPEC 149 [(2, 0), (0, c)] H (fun r H' => r = none ∧ FRW X H' ∧ WC (psh c s) H') := by
  intro E n res h
  have e := hW.1
  have l1 := ln_589
  have l2 : (zSh (Int.toNat 589)).2.1 = 240 := ln_589
  have c1 : ¬ 240 ≤ s.1 := by omega
  have c2 : s.1 < 240 := h0.2
  have z1 : zw (s.1 + 1) = s.1 + 1 := zw_lit (by omega) (by omega)
  have h := call_runP 2 vm_X11_put h
  have h := xw_top (hd := []) 4 xD6_ok xc_X11_put xa_X11_put (t := 0) rfl h
  simp (maxDischargeDepth := 12) -implicitDefEqProofs [vb_X11_put_0, vb_X11_put_32, xI_0, xI_1, xI_7, xI_14, xI_33, xI_46, xI_49, xI_50, xI_52, xI_54, xI_65, xw_X11_put_0, xw_X11_put_32, zw_lit, xB_c, xB_s, xB_n, i1_c, j2_c, k1_c, jJ_e, xlg, xls, xla, xpd, ppush, zw_m1, zw_m2, zw_m3, gf_11_9, gf_11_10, pf_11_10, tg_11_10, tg_11_9, gv_0_9, gv_0_10, xD1, xD2, xD3, xD4, xD5, xD6, xb1_0, e, l1, l2, c1, c2, z1, xp_ne] at h
  refine ⟨_, _, h, rfl, ⟨fun d d1 d2 => by rw [xp_ne d1, xp_ne d2]; exact hF.1 d d1 d2, fun i hi => by rw [xp_at, if_neg hi, xp_ne (by decide)]; exact hF.2 i hi⟩, by rw [xp_at, if_pos rfl]; rfl, fun x x0 x1 => ?_⟩
  have x1 : x < s.1 + 1 := x1
  rw [xp_ne (by decide), xp_at]
  show _ = (if x = s.1 then c else s.2 x)
  by_cases q : x = s.1
  · rw [if_pos q, if_pos q]
  · rw [if_neg q, if_neg q]
    exact hW.2 x x0 (by omega)
set_option maxRecDepth 100000 in
theorem pn_step (v u b y : Int) (s : wS) (X H : PH) (hv : 0 ≤ v ∧ v ≤ 9999) (hu : u = 1000 ∨ u = 100 ∨ u = 10 ∨ u = 1) (hb : b = 0 ∨ b = 1) (h0 : 0 ≤ s.1 ∧ s.1 < 240) (hF : FRW X H) (hW : WC s H) {E : xE} {res : xR} {n : Nat} (h : RUN E res n kd_X11_putNumber (zget kd_X11_putNumber 6) 6 [0, v, b, u, y] [] H) : ((b = 0 ∧ v / u % 10 = 0) ∧ ∃ m y', RUN E res m kd_X11_putNumber (zget kd_X11_putNumber 6) 6 [0, v, 0, u / 10, y'] [] H) ∨ (¬ (b = 0 ∧ v / u % 10 = 0) ∧ ∃ H' m y', (FRW X H' ∧ WC (psh (48 + v / u % 10) s) H') ∧ RUN E res m kd_X11_putNumber (zget kd_X11_putNumber 6) 6 [0, v, 1, u / 10, y'] [] H') := by
  have u0 : 1 ≤ u ∧ u ≤ 1000 := by omega
  have uc : ¬ u < 1 := by omega
  have vq : 0 ≤ v / u ∧ v / u ≤ 9999 := ⟨Int.ediv_nonneg hv.1 (by omega), Int.le_trans (Int.ediv_le_self _ hv.1) hv.2⟩
  have d1 : q2 (· / ·) v u = v / u := q2_div (by omega) (by omega) (by omega) (by omega)
  have d2 : q2 (fun x y => x - x / y * y) (v / u) 10 = v / u % 10 := q2_rem (by omega) (by omega) (by decide) (by decide)
  have d3 : q2 (· / ·) u 10 = u / 10 := q2_div (by omega) (by omega) (by decide) (by decide)
  have zd : zw (48 + v / u % 10) = 48 + v / u % 10 := zw_lit (by omega) (by omega)
  have u1 := u0.1
  by_cases c : v / u % 10 = 0
  · rcases hb with rfl | rfl
    · have h := xw_top (hd := [6]) 9 xD6_ok xc_X11_putNumber xa_X11_putNumber (t := 6) rfl h
      simp (maxDischargeDepth := 12) -implicitDefEqProofs [vb_X11_putNumber_0, vb_X11_putNumber_6, vb_X11_putNumber_28, vb_X11_putNumber_32, vb_X11_putNumber_33, vb_X11_putNumber_47, vb_X11_putNumber_55, xI_0, xI_1, xI_3, xI_7, xI_8, xI_9, xI_14, xI_17, xI_18, xI_36, xI_37, xI_38, xI_45, xI_61, xI_65, xw_X11_putNumber_0, xw_X11_putNumber_6, xw_X11_putNumber_28, xw_X11_putNumber_32, xw_X11_putNumber_33, xw_X11_putNumber_47, xw_X11_putNumber_55, zw_lit, xB_c, xB_s, xB_n, i1_c, j2_c, k1_c, jJ_e, xlg, xls, xla, xpd, ppush, zw_m1, zw_m2, zw_m3, xD1, xD2, xD3, xD4, xD5, xD6, xb1_0, uc, u1, d1, d2, d3, c] at h
      obtain ⟨m, hm, h⟩ := h
      exact Or.inl ⟨⟨rfl, c⟩, m, _, h⟩
    · have h := xw_top (hd := [6]) 9 xD6_ok xc_X11_putNumber xa_X11_putNumber (t := 6) rfl h
      simp (maxDischargeDepth := 12) -implicitDefEqProofs [vb_X11_putNumber_0, vb_X11_putNumber_6, vb_X11_putNumber_28, vb_X11_putNumber_32, vb_X11_putNumber_33, vb_X11_putNumber_47, vb_X11_putNumber_55, xI_0, xI_1, xI_3, xI_7, xI_8, xI_9, xI_14, xI_17, xI_18, xI_36, xI_37, xI_38, xI_45, xI_61, xI_65, xw_X11_putNumber_0, xw_X11_putNumber_6, xw_X11_putNumber_28, xw_X11_putNumber_32, xw_X11_putNumber_33, xw_X11_putNumber_47, xw_X11_putNumber_55, zw_lit, xB_c, xB_s, xB_n, i1_c, j2_c, k1_c, jJ_e, xlg, xls, xla, xpd, ppush, zw_m1, zw_m2, zw_m3, xD1, xD2, xD3, xD4, xD5, xD6, xb1_0, uc, u1, d1, d2, d3, c] at h
      obtain ⟨r, H1, ⟨rfl, f1, w1⟩, g⟩ := xc_use h (sp_X11_put 48 s X H h0 hF hW)
      simp (maxDischargeDepth := 12) -implicitDefEqProofs [vb_X11_putNumber_0, vb_X11_putNumber_6, vb_X11_putNumber_28, vb_X11_putNumber_32, vb_X11_putNumber_33, vb_X11_putNumber_47, vb_X11_putNumber_55, xI_0, xI_1, xI_3, xI_7, xI_8, xI_9, xI_14, xI_17, xI_18, xI_36, xI_37, xI_38, xI_45, xI_61, xI_65, xw_X11_putNumber_0, xw_X11_putNumber_6, xw_X11_putNumber_28, xw_X11_putNumber_32, xw_X11_putNumber_33, xw_X11_putNumber_47, xw_X11_putNumber_55, zw_lit, xB_c, xB_s, xB_n, i1_c, j2_c, k1_c, jJ_e, xlg, xls, xla, xpd, ppush, zw_m1, zw_m2, zw_m3, xD1, xD2, xD3, xD4, xD5, xD6, xb1_0, d3] at g
      obtain ⟨m, hm, g⟩ := g
      refine Or.inr ⟨fun w => absurd w.1 (by decide), H1, m, _, ⟨f1, ?_⟩, g⟩
      rw [c]
      exact w1
  · have p := sp_X11_put (48 + v / u % 10) s X H h0 hF hW
    rcases hb with rfl | rfl
    · have h := xw_top (hd := [6]) 9 xD6_ok xc_X11_putNumber xa_X11_putNumber (t := 6) rfl h
      simp (maxDischargeDepth := 12) -implicitDefEqProofs [vb_X11_putNumber_0, vb_X11_putNumber_6, vb_X11_putNumber_28, vb_X11_putNumber_32, vb_X11_putNumber_33, vb_X11_putNumber_47, vb_X11_putNumber_55, xI_0, xI_1, xI_3, xI_7, xI_8, xI_9, xI_14, xI_17, xI_18, xI_36, xI_37, xI_38, xI_45, xI_61, xI_65, xw_X11_putNumber_0, xw_X11_putNumber_6, xw_X11_putNumber_28, xw_X11_putNumber_32, xw_X11_putNumber_33, xw_X11_putNumber_47, xw_X11_putNumber_55, zw_lit, xB_c, xB_s, xB_n, i1_c, j2_c, k1_c, jJ_e, xlg, xls, xla, xpd, ppush, zw_m1, zw_m2, zw_m3, xD1, xD2, xD3, xD4, xD5, xD6, xb1_0, uc, u1, d1, d2, d3, c, zd] at h
      obtain ⟨r, H1, ⟨rfl, f1, w1⟩, g⟩ := xc_use h p
      simp (maxDischargeDepth := 12) -implicitDefEqProofs [vb_X11_putNumber_0, vb_X11_putNumber_6, vb_X11_putNumber_28, vb_X11_putNumber_32, vb_X11_putNumber_33, vb_X11_putNumber_47, vb_X11_putNumber_55, xI_0, xI_1, xI_3, xI_7, xI_8, xI_9, xI_14, xI_17, xI_18, xI_36, xI_37, xI_38, xI_45, xI_61, xI_65, xw_X11_putNumber_0, xw_X11_putNumber_6, xw_X11_putNumber_28, xw_X11_putNumber_32, xw_X11_putNumber_33, xw_X11_putNumber_47, xw_X11_putNumber_55, zw_lit, xB_c, xB_s, xB_n, i1_c, j2_c, k1_c, jJ_e, xlg, xls, xla, xpd, ppush, zw_m1, zw_m2, zw_m3, xD1, xD2, xD3, xD4, xD5, xD6, xb1_0, d3] at g
      obtain ⟨m, hm, g⟩ := g
      exact Or.inr ⟨fun w => c w.2, H1, m, _, ⟨f1, w1⟩, g⟩
    · have h := xw_top (hd := [6]) 9 xD6_ok xc_X11_putNumber xa_X11_putNumber (t := 6) rfl h
      simp (maxDischargeDepth := 12) -implicitDefEqProofs [vb_X11_putNumber_0, vb_X11_putNumber_6, vb_X11_putNumber_28, vb_X11_putNumber_32, vb_X11_putNumber_33, vb_X11_putNumber_47, vb_X11_putNumber_55, xI_0, xI_1, xI_3, xI_7, xI_8, xI_9, xI_14, xI_17, xI_18, xI_36, xI_37, xI_38, xI_45, xI_61, xI_65, xw_X11_putNumber_0, xw_X11_putNumber_6, xw_X11_putNumber_28, xw_X11_putNumber_32, xw_X11_putNumber_33, xw_X11_putNumber_47, xw_X11_putNumber_55, zw_lit, xB_c, xB_s, xB_n, i1_c, j2_c, k1_c, jJ_e, xlg, xls, xla, xpd, ppush, zw_m1, zw_m2, zw_m3, xD1, xD2, xD3, xD4, xD5, xD6, xb1_0, uc, u1, d1, d2, d3, c, zd] at h
      obtain ⟨r, H1, ⟨rfl, f1, w1⟩, g⟩ := xc_use h p
      simp (maxDischargeDepth := 12) -implicitDefEqProofs [vb_X11_putNumber_0, vb_X11_putNumber_6, vb_X11_putNumber_28, vb_X11_putNumber_32, vb_X11_putNumber_33, vb_X11_putNumber_47, vb_X11_putNumber_55, xI_0, xI_1, xI_3, xI_7, xI_8, xI_9, xI_14, xI_17, xI_18, xI_36, xI_37, xI_38, xI_45, xI_61, xI_65, xw_X11_putNumber_0, xw_X11_putNumber_6, xw_X11_putNumber_28, xw_X11_putNumber_32, xw_X11_putNumber_33, xw_X11_putNumber_47, xw_X11_putNumber_55, zw_lit, xB_c, xB_s, xB_n, i1_c, j2_c, k1_c, jJ_e, xlg, xls, xla, xpd, ppush, zw_m1, zw_m2, zw_m3, xD1, xD2, xD3, xD4, xD5, xD6, xb1_0, d3] at g
      obtain ⟨m, hm, g⟩ := g
      exact Or.inr ⟨fun w => c w.2, H1, m, _, ⟨f1, w1⟩, g⟩
set_option maxRecDepth 100000 in
theorem pn_end (v b y : Int) (H : PH) {E : xE} {res : xR} {n : Nat} (h : RUN E res n kd_X11_putNumber (zget kd_X11_putNumber 6) 6 [0, v, b, 0, y] [] H) : REPR E res none H := by
  have h := xw_top (hd := [6]) 9 xD6_ok xc_X11_putNumber xa_X11_putNumber (t := 6) rfl h
  simp (maxDischargeDepth := 12) -implicitDefEqProofs [vb_X11_putNumber_0, vb_X11_putNumber_6, vb_X11_putNumber_28, vb_X11_putNumber_32, vb_X11_putNumber_33, vb_X11_putNumber_47, vb_X11_putNumber_55, xI_0, xI_1, xI_3, xI_7, xI_8, xI_9, xI_14, xI_17, xI_18, xI_36, xI_37, xI_38, xI_45, xI_61, xI_65, xw_X11_putNumber_0, xw_X11_putNumber_6, xw_X11_putNumber_28, xw_X11_putNumber_32, xw_X11_putNumber_33, xw_X11_putNumber_47, xw_X11_putNumber_55, zw_lit, xB_c, xB_s, xB_n, i1_c, j2_c, k1_c, jJ_e, xlg, xls, xla, xpd, ppush, zw_m1, zw_m2, zw_m3, xD1, xD2, xD3, xD4, xD5, xD6, xb1_0] at h
  exact h
set_option maxRecDepth 100000 in
theorem sp_X11_putNumber (v : Int) (s : wS) (X H : PH) (hv : 1 ≤ v ∧ v ≤ 9999) (h0 : 0 ≤ s.1 ∧ s.1 + 4 ≤ 240) (hF : FRW X H) (hW : WC s H) : SPEC 150 [(2, 0), (0, v)] H (fun r H' => r = none ∧ FRW X H' ∧ WC (nmF v s) H') := by
  intro E n res h
  have hv0 : 0 ≤ v ∧ v ≤ 9999 := by omega
  have pl : ∀ (c : Int) (s : wS), (psh c s).1 = s.1 + 1 := fun _ _ => rfl
  have h := call_runP 5 vm_X11_putNumber h
  have h := xw_top (hd := [6]) 9 xD6_ok xc_X11_putNumber xa_X11_putNumber (t := 0) rfl h
  simp (maxDischargeDepth := 12) -implicitDefEqProofs [vb_X11_putNumber_0, vb_X11_putNumber_6, vb_X11_putNumber_28, vb_X11_putNumber_32, vb_X11_putNumber_33, vb_X11_putNumber_47, vb_X11_putNumber_55, xI_0, xI_1, xI_3, xI_7, xI_8, xI_9, xI_14, xI_17, xI_18, xI_36, xI_37, xI_38, xI_45, xI_61, xI_65, xw_X11_putNumber_0, xw_X11_putNumber_6, xw_X11_putNumber_28, xw_X11_putNumber_32, xw_X11_putNumber_33, xw_X11_putNumber_47, xw_X11_putNumber_55, zw_lit, xB_c, xB_s, xB_n, i1_c, j2_c, k1_c, jJ_e, xlg, xls, xla, xpd, ppush, zw_m1, zw_m2, zw_m3, xD1, xD2, xD3, xD4, xD5, xD6, xb1_0] at h
  obtain ⟨m, hm, h⟩ := h
  have e1 : (1000 : Int) / 10 = 100 := by decide
  have e2 : (100 : Int) / 10 = 10 := by decide
  have e3 : (10 : Int) / 10 = 1 := by decide
  have e4 : (1 : Int) / 10 = 0 := by decide
  have vd : v / 1 = v := Int.ediv_one v
  have fin : ∀ (b y : Int) (t : wS) (Y : PH) (m : Nat), t = nmF v s → FRW X Y → WC t Y → RUN E res m kd_X11_putNumber (zget kd_X11_putNumber 6) 6 [0, v, b, 0, y] [] Y → ∃ r H', REPR E res r H' ∧ r = none ∧ FRW X H' ∧ WC (nmF v s) H' := fun b y t Y m e f w h => ⟨none, Y, pn_end v b y Y h, rfl, f, e ▸ w⟩
  rcases pn_step v 1000 0 _ s X H hv0 (by omega) (by omega) (by omega) hF hW h with ⟨⟨_, c1⟩, m1, y1, h⟩ | ⟨c1, H1, m1, y1, ⟨f1, w1⟩, h⟩
  · rw [e1] at h
    rcases pn_step v 100 0 _ s X H hv0 (by omega) (by omega) (by omega) hF hW h with ⟨⟨_, c2⟩, m2, y2, h⟩ | ⟨c2, H2, m2, y2, ⟨f2, w2⟩, h⟩
    · rw [e2] at h
      rcases pn_step v 10 0 _ s X H hv0 (by omega) (by omega) (by omega) hF hW h with ⟨⟨_, c3⟩, m3, y3, h⟩ | ⟨c3, H3, m3, y3, ⟨f3, w3⟩, h⟩
      · rw [e3] at h
        rcases pn_step v 1 0 _ s X H hv0 (by omega) (by omega) (by omega) hF hW h with ⟨⟨_, c4⟩, m4, y4, h⟩ | ⟨c4, H4, m4, y4, ⟨f4, w4⟩, h⟩
        · omega
        · rw [e4] at h
          exact fin _ _ _ _ _ (by rw [vd]; unfold nmF; rw [if_neg (by omega)]) f4 w4 h
      · rw [e3] at h
        rcases pn_step v 1 1 _ _ X H3 hv0 (by omega) (by omega) (by rw [pl]; omega) f3 w3 h with ⟨⟨c4, _⟩, _⟩ | ⟨c4, H4, m4, y4, ⟨f4, w4⟩, h⟩
        · omega
        · rw [e4] at h
          exact fin _ _ _ _ _ (by rw [vd]; unfold nmF; rw [if_pos (by omega), if_neg (by omega)]) f4 w4 h
    · rw [e2] at h
      rcases pn_step v 10 1 _ _ X H2 hv0 (by omega) (by omega) (by rw [pl]; omega) f2 w2 h with ⟨⟨c3, _⟩, _⟩ | ⟨c3, H3, m3, y3, ⟨f3, w3⟩, h⟩
      · omega
      · rw [e3] at h
        rcases pn_step v 1 1 _ _ X H3 hv0 (by omega) (by omega) (by rw [pl, pl]; omega) f3 w3 h with ⟨⟨c4, _⟩, _⟩ | ⟨c4, H4, m4, y4, ⟨f4, w4⟩, h⟩
        · omega
        · rw [e4] at h
          exact fin _ _ _ _ _ (by rw [vd]; unfold nmF; rw [if_pos (by omega), if_pos (by omega), if_neg (by omega)]) f4 w4 h
  · rw [e1] at h
    rcases pn_step v 100 1 _ _ X H1 hv0 (by omega) (by omega) (by rw [pl]; omega) f1 w1 h with ⟨⟨c2, _⟩, _⟩ | ⟨c2, H2, m2, y2, ⟨f2, w2⟩, h⟩
    · omega
    · rw [e2] at h
      rcases pn_step v 10 1 _ _ X H2 hv0 (by omega) (by omega) (by rw [pl, pl]; omega) f2 w2 h with ⟨⟨c3, _⟩, _⟩ | ⟨c3, H3, m3, y3, ⟨f3, w3⟩, h⟩
      · omega
      · rw [e3] at h
        rcases pn_step v 1 1 _ _ X H3 hv0 (by omega) (by omega) (by rw [pl, pl, pl]; omega) f3 w3 h with ⟨⟨c4, _⟩, _⟩ | ⟨c4, H4, m4, y4, ⟨f4, w4⟩, h⟩
        · omega
        · rw [e4] at h
          exact fin _ _ _ _ _ (by rw [vd]; unfold nmF; rw [if_pos (by omega), if_pos (by omega), if_pos (by omega)]) f4 w4 h
/-! a bill, all bills -/
set_option maxRecDepth 100000 in
theorem lp_cwm (b m len : Int) (f : Int → Int) (X : PH) (hb : 0 ≤ b ∧ b < 12) (vm : VM m len f) {E : xE} {res : xR} : ∀ (n : Nat) (i : Int) (s : wS) (H : PH), 0 ≤ i → i ≤ len → (0 ≤ s.1 ∧ s.1 + (len - i) < 240) → X (57 + 3 * b) 0 = m → FRW X H → WC s H → RUN E res n kd_X11_write (zget kd_X11_write 36) 36 [0, b, 57 + 3 * b, i] [] H → ∃ (H' : PH) (y : Int), FRW X H' ∧ WC (mkF f (len - i).toNat i s) H' ∧ xJ E res n kd_X11_write 68 [0, b, 57 + 3 * b, y] [] H' := by
  have sz := vm.1
  have g0 := (KB_f (KB_of hb.1 hb.2)).2.2.1
  intro n
  induction n using Nat.strongRecOn with
  | _ n ih =>
    intro i s H i0 i1 s0 em hF hW h
    have eb : H (57 + 3 * b) 0 = m := by rw [hF.1 _ (by omega) (by omega)]; exact em
    have z1 : zw (i + 1) = i + 1 := zw_lit (by have := vm.2.1; omega) (by have := vm.2.1; omega)
    by_cases c : i < len
    · have c' : ¬ len ≤ i := by omega
      obtain ⟨o1, o2, o3⟩ := vm.2.2.1 i i0 c
      have oc := oc_eq ⟨o1, o2⟩
      rw [show (len - i).toNat = (len - (i + 1)).toNat + 1 by omega]
      unfold mkF
      have p := sp_X11_put (f i) s X H (by omega) hF hW
      rw [o3] at p
      have h := xw_top (hd := [36, 68]) 7 xD6_ok xc_X11_write xa_X11_write (t := 36) rfl h
      simp (maxDischargeDepth := 12) -implicitDefEqProofs [vb_X11_write_0, vb_X11_write_7, vb_X11_write_36, vb_X11_write_68, vb_X11_write_108, xI_0, xI_1, xI_3, xI_4, xI_6, xI_7, xI_8, xI_36, xI_46, xI_49, xI_50, xI_53, xI_60, xI_61, xI_62, xw_X11_write_0, xw_X11_write_7, xw_X11_write_36, xw_X11_write_68, xw_X11_write_108, zw_lit, xB_c, xB_s, xB_n, i1_c, j2_c, k1_c, jJ_e, xlg, xls, xla, xpd, ppush, zw_m1, zw_m2, zw_m3, gf_0_0, gf_0_1, gf_0_2, gf_1_1, gf_1_2, gf_11_0, gf_11_10, pf_11_10, tg_0_0, tg_0_1, tg_0_2, tg_11_0, tg_11_10, tg_1_1, tg_1_2, gv_1_1, gv_1_2, gv_0_0, gv_0_10, xD1, xD2, xD3, xD4, xD5, xD6, xb1_0, g0, eb, sz, c, c', oc] at h
      obtain ⟨r, H1, ⟨rfl, f1, w1⟩, g⟩ := xc_use h p
      simp (maxDischargeDepth := 12) -implicitDefEqProofs [vb_X11_write_0, vb_X11_write_7, vb_X11_write_36, vb_X11_write_68, vb_X11_write_108, xI_0, xI_1, xI_3, xI_4, xI_6, xI_7, xI_8, xI_36, xI_46, xI_49, xI_50, xI_53, xI_60, xI_61, xI_62, xw_X11_write_0, xw_X11_write_7, xw_X11_write_36, xw_X11_write_68, xw_X11_write_108, zw_lit, xB_c, xB_s, xB_n, i1_c, j2_c, k1_c, jJ_e, xlg, xls, xla, xpd, ppush, zw_m1, zw_m2, zw_m3, gf_0_0, gf_0_1, gf_0_2, gf_1_1, gf_1_2, gf_11_0, gf_11_10, pf_11_10, tg_0_0, tg_0_1, tg_0_2, tg_11_0, tg_11_10, tg_1_1, tg_1_2, gv_1_1, gv_1_2, gv_0_0, gv_0_10, xD1, xD2, xD3, xD4, xD5, xD6, xb1_0, z1] at g
      obtain ⟨k, hk, g⟩ := g
      obtain ⟨H', y, k1, k2, k3⟩ := ih k hk (i + 1) _ H1 (by omega) (by omega) (by show 0 ≤ s.1 + 1 ∧ s.1 + 1 + (len - (i + 1)) < 240; omega) em f1 w1 g
      exact ⟨H', y, k1, by rw [o3]; exact k2, xJ_up k3 (by omega)⟩
    · have c' : len ≤ i := by omega
      rw [show (len - i).toNat = 0 by omega]
      have h := xw_top (hd := [36, 68]) 7 xD6_ok xc_X11_write xa_X11_write (t := 36) rfl h
      simp (maxDischargeDepth := 12) -implicitDefEqProofs [vb_X11_write_0, vb_X11_write_7, vb_X11_write_36, vb_X11_write_68, vb_X11_write_108, xI_0, xI_1, xI_3, xI_4, xI_6, xI_7, xI_8, xI_36, xI_46, xI_49, xI_50, xI_53, xI_60, xI_61, xI_62, xw_X11_write_0, xw_X11_write_7, xw_X11_write_36, xw_X11_write_68, xw_X11_write_108, zw_lit, xB_c, xB_s, xB_n, i1_c, j2_c, k1_c, jJ_e, xlg, xls, xla, xpd, ppush, zw_m1, zw_m2, zw_m3, gf_0_0, gf_0_1, gf_0_2, gf_1_1, gf_1_2, gf_11_0, gf_11_10, pf_11_10, tg_0_0, tg_0_1, tg_0_2, tg_11_0, tg_11_10, tg_1_1, tg_1_2, gv_1_1, gv_1_2, gv_0_0, gv_0_10, xD1, xD2, xD3, xD4, xD5, xD6, xb1_0, g0, eb, sz, c, c'] at h
      exact ⟨H, _, hF, hW, h⟩
set_option maxRecDepth 100000 in
theorem lp_cwt (A : Int → Int) (X : PH) (hB : MB A) (hX : OKX A) (ci : CI X A) {E : xE} {res : xR} : ∀ (n : Nat) (b y z : Int) (s : wS) (H : PH), 0 ≤ b → b ≤ A 0 → (0 ≤ s.1 ∧ s.1 ≤ 20 * b) → FRW X H → WC s H → RUN E res n kd_X11_write (zget kd_X11_write 7) 7 [0, b, y, z] [] H → ∃ H' : PH, FRW X H' ∧ WC (wtF A (A 0 - b).toNat b s) H' ∧ REPR E res (some (0, (wtF A (A 0 - b).toNat b s).1)) H' := by
  have a0 := hB.1
  intro n
  induction n using Nat.strongRecOn with
  | _ n ih =>
    intro b y z s H b0 b1 s0 hF hW h
    have e2 : H 1 2 = A 0 := by rw [hF.1 1 (by decide) (by decide)]; exact ci.1.1.1.symm
    have z1 : zw (b + 1) = b + 1 := zw_lit (by omega) (by omega)
    by_cases c : b < A 0
    · have c' : ¬ A 0 ≤ b := by omega
      have g46 : gv H 46 b = 57 + 3 * b := gv46 b0 (by omega)
      have kf := KB_f (KB_of (b := b) b0 (by omega))
      have g1 := kf.2.2.2.1
      have g2 := kf.2.2.2.2.1
      obtain ⟨t1, t2, t3, t4, t5, t6, t7⟩ := ci.1.2.1 b b0 c
      have ox := hX.1 b b0 c
      have hl := hB.2.2.2.1 b b0 (by omega)
      rw [show (A 0 - b).toNat = (A 0 - (b + 1)).toNat + 1 by omega]
      unfold wtF
      have h := xw_top (hd := [7, 36]) 7 xD6_ok xc_X11_write xa_X11_write (t := 7) rfl h
      simp (maxDischargeDepth := 12) -implicitDefEqProofs [vb_X11_write_0, vb_X11_write_7, vb_X11_write_36, vb_X11_write_68, vb_X11_write_108, xI_0, xI_1, xI_3, xI_4, xI_6, xI_7, xI_8, xI_36, xI_46, xI_49, xI_50, xI_53, xI_60, xI_61, xI_62, xw_X11_write_0, xw_X11_write_7, xw_X11_write_36, xw_X11_write_68, xw_X11_write_108, zw_lit, xB_c, xB_s, xB_n, i1_c, j2_c, k1_c, jJ_e, xlg, xls, xla, xpd, ppush, zw_m1, zw_m2, zw_m3, gf_0_0, gf_0_1, gf_0_2, gf_1_1, gf_1_2, gf_11_0, gf_11_10, pf_11_10, tg_0_0, tg_0_1, tg_0_2, tg_11_0, tg_11_10, tg_1_1, tg_1_2, gv_1_1, gv_1_2, gv_0_0, gv_0_10, xD1, xD2, xD3, xD4, xD5, xD6, xb1_0, e2, c, c', g46] at h
      obtain ⟨r, H1, ⟨rfl, f1, w1⟩, g⟩ := xc_use h (sp_X11_put 98 s X H (by omega) hF hW)
      simp (maxDischargeDepth := 12) -implicitDefEqProofs [vb_X11_write_0, vb_X11_write_7, vb_X11_write_36, vb_X11_write_68, vb_X11_write_108, xI_0, xI_1, xI_3, xI_4, xI_6, xI_7, xI_8, xI_36, xI_46, xI_49, xI_50, xI_53, xI_60, xI_61, xI_62, xw_X11_write_0, xw_X11_write_7, xw_X11_write_36, xw_X11_write_68, xw_X11_write_108, zw_lit, xB_c, xB_s, xB_n, i1_c, j2_c, k1_c, jJ_e, xlg, xls, xla, xpd, ppush, zw_m1, zw_m2, zw_m3, gf_0_0, gf_0_1, gf_0_2, gf_1_1, gf_1_2, gf_11_0, gf_11_10, pf_11_10, tg_0_0, tg_0_1, tg_0_2, tg_11_0, tg_11_10, tg_1_1, tg_1_2, gv_1_1, gv_1_2, gv_0_0, gv_0_10, xD1, xD2, xD3, xD4, xD5, xD6, xb1_0] at g
      obtain ⟨m1, hm1, g⟩ := g
      obtain ⟨H2, y2, f2, w2, m2, hm2, g⟩ := lp_cwm b _ _ _ X ⟨b0, by omega⟩ t1 m1 0 _ H1 (by omega) hl.1 (by show 0 ≤ s.1 + 1 ∧ s.1 + 1 + (A (92 + 26 * b) - 0) < 240; omega) rfl f1 w1 g
      rw [Int.sub_zero] at w2
      have ml := mkF_len (fun i => A (92 + 26 * b + 1 + i)) (A (92 + 26 * b)).toNat 0 (psh 98 s)
      have m0 : (psh 98 s).1 = s.1 + 1 := rfl
      have q1 : ∀ Y : PH, FRW X Y → Y (57 + 3 * b) 1 = A (92 + 26 * b + 9) := fun Y f => by rw [f.1 _ (by omega) (by omega)]; exact t2.symm
      have q2 : ∀ Y : PH, FRW X Y → Y (57 + 3 * b) 2 = A (92 + 26 * b + 10) := fun Y f => by rw [f.1 _ (by omega) (by omega)]; exact t3.symm
      have wl := wbF_len (A := A) (b := b) (s := s) hl
      have g := xw_top (hd := [7, 68]) 7 xD6_ok xc_X11_write xa_X11_write (t := 68) rfl g
      simp (maxDischargeDepth := 12) -implicitDefEqProofs [vb_X11_write_0, vb_X11_write_7, vb_X11_write_36, vb_X11_write_68, vb_X11_write_108, xI_0, xI_1, xI_3, xI_4, xI_6, xI_7, xI_8, xI_36, xI_46, xI_49, xI_50, xI_53, xI_60, xI_61, xI_62, xw_X11_write_0, xw_X11_write_7, xw_X11_write_36, xw_X11_write_68, xw_X11_write_108, zw_lit, xB_c, xB_s, xB_n, i1_c, j2_c, k1_c, jJ_e, xlg, xls, xla, xpd, ppush, zw_m1, zw_m2, zw_m3, gf_0_0, gf_0_1, gf_0_2, gf_1_1, gf_1_2, gf_11_0, gf_11_10, pf_11_10, tg_0_0, tg_0_1, tg_0_2, tg_11_0, tg_11_10, tg_1_1, tg_1_2, gv_1_1, gv_1_2, gv_0_0, gv_0_10, xD1, xD2, xD3, xD4, xD5, xD6, xb1_0] at g
      obtain ⟨r, H3, ⟨rfl, f3, w3⟩, g⟩ := xc_use g (sp_X11_put 58 _ X H2 (by omega) f2 w2)
      have v1 := q1 H3 f3
      simp (maxDischargeDepth := 12) -implicitDefEqProofs [vb_X11_write_0, vb_X11_write_7, vb_X11_write_36, vb_X11_write_68, vb_X11_write_108, xI_0, xI_1, xI_3, xI_4, xI_6, xI_7, xI_8, xI_36, xI_46, xI_49, xI_50, xI_53, xI_60, xI_61, xI_62, xw_X11_write_0, xw_X11_write_7, xw_X11_write_36, xw_X11_write_68, xw_X11_write_108, zw_lit, xB_c, xB_s, xB_n, i1_c, j2_c, k1_c, jJ_e, xlg, xls, xla, xpd, ppush, zw_m1, zw_m2, zw_m3, gf_0_0, gf_0_1, gf_0_2, gf_1_1, gf_1_2, gf_11_0, gf_11_10, pf_11_10, tg_0_0, tg_0_1, tg_0_2, tg_11_0, tg_11_10, tg_1_1, tg_1_2, gv_1_1, gv_1_2, gv_0_0, gv_0_10, xD1, xD2, xD3, xD4, xD5, xD6, xb1_0, g1, v1] at g
      have l3 : (psh 58 (mkF (fun i => A (92 + 26 * b + 1 + i)) (A (92 + 26 * b)).toNat 0 (psh 98 s))).1 = (mkF (fun i => A (92 + 26 * b + 1 + i)) (A (92 + 26 * b)).toNat 0 (psh 98 s)).1 + 1 := rfl
      obtain ⟨r, H4, ⟨rfl, f4, w4⟩, g⟩ := xc_use g (sp_X11_putNumber _ _ X H3 (by omega) (by omega) f3 w3)
      have l4 := nmF_len (A (92 + 26 * b + 9)) (psh 58 (mkF (fun i => A (92 + 26 * b + 1 + i)) (A (92 + 26 * b)).toNat 0 (psh 98 s)))
      simp (maxDischargeDepth := 12) -implicitDefEqProofs [vb_X11_write_0, vb_X11_write_7, vb_X11_write_36, vb_X11_write_68, vb_X11_write_108, xI_0, xI_1, xI_3, xI_4, xI_6, xI_7, xI_8, xI_36, xI_46, xI_49, xI_50, xI_53, xI_60, xI_61, xI_62, xw_X11_write_0, xw_X11_write_7, xw_X11_write_36, xw_X11_write_68, xw_X11_write_108, zw_lit, xB_c, xB_s, xB_n, i1_c, j2_c, k1_c, jJ_e, xlg, xls, xla, xpd, ppush, zw_m1, zw_m2, zw_m3, gf_0_0, gf_0_1, gf_0_2, gf_1_1, gf_1_2, gf_11_0, gf_11_10, pf_11_10, tg_0_0, tg_0_1, tg_0_2, tg_11_0, tg_11_10, tg_1_1, tg_1_2, gv_1_1, gv_1_2, gv_0_0, gv_0_10, xD1, xD2, xD3, xD4, xD5, xD6, xb1_0] at g
      obtain ⟨r, H5, ⟨rfl, f5, w5⟩, g⟩ := xc_use g (sp_X11_put 42 _ X H4 (by omega) f4 w4)
      have v2 := q2 H5 f5
      have l5 : (psh 42 (nmF (A (92 + 26 * b + 9)) (psh 58 (mkF (fun i => A (92 + 26 * b + 1 + i)) (A (92 + 26 * b)).toNat 0 (psh 98 s))))).1 = (nmF (A (92 + 26 * b + 9)) (psh 58 (mkF (fun i => A (92 + 26 * b + 1 + i)) (A (92 + 26 * b)).toNat 0 (psh 98 s)))).1 + 1 := rfl
      simp (maxDischargeDepth := 12) -implicitDefEqProofs [vb_X11_write_0, vb_X11_write_7, vb_X11_write_36, vb_X11_write_68, vb_X11_write_108, xI_0, xI_1, xI_3, xI_4, xI_6, xI_7, xI_8, xI_36, xI_46, xI_49, xI_50, xI_53, xI_60, xI_61, xI_62, xw_X11_write_0, xw_X11_write_7, xw_X11_write_36, xw_X11_write_68, xw_X11_write_108, zw_lit, xB_c, xB_s, xB_n, i1_c, j2_c, k1_c, jJ_e, xlg, xls, xla, xpd, ppush, zw_m1, zw_m2, zw_m3, gf_0_0, gf_0_1, gf_0_2, gf_1_1, gf_1_2, gf_11_0, gf_11_10, pf_11_10, tg_0_0, tg_0_1, tg_0_2, tg_11_0, tg_11_10, tg_1_1, tg_1_2, gv_1_1, gv_1_2, gv_0_0, gv_0_10, xD1, xD2, xD3, xD4, xD5, xD6, xb1_0, g2, v2] at g
      obtain ⟨r, H6, ⟨rfl, f6, w6⟩, g⟩ := xc_use g (sp_X11_putNumber _ _ X H5 (by omega) (by omega) f5 w5)
      have l6 := nmF_len (A (92 + 26 * b + 10)) (psh 42 (nmF (A (92 + 26 * b + 9)) (psh 58 (mkF (fun i => A (92 + 26 * b + 1 + i)) (A (92 + 26 * b)).toNat 0 (psh 98 s)))))
      simp (maxDischargeDepth := 12) -implicitDefEqProofs [vb_X11_write_0, vb_X11_write_7, vb_X11_write_36, vb_X11_write_68, vb_X11_write_108, xI_0, xI_1, xI_3, xI_4, xI_6, xI_7, xI_8, xI_36, xI_46, xI_49, xI_50, xI_53, xI_60, xI_61, xI_62, xw_X11_write_0, xw_X11_write_7, xw_X11_write_36, xw_X11_write_68, xw_X11_write_108, zw_lit, xB_c, xB_s, xB_n, i1_c, j2_c, k1_c, jJ_e, xlg, xls, xla, xpd, ppush, zw_m1, zw_m2, zw_m3, gf_0_0, gf_0_1, gf_0_2, gf_1_1, gf_1_2, gf_11_0, gf_11_10, pf_11_10, tg_0_0, tg_0_1, tg_0_2, tg_11_0, tg_11_10, tg_1_1, tg_1_2, gv_1_1, gv_1_2, gv_0_0, gv_0_10, xD1, xD2, xD3, xD4, xD5, xD6, xb1_0] at g
      obtain ⟨r, H7, ⟨rfl, f7, w7⟩, g⟩ := xc_use g (sp_X11_put 59 _ X H6 (by omega) f6 w6)
      simp (maxDischargeDepth := 12) -implicitDefEqProofs [vb_X11_write_0, vb_X11_write_7, vb_X11_write_36, vb_X11_write_68, vb_X11_write_108, xI_0, xI_1, xI_3, xI_4, xI_6, xI_7, xI_8, xI_36, xI_46, xI_49, xI_50, xI_53, xI_60, xI_61, xI_62, xw_X11_write_0, xw_X11_write_7, xw_X11_write_36, xw_X11_write_68, xw_X11_write_108, zw_lit, xB_c, xB_s, xB_n, i1_c, j2_c, k1_c, jJ_e, xlg, xls, xla, xpd, ppush, zw_m1, zw_m2, zw_m3, gf_0_0, gf_0_1, gf_0_2, gf_1_1, gf_1_2, gf_11_0, gf_11_10, pf_11_10, tg_0_0, tg_0_1, tg_0_2, tg_11_0, tg_11_10, tg_1_1, tg_1_2, gv_1_1, gv_1_2, gv_0_0, gv_0_10, xD1, xD2, xD3, xD4, xD5, xD6, xb1_0, z1] at g
      obtain ⟨m3, hm3, g⟩ := g
      exact ih m3 (by omega) (b + 1) _ _ (wbF A b s) H7 (by omega) (by omega) (by omega) f7 w7 g
    · have c' : A 0 ≤ b := by omega
      rw [show (A 0 - b).toNat = 0 by omega]
      have ew := hW.1
      have h := xw_top (hd := [7, 36]) 7 xD6_ok xc_X11_write xa_X11_write (t := 7) rfl h
      simp (maxDischargeDepth := 12) -implicitDefEqProofs [vb_X11_write_0, vb_X11_write_7, vb_X11_write_36, vb_X11_write_68, vb_X11_write_108, xI_0, xI_1, xI_3, xI_4, xI_6, xI_7, xI_8, xI_36, xI_46, xI_49, xI_50, xI_53, xI_60, xI_61, xI_62, xw_X11_write_0, xw_X11_write_7, xw_X11_write_36, xw_X11_write_68, xw_X11_write_108, zw_lit, xB_c, xB_s, xB_n, i1_c, j2_c, k1_c, jJ_e, xlg, xls, xla, xpd, ppush, zw_m1, zw_m2, zw_m3, gf_0_0, gf_0_1, gf_0_2, gf_1_1, gf_1_2, gf_11_0, gf_11_10, pf_11_10, tg_0_0, tg_0_1, tg_0_2, tg_11_0, tg_11_10, tg_1_1, tg_1_2, gv_1_1, gv_1_2, gv_0_0, gv_0_10, xD1, xD2, xD3, xD4, xD5, xD6, xb1_0, e2, c, c', ew] at h
      exact ⟨H, hF, hW, h⟩
set_option maxRecDepth 100000 in
theorem sp_c_write (A : Int → Int) (H : PH) (hB : MB A) (hX : OKX A) (ci : CI H A) : SPEC 143 [(2, 0)] H (fun r H' => r = some (0, (wtZ A).1) ∧ FRW H H' ∧ WC (wtZ A) H') := by
  intro E n res h
  have h := call_runP 4 vm_X11_write h
  have h := xw_top (hd := [7]) 7 xD6_ok xc_X11_write xa_X11_write (t := 0) rfl h
  simp (maxDischargeDepth := 12) -implicitDefEqProofs [vb_X11_write_0, vb_X11_write_7, vb_X11_write_36, vb_X11_write_68, vb_X11_write_108, xI_0, xI_1, xI_3, xI_4, xI_6, xI_7, xI_8, xI_36, xI_46, xI_49, xI_50, xI_53, xI_60, xI_61, xI_62, xw_X11_write_0, xw_X11_write_7, xw_X11_write_36, xw_X11_write_68, xw_X11_write_108, zw_lit, xB_c, xB_s, xB_n, i1_c, j2_c, k1_c, jJ_e, xlg, xls, xla, xpd, ppush, zw_m1, zw_m2, zw_m3, gf_0_0, gf_0_1, gf_0_2, gf_1_1, gf_1_2, gf_11_0, gf_11_10, pf_11_10, tg_0_0, tg_0_1, tg_0_2, tg_11_0, tg_11_10, tg_1_1, tg_1_2, gv_1_1, gv_1_2, gv_0_0, gv_0_10, xD1, xD2, xD3, xD4, xD5, xD6, xb1_0] at h
  obtain ⟨m, hm, h⟩ := h
  obtain ⟨H', f, w, g⟩ := lp_cwt A H hB hX ci m 0 _ _ (0, fun _ => 0) _ (by omega) hB.1.1 (by decide) ⟨fun c c0 _ => xp_ne c0, fun i hi => by rw [xp_at, if_neg hi]⟩ ⟨by show pup H 0 10 0 0 10 = 0; rw [xp_at, if_pos rfl], fun x x0 x1 => by
    have x1 : x < 0 := x1
    omega⟩ h
  rw [Int.sub_zero] at w g
  exact ⟨_, H', g, rfl, f, w⟩
/-! the model's -/
set_option maxRecDepth 100000 in
theorem sp_X12_writes (c : Int) (s : wS) (X H : PH) (hc : 0 ≤ c ∧ c ≤ 127) (h0 : 0 ≤ s.1 ∧ s.1 < 240) (hF : FRV X H) (hW : WM s H) : SPEC 267 [(2, 590), (0, c)] H (fun r H' => r = none ∧ FRV X H' ∧ WM (psh c s) H') := by
  intro E n res h
  have e := hW.1
  have z1 : zw (s.1 + 1) = s.1 + 1 := zw_lit (by omega) (by omega)
  have k1 := by_id hc.1 hc.2
  have k2 := qb_621 c
  have h := call_runP 2 vm_X12_writes h
  have h := xw_top (hd := []) 3 xD6_ok xc_X12_writes xa_X12_writes (t := 0) rfl h
  simp (maxDischargeDepth := 12) -implicitDefEqProofs [vb_X12_writes_0, xI_0, xI_1, xI_7, xI_14, xI_26, xI_33, xI_49, xI_50, xI_58, xI_65, xw_X12_writes_0, zw_lit, xB_c, xB_s, xB_n, i1_c, j2_c, k1_c, jJ_e, xlg, xls, xla, xpd, ppush, zw_m1, zw_m2, zw_m3, gf_12_50, gf_12_51, pf_12_51, tg_12_50, tg_12_51, gv_590_50, gv_590_51, xD1, xD2, xD3, xD4, xD5, xD6, xb1_0, e, z1, k1, k2, xp_ne] at h
  refine ⟨_, _, h, rfl, ⟨fun d d1 d2 => by rw [xp_ne d1, xp_ne d2]; exact hF.1 d d1 d2, fun i hi => by rw [xp_at, if_neg hi, xp_ne (by decide)]; exact hF.2 i hi⟩, by rw [xp_at, if_pos rfl]; rfl, fun x x0 x1 => ?_⟩
  have x1 : x < s.1 + 1 := x1
  rw [xp_ne (by decide), xp_at]
  show _ = (if x = s.1 then c else s.2 x)
  by_cases q : x = s.1
  · rw [if_pos q, if_pos q]
  · rw [if_neg q, if_neg q]
    exact hW.2 x x0 (by omega)
set_option maxRecDepth 100000 in
theorem sp_X12_writeNumber (v : Int) (s : wS) (X H : PH) (hv : 1 ≤ v ∧ v ≤ 9999) (h0 : 0 ≤ s.1 ∧ s.1 + 4 ≤ 240) (hF : FRV X H) (hW : WM s H) : SPEC 268 [(2, 590), (0, v)] H (fun r H' => r = none ∧ FRV X H' ∧ WM (nmF v s) H') := by
  intro E n res h
  have pl : ∀ (c : Int) (s : wS), (psh c s).1 = s.1 + 1 := fun _ _ => rfl
  have d1 : q2 (· / ·) v 1000 = v / 1000 := q2_div (by omega) (by omega) (by decide) (by decide)
  have d2 : q2 (· / ·) v 100 = v / 100 := q2_div (by omega) (by omega) (by decide) (by decide)
  have d3 : q2 (· / ·) v 10 = v / 10 := q2_div (by omega) (by omega) (by decide) (by decide)
  have d4 : q2 (fun x y => x - x / y * y) (v / 100) 10 = v / 100 % 10 := q2_rem (by omega) (by omega) (by decide) (by decide)
  have d5 : q2 (fun x y => x - x / y * y) (v / 10) 10 = v / 10 % 10 := q2_rem (by omega) (by omega) (by decide) (by decide)
  have d6 : q2 (fun x y => x - x / y * y) v 10 = v % 10 := q2_rem (by omega) (by omega) (by decide) (by decide)
  have z1 : zw (48 + v / 1000) = 48 + v / 1000 % 10 := by rw [show v / 1000 % 10 = v / 1000 by omega]; exact zw_lit (by omega) (by omega)
  have z2 : zw (48 + v / 100 % 10) = 48 + v / 100 % 10 := zw_lit (by omega) (by omega)
  have z3 : zw (48 + v / 10 % 10) = 48 + v / 10 % 10 := zw_lit (by omega) (by omega)
  have z4 : zw (48 + v % 10) = 48 + v % 10 := zw_lit (by omega) (by omega)
  by_cases k4 : 999 < v
  · have a1 : ¬ v ≤ 999 := by omega
    have a2 : ¬ v ≤ 99 := by omega
    have a3 : ¬ v ≤ 9 := by omega
    have b1 : 999 < v := by omega
    have b2 : 99 < v := by omega
    have b3 : 9 < v := by omega
    have h := call_runP 2 vm_X12_writeNumber h
    have h := xw_top (hd := []) 6 xD6_ok xc_X12_writeNumber xa_X12_writeNumber (t := 0) rfl h
    simp (maxDischargeDepth := 12) -implicitDefEqProofs [vb_X12_writeNumber_0, vb_X12_writeNumber_19, vb_X12_writeNumber_39, vb_X12_writeNumber_59, xI_0, xI_1, xI_8, xI_9, xI_14, xI_17, xI_18, xI_48, xI_61, xI_65, xw_X12_writeNumber_0, xw_X12_writeNumber_19, xw_X12_writeNumber_39, xw_X12_writeNumber_59, zw_lit, xB_c, xB_s, xB_n, i1_c, j2_c, k1_c, jJ_e, xlg, xls, xla, xpd, ppush, zw_m1, zw_m2, zw_m3, xD1, xD2, xD3, xD4, xD5, xD6, xb1_0, a1, a2, a3, b1, b2, b3, d1, d2, d3, d4, d5, d6, z1, z2, z3, z4] at h
    obtain ⟨r, H1, ⟨rfl, f1, w1⟩, g⟩ := xc_use h (sp_X12_writes _ _ X H (by omega) (by omega) hF hW)
    try
      simp (maxDischargeDepth := 12) -implicitDefEqProofs [vb_X12_writeNumber_0, vb_X12_writeNumber_19, vb_X12_writeNumber_39, vb_X12_writeNumber_59, xI_0, xI_1, xI_8, xI_9, xI_14, xI_17, xI_18, xI_48, xI_61, xI_65, xw_X12_writeNumber_0, xw_X12_writeNumber_19, xw_X12_writeNumber_39, xw_X12_writeNumber_59, zw_lit, xB_c, xB_s, xB_n, i1_c, j2_c, k1_c, jJ_e, xlg, xls, xla, xpd, ppush, zw_m1, zw_m2, zw_m3, xD1, xD2, xD3, xD4, xD5, xD6, xb1_0, a1, a2, a3, b1, b2, b3, d1, d2, d3, d4, d5, d6, z1, z2, z3, z4] at g
    obtain ⟨r, H2, ⟨rfl, f2, w2⟩, g⟩ := xc_use g (sp_X12_writes _ _ X H1 (by omega) (by rw [pl]; omega) f1 w1)
    try
      simp (maxDischargeDepth := 12) -implicitDefEqProofs [vb_X12_writeNumber_0, vb_X12_writeNumber_19, vb_X12_writeNumber_39, vb_X12_writeNumber_59, xI_0, xI_1, xI_8, xI_9, xI_14, xI_17, xI_18, xI_48, xI_61, xI_65, xw_X12_writeNumber_0, xw_X12_writeNumber_19, xw_X12_writeNumber_39, xw_X12_writeNumber_59, zw_lit, xB_c, xB_s, xB_n, i1_c, j2_c, k1_c, jJ_e, xlg, xls, xla, xpd, ppush, zw_m1, zw_m2, zw_m3, xD1, xD2, xD3, xD4, xD5, xD6, xb1_0, a1, a2, a3, b1, b2, b3, d1, d2, d3, d4, d5, d6, z1, z2, z3, z4] at g
    obtain ⟨r, H3, ⟨rfl, f3, w3⟩, g⟩ := xc_use g (sp_X12_writes _ _ X H2 (by omega) (by rw [pl, pl]; omega) f2 w2)
    try
      simp (maxDischargeDepth := 12) -implicitDefEqProofs [vb_X12_writeNumber_0, vb_X12_writeNumber_19, vb_X12_writeNumber_39, vb_X12_writeNumber_59, xI_0, xI_1, xI_8, xI_9, xI_14, xI_17, xI_18, xI_48, xI_61, xI_65, xw_X12_writeNumber_0, xw_X12_writeNumber_19, xw_X12_writeNumber_39, xw_X12_writeNumber_59, zw_lit, xB_c, xB_s, xB_n, i1_c, j2_c, k1_c, jJ_e, xlg, xls, xla, xpd, ppush, zw_m1, zw_m2, zw_m3, xD1, xD2, xD3, xD4, xD5, xD6, xb1_0, a1, a2, a3, b1, b2, b3, d1, d2, d3, d4, d5, d6, z1, z2, z3, z4] at g
    obtain ⟨r, H4, ⟨rfl, f4, w4⟩, g⟩ := xc_use g (sp_X12_writes _ _ X H3 (by omega) (by rw [pl, pl, pl]; omega) f3 w3)
    try
      simp (maxDischargeDepth := 12) -implicitDefEqProofs [vb_X12_writeNumber_0, vb_X12_writeNumber_19, vb_X12_writeNumber_39, vb_X12_writeNumber_59, xI_0, xI_1, xI_8, xI_9, xI_14, xI_17, xI_18, xI_48, xI_61, xI_65, xw_X12_writeNumber_0, xw_X12_writeNumber_19, xw_X12_writeNumber_39, xw_X12_writeNumber_59, zw_lit, xB_c, xB_s, xB_n, i1_c, j2_c, k1_c, jJ_e, xlg, xls, xla, xpd, ppush, zw_m1, zw_m2, zw_m3, xD1, xD2, xD3, xD4, xD5, xD6, xb1_0, a1, a2, a3, b1, b2, b3, d1, d2, d3, d4, d5, d6, z1, z2, z3, z4] at g
    exact ⟨_, _, g, rfl, f4, by unfold nmF; rw [if_pos (by omega), if_pos (by omega), if_pos (by omega)]; exact w4⟩
  by_cases k3 : 99 < v
  · have a1 : v ≤ 999 := by omega
    have a2 : ¬ v ≤ 99 := by omega
    have a3 : ¬ v ≤ 9 := by omega
    have b1 : ¬ 999 < v := by omega
    have b2 : 99 < v := by omega
    have b3 : 9 < v := by omega
    have h := call_runP 2 vm_X12_writeNumber h
    have h := xw_top (hd := []) 6 xD6_ok xc_X12_writeNumber xa_X12_writeNumber (t := 0) rfl h
    simp (maxDischargeDepth := 12) -implicitDefEqProofs [vb_X12_writeNumber_0, vb_X12_writeNumber_19, vb_X12_writeNumber_39, vb_X12_writeNumber_59, xI_0, xI_1, xI_8, xI_9, xI_14, xI_17, xI_18, xI_48, xI_61, xI_65, xw_X12_writeNumber_0, xw_X12_writeNumber_19, xw_X12_writeNumber_39, xw_X12_writeNumber_59, zw_lit, xB_c, xB_s, xB_n, i1_c, j2_c, k1_c, jJ_e, xlg, xls, xla, xpd, ppush, zw_m1, zw_m2, zw_m3, xD1, xD2, xD3, xD4, xD5, xD6, xb1_0, a1, a2, a3, b1, b2, b3, d1, d2, d3, d4, d5, d6, z1, z2, z3, z4] at h
    obtain ⟨r, H1, ⟨rfl, f1, w1⟩, g⟩ := xc_use h (sp_X12_writes _ _ X H (by omega) (by omega) hF hW)
    try
      simp (maxDischargeDepth := 12) -implicitDefEqProofs [vb_X12_writeNumber_0, vb_X12_writeNumber_19, vb_X12_writeNumber_39, vb_X12_writeNumber_59, xI_0, xI_1, xI_8, xI_9, xI_14, xI_17, xI_18, xI_48, xI_61, xI_65, xw_X12_writeNumber_0, xw_X12_writeNumber_19, xw_X12_writeNumber_39, xw_X12_writeNumber_59, zw_lit, xB_c, xB_s, xB_n, i1_c, j2_c, k1_c, jJ_e, xlg, xls, xla, xpd, ppush, zw_m1, zw_m2, zw_m3, xD1, xD2, xD3, xD4, xD5, xD6, xb1_0, a1, a2, a3, b1, b2, b3, d1, d2, d3, d4, d5, d6, z1, z2, z3, z4] at g
    obtain ⟨r, H2, ⟨rfl, f2, w2⟩, g⟩ := xc_use g (sp_X12_writes _ _ X H1 (by omega) (by rw [pl]; omega) f1 w1)
    try
      simp (maxDischargeDepth := 12) -implicitDefEqProofs [vb_X12_writeNumber_0, vb_X12_writeNumber_19, vb_X12_writeNumber_39, vb_X12_writeNumber_59, xI_0, xI_1, xI_8, xI_9, xI_14, xI_17, xI_18, xI_48, xI_61, xI_65, xw_X12_writeNumber_0, xw_X12_writeNumber_19, xw_X12_writeNumber_39, xw_X12_writeNumber_59, zw_lit, xB_c, xB_s, xB_n, i1_c, j2_c, k1_c, jJ_e, xlg, xls, xla, xpd, ppush, zw_m1, zw_m2, zw_m3, xD1, xD2, xD3, xD4, xD5, xD6, xb1_0, a1, a2, a3, b1, b2, b3, d1, d2, d3, d4, d5, d6, z1, z2, z3, z4] at g
    obtain ⟨r, H3, ⟨rfl, f3, w3⟩, g⟩ := xc_use g (sp_X12_writes _ _ X H2 (by omega) (by rw [pl, pl]; omega) f2 w2)
    try
      simp (maxDischargeDepth := 12) -implicitDefEqProofs [vb_X12_writeNumber_0, vb_X12_writeNumber_19, vb_X12_writeNumber_39, vb_X12_writeNumber_59, xI_0, xI_1, xI_8, xI_9, xI_14, xI_17, xI_18, xI_48, xI_61, xI_65, xw_X12_writeNumber_0, xw_X12_writeNumber_19, xw_X12_writeNumber_39, xw_X12_writeNumber_59, zw_lit, xB_c, xB_s, xB_n, i1_c, j2_c, k1_c, jJ_e, xlg, xls, xla, xpd, ppush, zw_m1, zw_m2, zw_m3, xD1, xD2, xD3, xD4, xD5, xD6, xb1_0, a1, a2, a3, b1, b2, b3, d1, d2, d3, d4, d5, d6, z1, z2, z3, z4] at g
    exact ⟨_, _, g, rfl, f3, by unfold nmF; rw [if_pos (by omega), if_pos (by omega), if_neg (by omega)]; exact w3⟩
  by_cases k2 : 9 < v
  · have a1 : v ≤ 999 := by omega
    have a2 : v ≤ 99 := by omega
    have a3 : ¬ v ≤ 9 := by omega
    have b1 : ¬ 999 < v := by omega
    have b2 : ¬ 99 < v := by omega
    have b3 : 9 < v := by omega
    have h := call_runP 2 vm_X12_writeNumber h
    have h := xw_top (hd := []) 6 xD6_ok xc_X12_writeNumber xa_X12_writeNumber (t := 0) rfl h
    simp (maxDischargeDepth := 12) -implicitDefEqProofs [vb_X12_writeNumber_0, vb_X12_writeNumber_19, vb_X12_writeNumber_39, vb_X12_writeNumber_59, xI_0, xI_1, xI_8, xI_9, xI_14, xI_17, xI_18, xI_48, xI_61, xI_65, xw_X12_writeNumber_0, xw_X12_writeNumber_19, xw_X12_writeNumber_39, xw_X12_writeNumber_59, zw_lit, xB_c, xB_s, xB_n, i1_c, j2_c, k1_c, jJ_e, xlg, xls, xla, xpd, ppush, zw_m1, zw_m2, zw_m3, xD1, xD2, xD3, xD4, xD5, xD6, xb1_0, a1, a2, a3, b1, b2, b3, d1, d2, d3, d4, d5, d6, z1, z2, z3, z4] at h
    obtain ⟨r, H1, ⟨rfl, f1, w1⟩, g⟩ := xc_use h (sp_X12_writes _ _ X H (by omega) (by omega) hF hW)
    try
      simp (maxDischargeDepth := 12) -implicitDefEqProofs [vb_X12_writeNumber_0, vb_X12_writeNumber_19, vb_X12_writeNumber_39, vb_X12_writeNumber_59, xI_0, xI_1, xI_8, xI_9, xI_14, xI_17, xI_18, xI_48, xI_61, xI_65, xw_X12_writeNumber_0, xw_X12_writeNumber_19, xw_X12_writeNumber_39, xw_X12_writeNumber_59, zw_lit, xB_c, xB_s, xB_n, i1_c, j2_c, k1_c, jJ_e, xlg, xls, xla, xpd, ppush, zw_m1, zw_m2, zw_m3, xD1, xD2, xD3, xD4, xD5, xD6, xb1_0, a1, a2, a3, b1, b2, b3, d1, d2, d3, d4, d5, d6, z1, z2, z3, z4] at g
    obtain ⟨r, H2, ⟨rfl, f2, w2⟩, g⟩ := xc_use g (sp_X12_writes _ _ X H1 (by omega) (by rw [pl]; omega) f1 w1)
    try
      simp (maxDischargeDepth := 12) -implicitDefEqProofs [vb_X12_writeNumber_0, vb_X12_writeNumber_19, vb_X12_writeNumber_39, vb_X12_writeNumber_59, xI_0, xI_1, xI_8, xI_9, xI_14, xI_17, xI_18, xI_48, xI_61, xI_65, xw_X12_writeNumber_0, xw_X12_writeNumber_19, xw_X12_writeNumber_39, xw_X12_writeNumber_59, zw_lit, xB_c, xB_s, xB_n, i1_c, j2_c, k1_c, jJ_e, xlg, xls, xla, xpd, ppush, zw_m1, zw_m2, zw_m3, xD1, xD2, xD3, xD4, xD5, xD6, xb1_0, a1, a2, a3, b1, b2, b3, d1, d2, d3, d4, d5, d6, z1, z2, z3, z4] at g
    exact ⟨_, _, g, rfl, f2, by unfold nmF; rw [if_pos (by omega), if_neg (by omega)]; exact w2⟩
  by_cases k1 : 0 < v
  · have a1 : v ≤ 999 := by omega
    have a2 : v ≤ 99 := by omega
    have a3 : v ≤ 9 := by omega
    have b1 : ¬ 999 < v := by omega
    have b2 : ¬ 99 < v := by omega
    have b3 : ¬ 9 < v := by omega
    have h := call_runP 2 vm_X12_writeNumber h
    have h := xw_top (hd := []) 6 xD6_ok xc_X12_writeNumber xa_X12_writeNumber (t := 0) rfl h
    simp (maxDischargeDepth := 12) -implicitDefEqProofs [vb_X12_writeNumber_0, vb_X12_writeNumber_19, vb_X12_writeNumber_39, vb_X12_writeNumber_59, xI_0, xI_1, xI_8, xI_9, xI_14, xI_17, xI_18, xI_48, xI_61, xI_65, xw_X12_writeNumber_0, xw_X12_writeNumber_19, xw_X12_writeNumber_39, xw_X12_writeNumber_59, zw_lit, xB_c, xB_s, xB_n, i1_c, j2_c, k1_c, jJ_e, xlg, xls, xla, xpd, ppush, zw_m1, zw_m2, zw_m3, xD1, xD2, xD3, xD4, xD5, xD6, xb1_0, a1, a2, a3, b1, b2, b3, d1, d2, d3, d4, d5, d6, z1, z2, z3, z4] at h
    obtain ⟨r, H1, ⟨rfl, f1, w1⟩, g⟩ := xc_use h (sp_X12_writes _ _ X H (by omega) (by omega) hF hW)
    try
      simp (maxDischargeDepth := 12) -implicitDefEqProofs [vb_X12_writeNumber_0, vb_X12_writeNumber_19, vb_X12_writeNumber_39, vb_X12_writeNumber_59, xI_0, xI_1, xI_8, xI_9, xI_14, xI_17, xI_18, xI_48, xI_61, xI_65, xw_X12_writeNumber_0, xw_X12_writeNumber_19, xw_X12_writeNumber_39, xw_X12_writeNumber_59, zw_lit, xB_c, xB_s, xB_n, i1_c, j2_c, k1_c, jJ_e, xlg, xls, xla, xpd, ppush, zw_m1, zw_m2, zw_m3, xD1, xD2, xD3, xD4, xD5, xD6, xb1_0, a1, a2, a3, b1, b2, b3, d1, d2, d3, d4, d5, d6, z1, z2, z3, z4] at g
    exact ⟨_, _, g, rfl, f1, by unfold nmF; rw [if_neg (by omega)]; exact w1⟩
  omega
set_option maxRecDepth 100000 in
theorem lp_mwm (A : Int → Int) (b : Int) (X : PH) (hB : MB A) (hb : 0 ≤ b ∧ b < 12) (hA : X 591 = A) (hC : ∀ i, 0 ≤ i → i < A (92 + 26 * b) → 0 ≤ A (92 + 26 * b + 1 + i) ∧ A (92 + 26 * b + 1 + i) ≤ 127) {E : xE} {res : xR} : ∀ (n : Nat) (i : Int) (s : wS) (H : PH), 0 ≤ i → i ≤ A (92 + 26 * b) → (0 ≤ s.1 ∧ s.1 + (A (92 + 26 * b) - i) < 240) → FRV X H → WM s H → RUN E res n kd_X12_write (zget kd_X12_write 30) 30 [590, b, 92 + 26 * b, i] [] H → ∃ (H' : PH) (y : Int), FRV X H' ∧ WM (mkF (fun i => A (92 + 26 * b + 1 + i)) (A (92 + 26 * b) - i).toNat i s) H' ∧ xJ E res n kd_X12_write 62 [590, b, 92 + 26 * b, y] [] H' := by
  have hl := hB.2.2.2.1 b hb.1 hb.2
  intro n
  induction n using Nat.strongRecOn with
  | _ n ih =>
    intro i s H i0 i1 s0 hF hW h
    have eA : H 591 = A := (hF.1 591 (by decide) (by decide)).trans hA
    have z0 : zw (92 + 26 * b) = 92 + 26 * b := zw_lit (by omega) (by omega)
    have z1 : zw (i + 1) = i + 1 := zw_lit (by omega) (by omega)
    have z2 : zw (92 + 26 * b + 1) = 92 + 26 * b + 1 := zw_lit (by omega) (by omega)
    have z3 : zw (92 + 26 * b + 1 + i) = 92 + 26 * b + 1 + i := zw_lit (by omega) (by omega)
    by_cases c : i < A (92 + 26 * b)
    · have c' : ¬ A (92 + 26 * b) ≤ i := by omega
      rw [show (A (92 + 26 * b) - i).toNat = (A (92 + 26 * b) - (i + 1)).toNat + 1 by omega]
      unfold mkF
      have h := xw_top (hd := [30, 62]) 7 xD6_ok xc_X12_write xa_X12_write (t := 30) rfl h
      simp (maxDischargeDepth := 12) -implicitDefEqProofs [vb_X12_write_0, vb_X12_write_7, vb_X12_write_30, vb_X12_write_62, vb_X12_write_112, xI_0, xI_1, xI_3, xI_6, xI_7, xI_8, xI_14, xI_36, xI_46, xI_49, xI_50, xI_51, xI_60, xI_61, xI_62, xw_X12_write_0, xw_X12_write_7, xw_X12_write_30, xw_X12_write_62, xw_X12_write_112, zw_lit, xB_c, xB_s, xB_n, i1_c, j2_c, k1_c, jJ_e, xlg, xls, xla, xpd, ppush, zw_m1, zw_m2, zw_m3, gf_12_0, gf_12_51, pf_12_51, tg_12_0, tg_12_51, gv_590_0, gv_590_51, xD1, xD2, xD3, xD4, xD5, xD6, xb1_0, eA, z0, z2, z3, c, c'] at h
      obtain ⟨r, H1, ⟨rfl, f1, w1⟩, g⟩ := xc_use h (sp_X12_writes _ s X H (hC i i0 c) (by omega) hF hW)
      simp (maxDischargeDepth := 12) -implicitDefEqProofs [vb_X12_write_0, vb_X12_write_7, vb_X12_write_30, vb_X12_write_62, vb_X12_write_112, xI_0, xI_1, xI_3, xI_6, xI_7, xI_8, xI_14, xI_36, xI_46, xI_49, xI_50, xI_51, xI_60, xI_61, xI_62, xw_X12_write_0, xw_X12_write_7, xw_X12_write_30, xw_X12_write_62, xw_X12_write_112, zw_lit, xB_c, xB_s, xB_n, i1_c, j2_c, k1_c, jJ_e, xlg, xls, xla, xpd, ppush, zw_m1, zw_m2, zw_m3, gf_12_0, gf_12_51, pf_12_51, tg_12_0, tg_12_51, gv_590_0, gv_590_51, xD1, xD2, xD3, xD4, xD5, xD6, xb1_0, z1] at g
      obtain ⟨k, hk, g⟩ := g
      obtain ⟨H', y, k1, k2, k3⟩ := ih k hk (i + 1) _ H1 (by omega) (by omega) (by show 0 ≤ s.1 + 1 ∧ s.1 + 1 + (A (92 + 26 * b) - (i + 1)) < 240; omega) f1 w1 g
      exact ⟨H', y, k1, k2, xJ_up k3 (by omega)⟩
    · have c' : A (92 + 26 * b) ≤ i := by omega
      rw [show (A (92 + 26 * b) - i).toNat = 0 by omega]
      have h := xw_top (hd := [30, 62]) 7 xD6_ok xc_X12_write xa_X12_write (t := 30) rfl h
      simp (maxDischargeDepth := 12) -implicitDefEqProofs [vb_X12_write_0, vb_X12_write_7, vb_X12_write_30, vb_X12_write_62, vb_X12_write_112, xI_0, xI_1, xI_3, xI_6, xI_7, xI_8, xI_14, xI_36, xI_46, xI_49, xI_50, xI_51, xI_60, xI_61, xI_62, xw_X12_write_0, xw_X12_write_7, xw_X12_write_30, xw_X12_write_62, xw_X12_write_112, zw_lit, xB_c, xB_s, xB_n, i1_c, j2_c, k1_c, jJ_e, xlg, xls, xla, xpd, ppush, zw_m1, zw_m2, zw_m3, gf_12_0, gf_12_51, pf_12_51, tg_12_0, tg_12_51, gv_590_0, gv_590_51, xD1, xD2, xD3, xD4, xD5, xD6, xb1_0, eA, z0, c, c'] at h
      exact ⟨H, _, hF, hW, h⟩
set_option maxRecDepth 100000 in
theorem lp_mwt (A : Int → Int) (X : PH) (hB : MB A) (hX : OKX A) (hA : X 591 = A) (hC : ∀ b, 0 ≤ b → b < A 0 → ∀ i, 0 ≤ i → i < A (92 + 26 * b) → 0 ≤ A (92 + 26 * b + 1 + i) ∧ A (92 + 26 * b + 1 + i) ≤ 127) {E : xE} {res : xR} : ∀ (n : Nat) (b y z : Int) (s : wS) (H : PH), 0 ≤ b → b ≤ A 0 → (0 ≤ s.1 ∧ s.1 ≤ 20 * b) → FRV X H → WM s H → RUN E res n kd_X12_write (zget kd_X12_write 7) 7 [590, b, y, z] [] H → ∃ H' : PH, FRV X H' ∧ WM (wtF A (A 0 - b).toNat b s) H' ∧ REPR E res (some (0, (wtF A (A 0 - b).toNat b s).1)) H' := by
  have a0 := hB.1
  intro n
  induction n using Nat.strongRecOn with
  | _ n ih =>
    intro b y z s H b0 b1 s0 hF hW h
    have eA : H 591 = A := (hF.1 591 (by decide) (by decide)).trans hA
    have z1 : zw (b + 1) = b + 1 := zw_lit (by omega) (by omega)
    by_cases c : b < A 0
    · have c' : ¬ A 0 ≤ b := by omega
      have y1 : zw (26 * b) = 26 * b := zw_lit (by omega) (by omega)
      have y2 : zw (92 + 26 * b) = 92 + 26 * b := zw_lit (by omega) (by omega)
      have y3 : zw (92 + 26 * b + 9) = 92 + 26 * b + 9 := zw_lit (by omega) (by omega)
      have y4 : zw (92 + 26 * b + 10) = 92 + 26 * b + 10 := zw_lit (by omega) (by omega)
      have ox := hX.1 b b0 c
      have hl := hB.2.2.2.1 b b0 (by omega)
      rw [show (A 0 - b).toNat = (A 0 - (b + 1)).toNat + 1 by omega]
      unfold wtF
      have h := xw_top (hd := [7, 30]) 7 xD6_ok xc_X12_write xa_X12_write (t := 7) rfl h
      simp (maxDischargeDepth := 12) -implicitDefEqProofs [vb_X12_write_0, vb_X12_write_7, vb_X12_write_30, vb_X12_write_62, vb_X12_write_112, xI_0, xI_1, xI_3, xI_6, xI_7, xI_8, xI_14, xI_36, xI_46, xI_49, xI_50, xI_51, xI_60, xI_61, xI_62, xw_X12_write_0, xw_X12_write_7, xw_X12_write_30, xw_X12_write_62, xw_X12_write_112, zw_lit, xB_c, xB_s, xB_n, i1_c, j2_c, k1_c, jJ_e, xlg, xls, xla, xpd, ppush, zw_m1, zw_m2, zw_m3, gf_12_0, gf_12_51, pf_12_51, tg_12_0, tg_12_51, gv_590_0, gv_590_51, xD1, xD2, xD3, xD4, xD5, xD6, xb1_0, eA, c, c', y1, y2] at h
      obtain ⟨r, H1, ⟨rfl, f1, w1⟩, g⟩ := xc_use h (sp_X12_writes 98 s X H (by decide) (by omega) hF hW)
      simp (maxDischargeDepth := 12) -implicitDefEqProofs [vb_X12_write_0, vb_X12_write_7, vb_X12_write_30, vb_X12_write_62, vb_X12_write_112, xI_0, xI_1, xI_3, xI_6, xI_7, xI_8, xI_14, xI_36, xI_46, xI_49, xI_50, xI_51, xI_60, xI_61, xI_62, xw_X12_write_0, xw_X12_write_7, xw_X12_write_30, xw_X12_write_62, xw_X12_write_112, zw_lit, xB_c, xB_s, xB_n, i1_c, j2_c, k1_c, jJ_e, xlg, xls, xla, xpd, ppush, zw_m1, zw_m2, zw_m3, gf_12_0, gf_12_51, pf_12_51, tg_12_0, tg_12_51, gv_590_0, gv_590_51, xD1, xD2, xD3, xD4, xD5, xD6, xb1_0] at g
      obtain ⟨m1, hm1, g⟩ := g
      obtain ⟨H2, y2', f2, w2, m2, hm2, g⟩ := lp_mwm A b X hB ⟨b0, by omega⟩ hA (hC b b0 c) m1 0 _ H1 (by omega) hl.1 (by show 0 ≤ s.1 + 1 ∧ s.1 + 1 + (A (92 + 26 * b) - 0) < 240; omega) f1 w1 g
      rw [Int.sub_zero] at w2
      have ml := mkF_len (fun i => A (92 + 26 * b + 1 + i)) (A (92 + 26 * b)).toNat 0 (psh 98 s)
      have m0 : (psh 98 s).1 = s.1 + 1 := rfl
      have q1 : ∀ Y : PH, FRV X Y → Y 591 = A := fun Y f => (f.1 591 (by decide) (by decide)).trans hA
      have wl := wbF_len (A := A) (b := b) (s := s) hl
      have g := xw_top (hd := [7, 62]) 7 xD6_ok xc_X12_write xa_X12_write (t := 62) rfl g
      simp (maxDischargeDepth := 12) -implicitDefEqProofs [vb_X12_write_0, vb_X12_write_7, vb_X12_write_30, vb_X12_write_62, vb_X12_write_112, xI_0, xI_1, xI_3, xI_6, xI_7, xI_8, xI_14, xI_36, xI_46, xI_49, xI_50, xI_51, xI_60, xI_61, xI_62, xw_X12_write_0, xw_X12_write_7, xw_X12_write_30, xw_X12_write_62, xw_X12_write_112, zw_lit, xB_c, xB_s, xB_n, i1_c, j2_c, k1_c, jJ_e, xlg, xls, xla, xpd, ppush, zw_m1, zw_m2, zw_m3, gf_12_0, gf_12_51, pf_12_51, tg_12_0, tg_12_51, gv_590_0, gv_590_51, xD1, xD2, xD3, xD4, xD5, xD6, xb1_0] at g
      obtain ⟨r, H3, ⟨rfl, f3, w3⟩, g⟩ := xc_use g (sp_X12_writes 58 _ X H2 (by decide) (by omega) f2 w2)
      have v1 := q1 H3 f3
      simp (maxDischargeDepth := 12) -implicitDefEqProofs [vb_X12_write_0, vb_X12_write_7, vb_X12_write_30, vb_X12_write_62, vb_X12_write_112, xI_0, xI_1, xI_3, xI_6, xI_7, xI_8, xI_14, xI_36, xI_46, xI_49, xI_50, xI_51, xI_60, xI_61, xI_62, xw_X12_write_0, xw_X12_write_7, xw_X12_write_30, xw_X12_write_62, xw_X12_write_112, zw_lit, xB_c, xB_s, xB_n, i1_c, j2_c, k1_c, jJ_e, xlg, xls, xla, xpd, ppush, zw_m1, zw_m2, zw_m3, gf_12_0, gf_12_51, pf_12_51, tg_12_0, tg_12_51, gv_590_0, gv_590_51, xD1, xD2, xD3, xD4, xD5, xD6, xb1_0, v1, y3] at g
      have l3 : (psh 58 (mkF (fun i => A (92 + 26 * b + 1 + i)) (A (92 + 26 * b)).toNat 0 (psh 98 s))).1 = (mkF (fun i => A (92 + 26 * b + 1 + i)) (A (92 + 26 * b)).toNat 0 (psh 98 s)).1 + 1 := rfl
      obtain ⟨r, H4, ⟨rfl, f4, w4⟩, g⟩ := xc_use g (sp_X12_writeNumber _ _ X H3 (by omega) (by omega) f3 w3)
      have l4 := nmF_len (A (92 + 26 * b + 9)) (psh 58 (mkF (fun i => A (92 + 26 * b + 1 + i)) (A (92 + 26 * b)).toNat 0 (psh 98 s)))
      simp (maxDischargeDepth := 12) -implicitDefEqProofs [vb_X12_write_0, vb_X12_write_7, vb_X12_write_30, vb_X12_write_62, vb_X12_write_112, xI_0, xI_1, xI_3, xI_6, xI_7, xI_8, xI_14, xI_36, xI_46, xI_49, xI_50, xI_51, xI_60, xI_61, xI_62, xw_X12_write_0, xw_X12_write_7, xw_X12_write_30, xw_X12_write_62, xw_X12_write_112, zw_lit, xB_c, xB_s, xB_n, i1_c, j2_c, k1_c, jJ_e, xlg, xls, xla, xpd, ppush, zw_m1, zw_m2, zw_m3, gf_12_0, gf_12_51, pf_12_51, tg_12_0, tg_12_51, gv_590_0, gv_590_51, xD1, xD2, xD3, xD4, xD5, xD6, xb1_0] at g
      obtain ⟨r, H5, ⟨rfl, f5, w5⟩, g⟩ := xc_use g (sp_X12_writes 42 _ X H4 (by decide) (by omega) f4 w4)
      have v2 := q1 H5 f5
      have l5 : (psh 42 (nmF (A (92 + 26 * b + 9)) (psh 58 (mkF (fun i => A (92 + 26 * b + 1 + i)) (A (92 + 26 * b)).toNat 0 (psh 98 s))))).1 = (nmF (A (92 + 26 * b + 9)) (psh 58 (mkF (fun i => A (92 + 26 * b + 1 + i)) (A (92 + 26 * b)).toNat 0 (psh 98 s)))).1 + 1 := rfl
      simp (maxDischargeDepth := 12) -implicitDefEqProofs [vb_X12_write_0, vb_X12_write_7, vb_X12_write_30, vb_X12_write_62, vb_X12_write_112, xI_0, xI_1, xI_3, xI_6, xI_7, xI_8, xI_14, xI_36, xI_46, xI_49, xI_50, xI_51, xI_60, xI_61, xI_62, xw_X12_write_0, xw_X12_write_7, xw_X12_write_30, xw_X12_write_62, xw_X12_write_112, zw_lit, xB_c, xB_s, xB_n, i1_c, j2_c, k1_c, jJ_e, xlg, xls, xla, xpd, ppush, zw_m1, zw_m2, zw_m3, gf_12_0, gf_12_51, pf_12_51, tg_12_0, tg_12_51, gv_590_0, gv_590_51, xD1, xD2, xD3, xD4, xD5, xD6, xb1_0, v2, y4] at g
      obtain ⟨r, H6, ⟨rfl, f6, w6⟩, g⟩ := xc_use g (sp_X12_writeNumber _ _ X H5 (by omega) (by omega) f5 w5)
      have l6 := nmF_len (A (92 + 26 * b + 10)) (psh 42 (nmF (A (92 + 26 * b + 9)) (psh 58 (mkF (fun i => A (92 + 26 * b + 1 + i)) (A (92 + 26 * b)).toNat 0 (psh 98 s)))))
      simp (maxDischargeDepth := 12) -implicitDefEqProofs [vb_X12_write_0, vb_X12_write_7, vb_X12_write_30, vb_X12_write_62, vb_X12_write_112, xI_0, xI_1, xI_3, xI_6, xI_7, xI_8, xI_14, xI_36, xI_46, xI_49, xI_50, xI_51, xI_60, xI_61, xI_62, xw_X12_write_0, xw_X12_write_7, xw_X12_write_30, xw_X12_write_62, xw_X12_write_112, zw_lit, xB_c, xB_s, xB_n, i1_c, j2_c, k1_c, jJ_e, xlg, xls, xla, xpd, ppush, zw_m1, zw_m2, zw_m3, gf_12_0, gf_12_51, pf_12_51, tg_12_0, tg_12_51, gv_590_0, gv_590_51, xD1, xD2, xD3, xD4, xD5, xD6, xb1_0] at g
      obtain ⟨r, H7, ⟨rfl, f7, w7⟩, g⟩ := xc_use g (sp_X12_writes 59 _ X H6 (by decide) (by omega) f6 w6)
      simp (maxDischargeDepth := 12) -implicitDefEqProofs [vb_X12_write_0, vb_X12_write_7, vb_X12_write_30, vb_X12_write_62, vb_X12_write_112, xI_0, xI_1, xI_3, xI_6, xI_7, xI_8, xI_14, xI_36, xI_46, xI_49, xI_50, xI_51, xI_60, xI_61, xI_62, xw_X12_write_0, xw_X12_write_7, xw_X12_write_30, xw_X12_write_62, xw_X12_write_112, zw_lit, xB_c, xB_s, xB_n, i1_c, j2_c, k1_c, jJ_e, xlg, xls, xla, xpd, ppush, zw_m1, zw_m2, zw_m3, gf_12_0, gf_12_51, pf_12_51, tg_12_0, tg_12_51, gv_590_0, gv_590_51, xD1, xD2, xD3, xD4, xD5, xD6, xb1_0, z1] at g
      obtain ⟨m3, hm3, g⟩ := g
      exact ih m3 (by omega) (b + 1) _ _ (wbF A b s) H7 (by omega) (by omega) (by omega) f7 w7 g
    · have c' : A 0 ≤ b := by omega
      rw [show (A 0 - b).toNat = 0 by omega]
      have ew := hW.1
      have h := xw_top (hd := [7, 30]) 7 xD6_ok xc_X12_write xa_X12_write (t := 7) rfl h
      simp (maxDischargeDepth := 12) -implicitDefEqProofs [vb_X12_write_0, vb_X12_write_7, vb_X12_write_30, vb_X12_write_62, vb_X12_write_112, xI_0, xI_1, xI_3, xI_6, xI_7, xI_8, xI_14, xI_36, xI_46, xI_49, xI_50, xI_51, xI_60, xI_61, xI_62, xw_X12_write_0, xw_X12_write_7, xw_X12_write_30, xw_X12_write_62, xw_X12_write_112, zw_lit, xB_c, xB_s, xB_n, i1_c, j2_c, k1_c, jJ_e, xlg, xls, xla, xpd, ppush, zw_m1, zw_m2, zw_m3, gf_12_0, gf_12_51, pf_12_51, tg_12_0, tg_12_51, gv_590_0, gv_590_51, xD1, xD2, xD3, xD4, xD5, xD6, xb1_0, eA, c, c', ew] at h
      exact ⟨H, hF, hW, h⟩
set_option maxRecDepth 100000 in
theorem sp_m_write (A : Int → Int) (H : PH) (hA : H 591 = A) (hB : MB A) (hX : OKX A) (hC : ∀ b, 0 ≤ b → b < A 0 → ∀ i, 0 ≤ i → i < A (92 + 26 * b) → 0 ≤ A (92 + 26 * b + 1 + i) ∧ A (92 + 26 * b + 1 + i) ≤ 127) : SPEC 269 [(2, 590)] H (fun r H' => r = some (0, (wtZ A).1) ∧ FRV H H' ∧ WM (wtZ A) H') := by
  intro E n res h
  have h := call_runP 4 vm_X12_write h
  have h := xw_top (hd := [7]) 7 xD6_ok xc_X12_write xa_X12_write (t := 0) rfl h
  simp (maxDischargeDepth := 12) -implicitDefEqProofs [vb_X12_write_0, vb_X12_write_7, vb_X12_write_30, vb_X12_write_62, vb_X12_write_112, xI_0, xI_1, xI_3, xI_6, xI_7, xI_8, xI_14, xI_36, xI_46, xI_49, xI_50, xI_51, xI_60, xI_61, xI_62, xw_X12_write_0, xw_X12_write_7, xw_X12_write_30, xw_X12_write_62, xw_X12_write_112, zw_lit, xB_c, xB_s, xB_n, i1_c, j2_c, k1_c, jJ_e, xlg, xls, xla, xpd, ppush, zw_m1, zw_m2, zw_m3, gf_12_0, gf_12_51, pf_12_51, tg_12_0, tg_12_51, gv_590_0, gv_590_51, xD1, xD2, xD3, xD4, xD5, xD6, xb1_0] at h
  obtain ⟨m, hm, h⟩ := h
  obtain ⟨H', f, w, g⟩ := lp_mwt A H hB hX hA hC m 0 _ _ (0, fun _ => 0) _ (by omega) hB.1.1 (by decide) ⟨fun c c0 _ => xp_ne c0, fun i hi => by rw [xp_at, if_neg hi]⟩ ⟨by show pup H 590 51 0 590 51 = 0; rw [xp_at, if_pos rfl], fun x x0 x1 => by
    have x1 : x < 0 := x1
    omega⟩ h
  rw [Int.sub_zero] at w g
  exact ⟨_, H', g, rfl, f, w⟩
theorem ocF_in {c : Int} (h : 1 ≤ c ∧ c ≤ 37) : 0 ≤ ocF c ∧ ocF c ≤ 127 := by
  unfold ocF
  split
  · exact ⟨by decide, by decide⟩
  · split
    · omega
    · omega
theorem CI_oc {H : PH} {A : Int → Int} (ci : CI H A) : ∀ b, 0 ≤ b → b < A 0 → ∀ i, 0 ≤ i → i < A (92 + 26 * b) → 0 ≤ A (92 + 26 * b + 1 + i) ∧ A (92 + 26 * b + 1 + i) ≤ 127 := fun b b0 b1 i i0 i1 => by
  obtain ⟨o1, o2, o3⟩ := (ci.1.2.1 b b0 b1).1.2.2.1 i i0 i1
  have o3 : A (92 + 26 * b + 1 + i) = ocF (sgf (H (57 + 3 * b) 0) i) := o3
  rw [o3]
  exact ocF_in ⟨o1, o2⟩
theorem pr_write (H : PH) (h : REL H) : PAIR 143 [(2, 0)] 269 [(2, 590)] H := by
  obtain ⟨⟨S, n, rl⟩, tp⟩ := id h
  have ok := RC_sz rl.2.1
  intro E N res hh
  obtain ⟨r, H1, g, rfl, fr, _⟩ := sp_c_write (S 0) H ok.1 ok.2.2.2 rl.2.1.1 E N res hh
  refine ⟨_, H1, g, ⟨_, rfl⟩, ?_⟩
  have e : H1 591 = S 0 := by rw [fr.1 591 (by decide) (by decide)]; exact rl.1.symm
  have h1 : REL H1 := REL_lo2 h (fun c c0 c1 _ _ _ _ => fr.1 c c1 (by omega)) ⟨fr.2 7 (by decide), fr.2 8 (by decide)⟩ (fr.1 591 (by decide) (by decide)) (fr.1 592 (by decide) (by decide)) (fr.1 593 (by decide) (by decide)) ⟨by rw [fr.1 590 (by decide) (by decide)], by rw [fr.1 590 (by decide) (by decide)]⟩
  intro E N res hh
  obtain ⟨r', H2, g', rfl, fv, _⟩ := sp_m_write (S 0) H1 e ok.1 ok.2.2.2 (CI_oc rl.2.1.1) E N res hh
  exact ⟨_, H2, g', rfl, REL_lo2 h1 (fun c c0 _ _ _ _ _ => fv.1 c (by omega) (by omega)) ⟨by rw [fv.1 0 (by decide) (by decide)], by rw [fv.1 0 (by decide) (by decide)]⟩ (fv.1 591 (by decide) (by decide)) (fv.1 592 (by decide) (by decide)) (fv.1 593 (by decide) (by decide)) ⟨fv.2 2 (by decide), fv.2 4 (by decide)⟩⟩
