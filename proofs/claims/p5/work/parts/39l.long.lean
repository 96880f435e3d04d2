/-! ===== longs ===== -/
theorem sh64 : ∀ m : Nat, m < 64 → ((zI (zu (m : Int))).toInt64.toUInt64 &&& Int64.toUInt64 63).toNat % 64 = m := by decide +kernel
theorem qlushr_ok {x : Int} {m : Nat} (h0 : 0 ≤ x) (h1 : x < 18446744073709551616) (hm : m < 64) : qlushr x (m : Int) = x / 2 ^ m := by
  obtain ⟨n, rfl⟩ := Int.eq_ofNat_of_zero_le h0
  unfold qlushr
  have e1 : zU6 ((zI6 ((n : Int)).toNat).toUInt64 >>> ((zI (zu (m : Int))).toInt64.toUInt64 &&& Int64.toUInt64 63)).toInt64 = n / 2 ^ m := by
    show ((zI6 ((n : Int)).toNat).toUInt64 >>> ((zI (zu (m : Int))).toInt64.toUInt64 &&& Int64.toUInt64 63)).toNat = n / 2 ^ m
    rw [UInt64.toNat_shiftRight, sh64 m hm, Nat.shiftRight_eq_div_pow]
    congr 1
    show (BitVec.ofNat 64 ((n : Int)).toNat).toNat = n
    rw [BitVec.toNat_ofNat, Int.toNat_natCast]
    exact Nat.mod_eq_of_lt (by omega)
  rw [e1, Int.natCast_ediv]
  congr 1
theorem qli_u {n : Nat} (h : n < 18446744073709551616) : zU ((zI6 n).toInt32) = n % 4294967296 := by
  show (BitVec.signExtend 32 (BitVec.ofNat 64 n)).toNat = n % 4294967296
  rw [BitVec.signExtend_eq_setWidth_of_le _ (by decide), BitVec.toNat_setWidth, BitVec.toNat_ofNat]
  omega
theorem qli_ok {x : Int} (h0 : 0 ≤ x) (h1 : x < 2147483648) : qli x = x := by
  obtain ⟨n, rfl⟩ := Int.eq_ofNat_of_zero_le h0
  have e := qli_u (n := n) (by omega)
  unfold qli
  rw [Int.toNat_natCast, toInt_small (by rw [e]; omega), e]
  omega
theorem zU_zI32 {r : Int32} : zU (zI (zU r)) = zU r := by
  rw [zU_zI (by unfold zU; exact r.toBitVec.isLt)]
theorem qand63 {x : Int} (h0 : 0 ≤ x) (h1 : x < 18446744073709551616) : q2 (· &&& ·) (qli x) 63 = x % 64 := by
  obtain ⟨n, rfl⟩ := Int.eq_ofNat_of_zero_le h0
  have e := qli_u (n := n) (by omega)
  have e2 : zU (zI (zu (qli (n : Int))) &&& zI (zu 63)) = n % 64 := by
    rw [zU_and]
    unfold qli
    rw [Int.toNat_natCast, zu_toInt, zU_zI32, e]
    have e3 : zU (zI (zu 63)) = 2 ^ 6 - 1 := by decide
    rw [e3, Nat.and_two_pow_sub_one_eq_mod]
    omega
  unfold q2
  show (zI (zu (qli (n : Int))) &&& zI (zu 63)).toInt = _
  rw [toInt_small (by rw [e2]; omega), e2]
  omega
theorem qladd_ok {x y : Int} (h0 : 0 ≤ x) (h1 : 0 ≤ y) (h : x + y < 18446744073709551616) : qladd x y = x + y := by
  obtain ⟨n, rfl⟩ := Int.eq_ofNat_of_zero_le h0
  obtain ⟨m, rfl⟩ := Int.eq_ofNat_of_zero_le h1
  unfold qladd
  have e : zU6 (zI6 ((n : Int)).toNat + zI6 ((m : Int)).toNat) = n + m := by
    show (BitVec.ofNat 64 ((n : Int)).toNat + BitVec.ofNat 64 ((m : Int)).toNat).toNat = n + m
    rw [BitVec.toNat_add, BitVec.toNat_ofNat, BitVec.toNat_ofNat, Int.toNat_natCast, Int.toNat_natCast]
    omega
  rw [e]
  omega
theorem qil_ok : ∀ n : Nat, n < 64 → qil (n : Int) = n := by decide +kernel
theorem sl64 : ∀ m : Nat, m < 64 → ((zI (zu (m : Int))).toInt64 &&& 63).toBitVec.smod 64 = BitVec.ofNat 64 m := by decide +kernel
theorem qlshl_ok {x : Int} {m : Nat} (h0 : 0 ≤ x) (hm : m < 64) (h : x * 2 ^ m < 18446744073709551616) : qlshl x (m : Int) = x * 2 ^ m := by
  obtain ⟨n, rfl⟩ := Int.eq_ofNat_of_zero_le h0
  unfold qlshl
  have e : zU6 (zI6 ((n : Int)).toNat <<< ((zI (zu (m : Int))).toInt64 &&& 63)) = n * 2 ^ m := by
    show ((zI6 ((n : Int)).toNat <<< ((zI (zu (m : Int))).toInt64 &&& 63)).toBitVec).toNat = n * 2 ^ m
    rw [Int64.toBitVec_shiftLeft, sl64 m hm, BitVec.shiftLeft_eq', BitVec.toNat_shiftLeft]
    have e1 : (BitVec.ofNat 64 m).toNat = m := by rw [BitVec.toNat_ofNat]; exact Nat.mod_eq_of_lt (by omega)
    have e3 : ((n * 2 ^ m : Nat) : Int) = (n : Int) * 2 ^ m := by rw [Int.natCast_mul]; congr 1
    have hp : 1 ≤ 2 ^ m := Nat.one_le_two_pow
    have hn : n ≤ n * 2 ^ m := Nat.le_mul_of_pos_right n (by omega)
    have e2 : (zI6 ((n : Int)).toNat).toBitVec.toNat = n := by
      show (BitVec.ofNat 64 ((n : Int)).toNat).toNat = n
      rw [BitVec.toNat_ofNat, Int.toNat_natCast]
      exact Nat.mod_eq_of_lt (by omega)
    rw [e1, e2, Nat.shiftLeft_eq]
    exact Nat.mod_eq_of_lt (by omega)
  rw [e, Int.natCast_mul]
  congr 1
