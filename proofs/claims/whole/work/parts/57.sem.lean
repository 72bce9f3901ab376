/-! THE TEXT OF RULES: what the told code says -/
theorem sr14 {x : Nat} (hx : x < 2147483648) : (oi x >>> (oi 14 &&& oi 31)) = oi (x / 16384) := by
  have e : (oi 14 &&& oi 31) = oi 14 := by decide
  rw [e]
  apply Int32.toBitVec_inj.1
  show (oi x).toBitVec.sshiftRight ((oi 14).toBitVec.smod 32).toNat = _
  have e2 : ((oi 14).toBitVec.smod 32).toNat = 14 := by decide
  rw [e2]
  have hm : (oi x).toBitVec = BitVec.ofNat 32 x := rfl
  have hb : (BitVec.ofNat 32 x).msb = false := by
    rw [BitVec.msb_eq_decide, BitVec.toNat_ofNat]
    exact decide_eq_false (by omega)
  rw [hm, BitVec.sshiftRight_eq_of_msb_false hb]
  apply BitVec.eq_of_toNat_eq
  rw [BitVec.toNat_ushiftRight, BitVec.toNat_ofNat, Nat.shiftRight_eq_div_pow]
  show x % 2 ^ 32 / 2 ^ 14 = (x / 16384) % 2 ^ 32
  omega
theorem sr28 {x : Nat} (hx : x < 2147483648) : (oi x >>> (oi 28 &&& oi 31)) = oi (x / 268435456) := by
  have e : (oi 28 &&& oi 31) = oi 28 := by decide
  rw [e]
  apply Int32.toBitVec_inj.1
  show (oi x).toBitVec.sshiftRight ((oi 28).toBitVec.smod 32).toNat = _
  have e2 : ((oi 28).toBitVec.smod 32).toNat = 28 := by decide
  rw [e2]
  have hm : (oi x).toBitVec = BitVec.ofNat 32 x := rfl
  have hb : (BitVec.ofNat 32 x).msb = false := by
    rw [BitVec.msb_eq_decide, BitVec.toNat_ofNat]
    exact decide_eq_false (by omega)
  rw [hm, BitVec.sshiftRight_eq_of_msb_false hb]
  apply BitVec.eq_of_toNat_eq
  rw [BitVec.toNat_ushiftRight, BitVec.toNat_ofNat, Nat.shiftRight_eq_div_pow]
  show x % 2 ^ 32 / 2 ^ 28 = (x / 268435456) % 2 ^ 32
  omega
theorem sr1 {x : Nat} (hx : x < 2147483648) : (oi x >>> (oi 1 &&& oi 31)) = oi (x / 2) := by
  have e : (oi 1 &&& oi 31) = oi 1 := by decide
  rw [e]
  apply Int32.toBitVec_inj.1
  show (oi x).toBitVec.sshiftRight ((oi 1).toBitVec.smod 32).toNat = _
  have e2 : ((oi 1).toBitVec.smod 32).toNat = 1 := by decide
  rw [e2]
  have hm : (oi x).toBitVec = BitVec.ofNat 32 x := rfl
  have hb : (BitVec.ofNat 32 x).msb = false := by
    rw [BitVec.msb_eq_decide, BitVec.toNat_ofNat]
    exact decide_eq_false (by omega)
  rw [hm, BitVec.sshiftRight_eq_of_msb_false hb]
  apply BitVec.eq_of_toNat_eq
  rw [BitVec.toNat_ushiftRight, BitVec.toNat_ofNat, Nat.shiftRight_eq_div_pow]
  show x % 2 ^ 32 / 2 ^ 1 = (x / 2) % 2 ^ 32
  omega
theorem and_oi {x y : Nat} (hx : x < 2147483648) (hy : y < 2147483648) : (oi x &&& oi y) = oi (x &&& y) := by
  apply Int32.toBitVec_inj.1
  apply BitVec.eq_of_toNat_eq
  show ((BitVec.ofNat 32 x) &&& (BitVec.ofNat 32 y)).toNat = (BitVec.ofNat 32 (x &&& y)).toNat
  rw [BitVec.toNat_and, BitVec.toNat_ofNat, BitVec.toNat_ofNat, BitVec.toNat_ofNat, Nat.mod_eq_of_lt (show x < 2 ^ 32 by omega), Nat.mod_eq_of_lt (show y < 2 ^ 32 by omega), Nat.mod_eq_of_lt]
  have := Nat.and_le_left (n := x) (m := y)
  omega
theorem orr_oi {x y : Nat} (hx : x < 2147483648) (hy : y < 2147483648) : (oi x ||| oi y) = oi (x ||| y) := by
  apply Int32.toBitVec_inj.1
  apply BitVec.eq_of_toNat_eq
  show ((BitVec.ofNat 32 x) ||| (BitVec.ofNat 32 y)).toNat = (BitVec.ofNat 32 (x ||| y)).toNat
  rw [BitVec.toNat_or, BitVec.toNat_ofNat, BitVec.toNat_ofNat, BitVec.toNat_ofNat, Nat.mod_eq_of_lt (show x < 2 ^ 32 by omega), Nat.mod_eq_of_lt (show y < 2 ^ 32 by omega), Nat.mod_eq_of_lt]
  exact Nat.or_lt_two_pow (by omega) (by omega)
theorem xor_oi {x y : Nat} (hx : x < 2147483648) (hy : y < 2147483648) : (oi x ^^^ oi y) = oi (x ^^^ y) := by
  apply Int32.toBitVec_inj.1
  apply BitVec.eq_of_toNat_eq
  show ((BitVec.ofNat 32 x) ^^^ (BitVec.ofNat 32 y)).toNat = (BitVec.ofNat 32 (x ^^^ y)).toNat
  rw [BitVec.toNat_xor, BitVec.toNat_ofNat, BitVec.toNat_ofNat, BitVec.toNat_ofNat, Nat.mod_eq_of_lt (show x < 2 ^ 32 by omega), Nat.mod_eq_of_lt (show y < 2 ^ 32 by omega), Nat.mod_eq_of_lt]
  exact Nat.xor_lt_two_pow (by omega) (by omega)
theorem m14 {x : Nat} (hx : x < 2147483648) : (oi x &&& oi 16383) = oi (x % 16384) := by
  rw [and_oi hx (by omega)]
  congr 1
  exact Nat.and_two_pow_sub_one_eq_mod x 14
theorem shl_oi {x k : Nat} (hk : k < 31) (he : ((oi k &&& oi 31)).toBitVec.smod 32 = BitVec.ofNat 32 k) (hx : x * 2 ^ k < 2147483648) : (oi x <<< (oi k &&& oi 31)) = oi (x * 2 ^ k) := by
  apply Int32.toBitVec_inj.1
  show (oi x).toBitVec <<< ((oi k &&& oi 31).toBitVec.smod 32) = _
  rw [he]
  apply BitVec.eq_of_toNat_eq
  have hp : 0 < 2 ^ k := Nat.pow_pos (by omega)
  have hxx : x ≤ x * 2 ^ k := Nat.le_mul_of_pos_right x hp
  show ((BitVec.ofNat 32 x) <<< (BitVec.ofNat 32 k)).toNat = (BitVec.ofNat 32 (x * 2 ^ k)).toNat
  rw [BitVec.shiftLeft_eq', BitVec.toNat_shiftLeft, BitVec.toNat_ofNat, BitVec.toNat_ofNat, BitVec.toNat_ofNat, Nat.mod_eq_of_lt (show k < 2 ^ 32 by omega), Nat.mod_eq_of_lt (show x < 2 ^ 32 by omega), Nat.shiftLeft_eq]
/-- a comparison as the class keeps it -/
theorem what_oi {s l r : Nat} (hs : s < 3) (hl : l < 16384) (hr : r < 16384) : (((oi s <<< (oi 28 &&& oi 31)) ||| (oi l <<< (oi 14 &&& oi 31))) ||| oi r) = oi (s * 268435456 + l * 16384 + r) := by
  rw [shl_oi (k := 28) (by omega) (by decide) (by omega), shl_oi (k := 14) (by omega) (by decide) (by omega)]
  show oi (s * 268435456) ||| oi (l * 16384) ||| oi r = _
  have e1 : s * 268435456 ||| l * 16384 = s * 268435456 + l * 16384 := by
    have := Nat.shiftLeft_add_eq_or_of_lt (a := s) (b := l * 16384) (i := 28) (by omega)
    rw [Nat.shiftLeft_eq] at this
    exact this.symm
  have e2 : (s * 268435456 + l * 16384) ||| r = s * 268435456 + l * 16384 + r := by
    have := Nat.shiftLeft_add_eq_or_of_lt (a := s * 16384 + l) (b := r) (i := 14) (by omega)
    rw [Nat.shiftLeft_eq] at this
    have e3 : (s * 16384 + l) * 2 ^ 14 = s * 268435456 + l * 16384 := by
      have e4 : (2 : Nat) ^ 14 = 16384 := rfl
      rw [e4, Nat.add_mul, Nat.mul_assoc]
    rw [e3] at this
    exact this.symm
  rw [orr_oi (by omega) (by omega), e1, orr_oi (by omega) (by omega), e2]
