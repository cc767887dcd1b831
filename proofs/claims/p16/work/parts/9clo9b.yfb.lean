/-! THE FEWEST: WHO IS TOLD, BY BITS -/
theorem yU1 (u : UInt64) (h : u.toNat < 9223372036854775808) : u.toInt64.toInt = (u.toNat : Int) := by
  show u.toBitVec.toInt = (u.toBitVec.toNat : Int)
  have h2 : u.toBitVec.toNat < 9223372036854775808 := h
  rw [BitVec.toInt_eq_toNat_cond, if_pos (by omega)]
theorem yU3 (u : UInt64) (h : u.toInt64.toInt = 0) : u.toNat = 0 := by
  have h : u.toBitVec.toInt = 0 := h
  have h2 : u.toBitVec.toNat < 18446744073709551616 := u.toBitVec.isLt
  show u.toBitVec.toNat = 0
  rw [BitVec.toInt_eq_toNat_cond] at h
  by_cases c : 2 * u.toBitVec.toNat < 2 ^ 64
  · rw [if_pos c] at h
    omega
  · rw [if_neg c] at h
    omega
theorem yU2 {v : Int} (h : -9223372036854775808 ≤ v ∧ v ≤ 9223372036854775807) : ((Int64.ofInt v).toUInt64.toNat : Int) = if 0 ≤ v then v else v + 18446744073709551616 := by
  have e : (Int64.ofInt v).toUInt64.toNat = (v % 18446744073709551616).toNat := BitVec.toNat_ofInt (n := 64) v
  rw [e]
  split <;> omega
theorem yU4 {i : Int} (h : 0 ≤ i ∧ i < 64) : (Int32.ofInt i).toInt64.toUInt64 &&& Int64.toUInt64 63 = UInt64.ofNat (Int.toNat i) ∧ (UInt64.ofNat (Int.toNat i)).toNat % 64 = Int.toNat i ∧ (BitVec.smod ((Int32.ofInt i).toInt64 &&& 63).toBitVec 64).toNat = Int.toNat i := by
  have key : ∀ n : Fin 64, (Int32.ofInt ((n.val : Nat) : Int)).toInt64.toUInt64 &&& Int64.toUInt64 63 = UInt64.ofNat n.val ∧ (UInt64.ofNat n.val).toNat % 64 = n.val ∧ (BitVec.smod ((Int32.ofInt ((n.val : Nat) : Int)).toInt64 &&& 63).toBitVec 64).toNat = n.val := by decide +kernel
  have e : ((Int.toNat i : Nat) : Int) = i := by omega
  have k1 : (Int32.ofInt ((Int.toNat i : Nat) : Int)).toInt64.toUInt64 &&& Int64.toUInt64 63 = UInt64.ofNat (Int.toNat i) ∧ (UInt64.ofNat (Int.toNat i)).toNat % 64 = Int.toNat i ∧ (BitVec.smod ((Int32.ofInt ((Int.toNat i : Nat) : Int)).toInt64 &&& 63).toBitVec 64).toNat = Int.toNat i := key ⟨Int.toNat i, by omega⟩
  rw [e] at k1
  exact k1
/-- what is shifted, the class's way -/
def yShu (v i : Int) : Int := ysh (fun x y => (x.toUInt64 >>> (y.toInt64.toUInt64 &&& Int64.toUInt64 63)).toInt64) v i
def yShs (v i : Int) : Int := ysh (fun x y => x >>> (y.toInt64 &&& 63)) v i
theorem yShu_u {v i : Int} (hi : 0 ≤ i ∧ i < 64) : ((Int64.ofInt v).toUInt64 >>> UInt64.ofNat (Int.toNat i)).toNat = (Int64.ofInt v).toUInt64.toNat / 2 ^ Int.toNat i := by
  have k := (yU4 hi).2.1
  rw [UInt64.toNat_shiftRight, k, Nat.shiftRight_eq_div_pow]
theorem yShu_p {v i : Int} (hv : 0 ≤ v ∧ v ≤ 9223372036854775807) (hi : 0 ≤ i ∧ i < 64) : yShu v i = ((Int.toNat v / 2 ^ Int.toNat i : Nat) : Int) := by
  have e2 := yU2 (v := v) ⟨by omega, hv.2⟩
  rw [if_pos hv.1] at e2
  have e3 : (Int64.ofInt v).toUInt64.toNat = Int.toNat v := by omega
  have e4 := yShu_u (v := v) hi
  rw [e3] at e4
  have le : Int.toNat v / 2 ^ Int.toNat i ≤ Int.toNat v := Nat.div_le_self _ _
  show ((Int64.ofInt v).toUInt64 >>> ((Int32.ofInt i).toInt64.toUInt64 &&& Int64.toUInt64 63)).toInt64.toInt = _
  rw [(yU4 hi).1, yU1 _ (by omega), e4]
theorem yShs_p {v i : Int} (hv : 0 ≤ v ∧ v ≤ 9223372036854775807) (hi : 0 ≤ i ∧ i < 64) : yShs v i = ((Int.toNat v / 2 ^ Int.toNat i : Nat) : Int) := by
  show ((Int64.ofInt v).toBitVec.sshiftRight (BitVec.smod ((Int32.ofInt i).toInt64 &&& 63).toBitVec 64).toNat).toInt = _
  rw [(yU4 hi).2.2, BitVec.toInt_sshiftRight, Int.shiftRight_eq_div_pow]
  have e : (Int64.ofInt v).toBitVec.toInt = v := by
    show (Int64.ofInt v).toInt = v
    exact zofL (by omega) hv.2
  rw [e]
  have e2 : v = ((Int.toNat v : Nat) : Int) := by omega
  rw [e2, Int.toNat_natCast]
  rfl
theorem yShs_us {v i : Int} (hv : 0 ≤ v ∧ v ≤ 9223372036854775807) (hi : 0 ≤ i ∧ i < 64) : yShs v i = yShu v i := (yShs_p hv hi).trans (yShu_p hv hi).symm
/-- one below zero has signs behind the comers -/
theorem yShu_n {v i : Int} (hv : -9223372036854775808 ≤ v ∧ v < 0) (hi : 0 ≤ i ∧ i ≤ 40) : yShu v i ≠ 0 := fun h => by
  have e2 := yU2 (v := v) ⟨hv.1, by omega⟩
  rw [if_neg (by omega)] at e2
  have h : ((Int64.ofInt v).toUInt64 >>> ((Int32.ofInt i).toInt64.toUInt64 &&& Int64.toUInt64 63)).toInt64.toInt = 0 := h
  rw [(yU4 (i := i) ⟨hi.1, by omega⟩).1] at h
  have h3 := yU3 _ h
  rw [yShu_u (v := v) ⟨hi.1, by omega⟩] at h3
  have p40 : 2 ^ Int.toNat i ≤ 2 ^ 40 := Nat.pow_le_pow_right (by decide) (by omega)
  have p40v : (2 : Nat) ^ 40 = 1099511627776 := by decide
  have pp : 0 < 2 ^ Int.toNat i := Nat.pow_pos (by decide)
  rcases Nat.div_eq_zero_iff.mp h3 with z | z
  · omega
  · omega
theorem yBn_v {w : Nat} (h : (w : Int) ≤ 9223372036854775807) : ybl (fun x y => x &&& y) (w : Int) 1 = ((w % 2 : Nat) : Int) := by
  show (Int64.ofInt (w : Int) &&& Int64.ofInt 1).toBitVec.toInt = _
  have e : (Int64.ofInt (w : Int) &&& Int64.ofInt 1).toBitVec.toNat = w % 2 := by
    show (BitVec.ofInt 64 (w : Int) &&& BitVec.ofInt 64 1).toNat = w % 2
    have e1 : (BitVec.ofInt 64 (w : Int)).toNat = w := by
      have e0 : (BitVec.ofInt 64 (w : Int)).toNat = ((w : Int) % 18446744073709551616).toNat := BitVec.toNat_ofInt (n := 64) _
      rw [e0]
      omega
    have e2 : (BitVec.ofInt 64 1).toNat = 1 := by decide
    rw [BitVec.toNat_and, e1, e2, Nat.and_one_is_mod]
  rw [BitVec.toInt_eq_toNat_cond, e, if_pos (by omega)]
theorem yDv {N : Nat} : ∀ n : Nat, N < 2 ^ n → N ≠ 0 → ∃ i : Nat, i < n ∧ (N / 2 ^ i) % 2 = 1 := by
  intro n
  induction n generalizing N with
  | zero =>
    intro h h0
    have h : N < 1 := h
    exact absurd (by omega) h0
  | succ n ih =>
    intro h h0
    by_cases c : N % 2 = 1
    · exact ⟨0, by omega, by rw [Nat.pow_zero, Nat.div_one]; exact c⟩
    · obtain ⟨i, i1, i2⟩ := @ih (N / 2) (by rw [Nat.pow_succ] at h; omega) (by omega)
      refine ⟨i + 1, by omega, ?_⟩
      rw [Nat.pow_succ, Nat.mul_comm, ← Nat.div_div_eq_div_mul]
      exact i2
