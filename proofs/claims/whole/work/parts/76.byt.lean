/-! a byte in both texts -/
theorem and255 (y : Int32) : (y &&& Int32.ofInt 255).toInt = ub y.toInt8.toInt := by
  have h1 : y.toInt8.toInt = y.toInt.bmod (2 ^ 8) := Int32.toInt_toInt8 y
  have h2 : (y &&& Int32.ofInt 255).toBitVec.toNat = y.toBitVec.toNat % 256 := by
    rw [Int32.toBitVec_and, BitVec.toNat_and]
    exact Nat.and_two_pow_sub_one_eq_mod _ 8
  have h3 : (y &&& Int32.ofInt 255).toInt = ((y.toBitVec.toNat % 256 : Nat) : Int) := by
    show (y &&& Int32.ofInt 255).toBitVec.toInt = _
    rw [BitVec.toInt_eq_toNat_cond, h2, if_pos (by omega)]
  have h4 : y.toInt = if 2 * y.toBitVec.toNat < 2 ^ 32 then (y.toBitVec.toNat : Int) else (y.toBitVec.toNat : Int) - ((2 ^ 32 : Nat) : Int) := BitVec.toInt_eq_toNat_cond y.toBitVec
  rw [h3, h1, Int.bmod_def]
  unfold ub
  generalize y.toBitVec.toNat = m at h4 ⊢
  generalize y.toInt = z at h4 ⊢
  by_cases c : z % ((2 ^ 8 : Nat) : Int) < (((2 ^ 8 : Nat) : Int) + 1) / 2
  · rw [if_pos c]
    split at h4 <;> split <;> omega
  · rw [if_neg c]
    split at h4 <;> split <;> omega
theorem byr_ub {a k : Int} : byr a k = ub (bya a k) := and255 _
theorem bya_r {a k : Int} : -128 ≤ bya a k ∧ bya a k < 128 := ⟨Int8.le_toInt _, Int8.toInt_lt _⟩
