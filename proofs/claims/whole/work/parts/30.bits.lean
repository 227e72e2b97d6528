/-! bits of nonnegative ints -/
theorem i32_nat {n : Nat} : Int32.ofInt (n : Int) = Int32.ofNat n := Int32.ofInt_eq_ofNat
theorem bv_nat {n : Nat} (h : n < 2147483648) : (Int32.ofInt (n : Int)).toBitVec.toNat = n := by
  rw [i32_nat]
  show (BitVec.ofNat 32 n).toNat = n
  rw [BitVec.toNat_ofNat]
  omega
theorem int_of_bv {x : Int32} {n : Nat} (h : x.toBitVec.toNat = n) (hn : n < 2147483648) : x.toInt = (n : Int) := by
  show x.toBitVec.toInt = (n : Int)
  rw [BitVec.toInt_eq_toNat_of_lt (by rw [h]; omega), h]
theorem iand_nat {a b : Nat} (ha : a < 2147483648) (hb : b < 2147483648) : o_iand (a : Int) (b : Int) = ((a &&& b : Nat) : Int) := by
  unfold o_iand
  rw [opq_eq]
  refine int_of_bv ?_ (Nat.lt_of_le_of_lt Nat.and_le_left ha)
  rw [Int32.toBitVec_and, BitVec.toNat_and, bv_nat ha, bv_nat hb]
theorem ior_nat {a b : Nat} (ha : a < 2147483648) (hb : b < 2147483648) : o_ior (a : Int) (b : Int) = ((a ||| b : Nat) : Int) := by
  unfold o_ior
  rw [opq_eq]
  refine int_of_bv ?_ (Nat.or_lt_two_pow (n := 31) ha hb)
  rw [Int32.toBitVec_or, BitVec.toNat_or, bv_nat ha, bv_nat hb]
theorem ixor_nat {a b : Nat} (ha : a < 2147483648) (hb : b < 2147483648) : o_ixor (a : Int) (b : Int) = ((a ^^^ b : Nat) : Int) := by
  unfold o_ixor
  rw [opq_eq]
  refine int_of_bv ?_ (Nat.xor_lt_two_pow (n := 31) ha hb)
  rw [Int32.toBitVec_xor, BitVec.toNat_xor, bv_nat ha, bv_nat hb]
theorem sh_amt {b : Nat} (hb : b < 32) : ((Int32.ofInt (b : Int) &&& 31).toBitVec.smod 32).toNat = b := by
  have h : ∀ b : Fin 32, ((Int32.ofInt ((b : Nat) : Int) &&& 31).toBitVec.smod 32).toNat = (b : Nat) := by decide +kernel
  exact h ⟨b, hb⟩
theorem ishr_nat {a b : Nat} (ha : a < 2147483648) (hb : b < 32) : o_ishr (a : Int) (b : Int) = ((a >>> b : Nat) : Int) := by
  unfold o_ishr
  rw [opq_eq]
  rw [pk_shr (Int32.ofInt (a : Int)) (Int32.ofInt (b : Int) &&& 31) b (sh_amt hb)]
  rw [int_of_bv (bv_nat ha) ha]
  rw [Int.shiftRight_eq_div_pow, Nat.shiftRight_eq_div_pow]
  norm_cast
theorem ishl_nat {a b : Nat} (hb : b < 32) (h : a * 2 ^ b < 2147483648) : o_ishl (a : Int) (b : Int) = ((a * 2 ^ b : Nat) : Int) := by
  unfold o_ishl
  rw [opq_eq]
  have ha : a < 2147483648 := Nat.lt_of_le_of_lt (Nat.le_mul_of_pos_right a (Nat.two_pow_pos b)) h
  refine int_of_bv ?_ h
  rw [pk_shl (Int32.ofInt (a : Int)) (Int32.ofInt (b : Int) &&& 31) b (sh_amt hb), bv_nat ha]
  omega
/-- the complement -/
theorem inot_int {a : Int} (h : -2147483648 ≤ a ∧ a < 2147483648) : o_ixor a (-1) = -1 - a := by
  unfold o_ixor
  rw [opq_eq]
  have e1 : Int32.ofInt a ^^^ Int32.ofInt (-1) = ~~~ Int32.ofInt a := by
    apply Int32.toBitVec_inj.mp
    rw [Int32.toBitVec_xor, Int32.toBitVec_not]
    have : (Int32.ofInt (-1)).toBitVec = BitVec.allOnes 32 := by decide
    rw [this, BitVec.xor_allOnes]
  rw [e1]
  have e2 : ~~~ Int32.ofInt a = Int32.ofInt (-1 - a) := by
    rw [Int32.not_eq_neg_sub, ← Int32.ofInt_neg]
    rw [show (1 : Int32) = Int32.ofInt 1 from rfl, ← Int32.ofInt_sub]
    congr 1
    omega
  rw [e2, i32_to]
  exact w32_id ⟨by omega, by omega⟩
theorem iandn_nat {a b : Nat} (ha : a < 2147483648) (hb : b < 2147483648) : o_iand (a : Int) (-1 - (b : Int)) = (((a ^^^ (a &&& b)) : Nat) : Int) := by
  unfold o_iand
  rw [opq_eq]
  have e2 : Int32.ofInt (-1 - (b : Int)) = ~~~ Int32.ofInt (b : Int) := by
    rw [Int32.not_eq_neg_sub, ← Int32.ofInt_neg]
    rw [show (1 : Int32) = Int32.ofInt 1 from rfl, ← Int32.ofInt_sub]
    congr 1
    omega
  rw [e2]
  refine int_of_bv ?_ (Nat.xor_lt_two_pow (n := 31) ha (Nat.lt_of_le_of_lt Nat.and_le_left ha))
  apply Nat.eq_of_testBit_eq
  intro i
  rw [Int32.toBitVec_and, Int32.toBitVec_not, BitVec.testBit_toNat, BitVec.getLsbD_and, BitVec.getLsbD_not, ← BitVec.testBit_toNat, ← BitVec.testBit_toNat, bv_nat ha, bv_nat hb, Nat.testBit_xor, Nat.testBit_and]
  by_cases hi : i < 32
  · cases a.testBit i <;> cases b.testBit i <;> simp [hi]
  · have : a.testBit i = false := Nat.testBit_lt_two_pow (Nat.lt_of_lt_of_le ha (Nat.pow_le_pow_right (n := 2) (by decide) (by omega : 31 ≤ i)))
    simp [this]
