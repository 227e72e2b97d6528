/-! four bits of a long -/
noncomputable def nib (v : Int) (i : Nat) : Int := o_iand (w32 (o_lushr v ((4 * i : Nat) : Int))) 15
def bitL (v : Int) (t : Nat) : Bool := (Int64.ofInt v).toBitVec.getLsbD t
set_option maxRecDepth 100000 in theorem sh_u {k : Nat} (hk : k < 64) : (((Int32.ofInt (k : Int)).toInt64.toUInt64 &&& Int64.toUInt64 63).toBitVec % 64).toNat = k := by
  have h : ∀ b : Fin 64, (((Int32.ofInt ((b : Nat) : Int)).toInt64.toUInt64 &&& Int64.toUInt64 63).toBitVec % 64).toNat = (b : Nat) := by decide +kernel
  exact h ⟨k, hk⟩
set_option maxRecDepth 100000 in theorem sh_s {k : Nat} (hk : k < 64) : (((Int32.ofInt (k : Int)).toInt64 &&& 63).toBitVec.smod 64).toNat = k := by
  have h : ∀ b : Fin 64, (((Int32.ofInt ((b : Nat) : Int)).toInt64 &&& 63).toBitVec.smod 64).toNat = (b : Nat) := by decide +kernel
  exact h ⟨k, hk⟩
set_option maxRecDepth 100000 in theorem low_bit (y : Int64) {i : Nat} (hi : i < 32) : (Int32.ofInt y.toInt).toBitVec.getLsbD i = y.toBitVec.getLsbD i := by
  show (y.toBitVec.signExtend 32).getLsbD i = _
  rw [BitVec.getLsbD_signExtend, decide_eq_true hi, if_pos (by omega), Bool.true_and]
set_option maxRecDepth 100000 in theorem ushr_bit (v : Int) {k i : Nat} (hk : k < 64) : ((Int64.ofInt v).toUInt64 >>> ((Int32.ofInt (k : Int)).toInt64.toUInt64 &&& Int64.toUInt64 63)).toInt64.toBitVec.getLsbD i = bitL v (k + i) := by
  show ((Int64.ofInt v).toUInt64 >>> ((Int32.ofInt (k : Int)).toInt64.toUInt64 &&& Int64.toUInt64 63)).toBitVec.getLsbD i = _
  rw [UInt64.toBitVec_shiftRight, BitVec.ushiftRight_eq', BitVec.getLsbD_ushiftRight, sh_u hk]
  rfl
set_option maxRecDepth 100000 in theorem nib_eq {v v' : Int} {i i' : Nat} (hi : i < 16) (hi' : i' < 16) (h : ∀ j, j < 4 → bitL v (4 * i + j) = bitL v' (4 * i' + j)) : nib v i = nib v' i' := by
  unfold nib o_iand o_lushr
  simp only [opq_eq]
  rw [i32_w, i32_w]
  refine congrArg Int32.toInt (Int32.toBitVec_inj.mp ?_)
  rw [Int32.toBitVec_and, Int32.toBitVec_and]
  apply BitVec.eq_of_getLsbD_eq
  intro t ht
  rw [BitVec.getLsbD_and, BitVec.getLsbD_and]
  by_cases c : t < 4
  · rw [low_bit _ ht, low_bit _ ht, ushr_bit v (by omega), ushr_bit v' (by omega), h t c]
  · have h : ∀ j : Fin 32, 4 ≤ (j : Nat) → (Int32.ofInt 15).toBitVec.getLsbD (j : Nat) = false := by decide
    have h2 : (Int32.ofInt 15).toBitVec.getLsbD t = false := h ⟨t, ht⟩ (show 4 ≤ t by omega)
    rw [h2, Bool.and_false, Bool.and_false]
set_option maxRecDepth 100000 in theorem nib_bits {v v' : Int} {i i' j : Nat} (hi : i < 16) (hi' : i' < 16) (hj : j < 4) (h : nib v i = nib v' i') : bitL v (4 * i + j) = bitL v' (4 * i' + j) := by
  unfold nib o_iand o_lushr at h
  simp only [opq_eq] at h
  rw [i32_w, i32_w] at h
  have h2 := Int32.toInt_inj.mp h
  have h3 := congrArg (fun z : Int32 => z.toBitVec.getLsbD j) h2
  simp only [Int32.toBitVec_and, BitVec.getLsbD_and] at h3
  rw [low_bit _ (by omega), low_bit _ (by omega), ushr_bit v (by omega), ushr_bit v' (by omega)] at h3
  have k1 : ∀ j : Fin 4, (Int32.ofInt 15).toBitVec.getLsbD (j : Nat) = true := by decide
  have k1 : (Int32.ofInt 15).toBitVec.getLsbD j = true := k1 ⟨j, hj⟩
  rw [k1, Bool.and_true, Bool.and_true] at h3
  exact h3
set_option maxRecDepth 100000 in theorem or_bit (v x : Int) {k t : Nat} (hk : k < 64) (ht : t < 64) : bitL (o_lor v (o_lshl x (k : Int))) t = (bitL v t || (!decide (t < k) && bitL x (t - k))) := by
  unfold bitL o_lor o_lshl
  simp only [opq_eq, Int64.ofInt_toInt]
  rw [Int64.toBitVec_or, BitVec.getLsbD_or, Int64.toBitVec_shiftLeft, BitVec.shiftLeft_eq', BitVec.getLsbD_shiftLeft, sh_s hk, decide_eq_true ht, Bool.true_and]
set_option maxRecDepth 100000 in theorem small_bit {x t : Nat} (hx : x < 16) (ht : 4 ≤ t) (ht2 : t < 64) : bitL (x : Int) t = false := by
  have h : ∀ a : Fin 16, ∀ t : Fin 64, 4 ≤ (t : Nat) → bitL ((a : Nat) : Int) (t : Nat) = false := by decide +kernel
  exact h ⟨x, hx⟩ ⟨t, ht2⟩ ht
set_option maxRecDepth 100000 in theorem nib_small {x : Nat} (hx : x < 16) : nib (x : Int) 0 = (x : Int) := by
  unfold nib o_iand o_lushr
  simp only [opq_eq]
  rw [i32_w]
  have h : ∀ a : Fin 16, ((Int32.ofInt (((Int64.ofInt ((a : Nat) : Int)).toUInt64 >>> ((Int32.ofInt ((4 * 0 : Nat) : Int)).toInt64.toUInt64 &&& Int64.toUInt64 63)).toInt64.toInt) &&& Int32.ofInt 15).toInt) = ((a : Nat) : Int) := by decide +kernel
  exact h ⟨x, hx⟩
set_option maxRecDepth 100000 in theorem nib_zero {i : Nat} (hi : i < 16) : nib 0 i = 0 := by
  have h := nib_small (x := 0) (by omega)
  rw [show ((0 : Nat) : Int) = 0 from rfl] at h
  refine (nib_eq hi (i' := 0) (by omega) (fun j hj => ?_)).trans h
  have z : ∀ t : Fin 64, bitL 0 (t : Nat) = false := by decide +kernel
  have z1 : bitL 0 (4 * i + j) = false := z ⟨4 * i + j, by omega⟩
  have z2 : bitL 0 (4 * 0 + j) = false := z ⟨4 * 0 + j, by omega⟩
  rw [z1, z2]
set_option maxRecDepth 100000 in theorem nib_put {v : Int} {x i : Nat} (hi : i < 16) (hx : x < 16) (h : nib v i = 0 ∨ nib v i = (x : Int)) : nib (o_lor v (o_lshl (x : Int) ((4 * i : Nat) : Int))) i = (x : Int) := by
  have sm := nib_small hx
  refine (nib_eq hi (i' := 0) (by omega) (fun j hj => ?_)).trans sm
  rw [or_bit v _ (by omega) (by omega), decide_eq_false (by omega), show 4 * i + j - 4 * i = 4 * 0 + j by omega]
  rcases h with h | h
  · rw [nib_bits hi hi hj (h.trans (nib_zero hi).symm)]
    have z : ∀ t : Fin 64, bitL 0 (t : Nat) = false := by decide +kernel
    have z1 : bitL 0 (4 * i + j) = false := z ⟨4 * i + j, by omega⟩
    rw [z1]
    rfl
  · rw [nib_bits (i' := 0) hi (by omega) hj (h.trans sm.symm)]
    simp
set_option maxRecDepth 100000 in theorem nib_off {v : Int} {x i i' : Nat} (hi : i < 16) (hi' : i' < 16) (hx : x < 16) (hn : i' ≠ i) : nib (o_lor v (o_lshl (x : Int) ((4 * i : Nat) : Int))) i' = nib v i' := by
  refine nib_eq hi' hi' (fun j hj => ?_)
  rw [or_bit v _ (by omega) (by omega)]
  by_cases c : 4 * i' + j < 4 * i
  · rw [decide_eq_true c]
    simp
  · rw [small_bit hx (by omega) (by omega), Bool.and_false, Bool.or_false]
