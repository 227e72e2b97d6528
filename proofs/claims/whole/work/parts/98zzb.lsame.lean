/-! few looks: the same place on both sides -/
set_option maxRecDepth 100000 in theorem same_place {st : Nat → Int} {S : Nat → Nat} {n P K r v : Nat} (hn : n ≤ 12) (hP : P ≤ 16) (T : SL st n P) (hl : ∀ k b, k < K → (S k).testBit b = true → 0 ≤ st (14 + b)) (hv : v ≤ 15) : bpN st (lkB S K (lkM S n K) r) v n = fpN (clV S n K (gnP st S K n) r) v 16 := by
  refine fp_eq (fun b hb hf => ?_) (fun p hp hf => ?_)
  · have t : ¬ (spl S K r b = 0 ∨ spl S K r b = r) := fun t => by
      have z2 : lkB S K (lkM S n K) r b = 99 := by unfold lkB; rw [if_pos t]
      omega
    have t0 : spl S K r b ≠ 0 := fun y => t (.inl y)
    have t1 : spl S K r b ≠ r := fun y => t (.inr y)
    obtain ⟨k, hk⟩ := bit_ex t0
    rw [spl_bit, Bool.and_eq_true, Bool.and_eq_true] at hk
    have l0 := hl k b (of_decide_eq_true hk.1) hk.2.2
    have l1 := T.la b (by omega)
    obtain ⟨p, hp⟩ := Int.eq_ofNat_of_zero_le l0
    try simp only [Int.ofNat_eq_natCast] at hp
    have e : spl S K r b = r &&& gnP st S K n p := by
      rw [gnP_at hn T hb hp, and_msk]
      rfl
    have hs := spl_sub S K r b
    have h1 : andn r (gnP st S K n p) ≠ 0 := by
      rw [← andn_and, ← e]
      exact (andn_ne hs).mpr t1
    refine ⟨p, by omega, hp, ?_⟩
    rw [← cl_b (n := n) (by rw [← e]; exact t0) h1 e]
    exact hf
  · have t : r &&& gnP st S K n p ≠ 0 ∧ andn r (gnP st S K n p) ≠ 0 := Classical.byContradiction (fun t => by
      have z2 : clV S n K (gnP st S K n) r p = 99 := by unfold clV; rw [if_neg t]
      omega)
    obtain ⟨k, hk⟩ := bit_ex t.1
    rw [Nat.testBit_and, Bool.and_eq_true] at hk
    have h2 := hk.2
    unfold gnP at h2
    rw [msk_bit, Bool.and_eq_true] at h2
    obtain ⟨b, hb, e⟩ := any_iff.mp h2.2
    rw [Bool.and_eq_true] at e
    have hp := of_decide_eq_true e.1
    have e2 : spl S K r b = r &&& gnP st S K n p := by
      rw [gnP_at hn T hb hp, and_msk]
      rfl
    refine ⟨b, hb, hp, ?_⟩
    rw [cl_b (n := n) t.1 t.2 e2]
    exact hf
