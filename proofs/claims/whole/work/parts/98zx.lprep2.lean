/-! few looks: the class is ready -/
set_option maxRecDepth 100000 in theorem gnP_at {st : Nat → Int} {S : Nat → Nat} {n P K b p : Nat} (hn : n ≤ 12) (T : SL st n P) (hb : b < n) (h : st (14 + b) = (p : Int)) : gnP st S K n p = msk (fun k => (S k).testBit b) K := by
  unfold gnP
  refine msk_congr (fun k _ => ?_)
  cases hk : (S k).testBit b with
  | true => exact any_iff.mpr ⟨b, hb, by rw [decide_eq_true h, hk]; rfl⟩
  | false =>
    cases ha : anyN (fun b => decide (st (14 + b) = (p : Int)) && (S k).testBit b) n with
    | false => rfl
    | true =>
      obtain ⟨c, hc, e⟩ := any_iff.mp ha
      rw [Bool.and_eq_true] at e
      have e1 := of_decide_eq_true e.1
      have : c = b := T.2.2.2.2.2.2.1 c b (by omega) (by omega) (by omega) (by omega)
      rw [this, hk] at e
      exact e.2.symm
set_option maxRecDepth 100000 in theorem and_msk (r K : Nat) (f : Nat → Bool) : r &&& msk f K = msk (fun k => r.testBit k && f k) K := by
  apply Nat.eq_of_testBit_eq
  intro t
  rw [Nat.testBit_and, msk_bit, msk_bit]
  cases r.testBit t <;> cases decide (t < K) <;> rfl
set_option maxRecDepth 100000 in theorem bit_ex {x : Nat} (h : x ≠ 0) : ∃ t, x.testBit t = true := Classical.byContradiction (fun z => h (Nat.eq_of_testBit_eq (fun t => by
  rw [Nat.zero_testBit]
  cases c : x.testBit t with
  | false => rfl
  | true => exact absurd ⟨t, c⟩ z)))
set_option maxRecDepth 100000 in theorem plb {st : Nat → Int} {S : Nat → Nat} {n P K : Nat} (hn : n ≤ 12) (hP : P ≤ 16) (T : SL st n P) (hl : ∀ k b, k < K → (S k).testBit b = true → 0 ≤ st (14 + b)) : PlB S n K (gnP st S K n) := by
  constructor
  · intro p r hp hr h0 _
    obtain ⟨t, ht⟩ := bit_ex h0
    rw [Nat.testBit_and, Bool.and_eq_true] at ht
    have h2 := ht.2
    unfold gnP at h2
    rw [msk_bit, Bool.and_eq_true] at h2
    obtain ⟨b, hb, e⟩ := any_iff.mp h2.2
    rw [Bool.and_eq_true] at e
    refine ⟨b, hb, ?_⟩
    rw [gnP_at hn T hb (of_decide_eq_true e.1), and_msk]
    rfl
  · intro b r hb hr h0
    obtain ⟨t, ht⟩ := bit_ex h0
    rw [spl_bit, Bool.and_eq_true, Bool.and_eq_true] at ht
    have hk := of_decide_eq_true ht.1
    have l0 := hl t b hk ht.2.2
    have l1 := T.2.2.2.2.1 b (by omega)
    obtain ⟨p, hp⟩ := Int.eq_ofNat_of_zero_le l0
    try simp only [Int.ofNat_eq_natCast] at hp
    refine ⟨p, by omega, ?_⟩
    rw [gnP_at hn T hb hp, and_msk]
    rfl
set_option maxRecDepth 100000 in theorem c_lp1 {μ μM : Mem} {h d n P M K : Nat} {S : Nat → Nat} (R : R0 μ μM h d n P M) (hK : K ≤ 16) (F : ClkT μ S K) (hS : ∀ k, k < K → S k < 4096) (z : ∀ p, p < 16 → μ 115 p = 0) : ∃ e μ', loopS 4 5 kX5_prepare_1c kX5_prepare_1b kX5_prepare_1u shC [(2, rf 114), (2, rf h), (2, rf 30), (2, rf 110), (0, 0), (3, 0), (3, 0)] μ = some (0, 0, e, μ') ∧ (∀ p, p < 16 → μ' 115 p = ((gnP (μM 15) S K n p : Nat) : Int)) ∧ ∀ x y, x ≠ 115 → μ' x y = μ x y := by
  have n1 := R.fb.n1
  have P2 := R.fb.P2
  obtain ⟨env', m, lp, ⟨k5, v5, k6, v6, h5, h6, e0, A, D⟩⟩ := loop_n (kb := 4) (kc := 5) (c := kX5_prepare_1c) (body := kX5_prepare_1b) (upd := kX5_prepare_1u) (sh := shC) (n := n) (fun j env k => ∃ (k5 : Nat) (v5 : Int) (k6 : Nat) (v6 : Int), k5 ≠ 1 ∧ k6 ≠ 1 ∧ env = [(2, rf 114), (2, rf h), (2, rf 30), (2, rf 110), (0, (j : Int)), (k5, v5), (k6, v6)] ∧ (∀ p, p < 16 → k 115 p = ((gnP (μM 15) S K j p : Nat) : Int)) ∧ ∀ x y, x ≠ 115 → k x y = μ x y) (by
    rintro j env k hj ⟨k5, v5, k6, v6, h5, h6, rfl, A, D⟩
    have h5' : ¬ k5 = 1 := h5
    have h6' : ¬ k6 = 1 := h6
    have Rk : R0 k μM h d n P M := R.cls (fun a b _ _ _ _ h5 _ _ _ _ _ => D a b (by omega))
    obtain ⟨h1, ⟨f0, -⟩, ⟨q0, q1, q2, q3, q4, q5, q6, q7, q8⟩, -, -, B, FF, L, -, T, -⟩ := Rk.gq
    have hla := L.la j (by omega)
    have rla := T.la j (by omega)
    have hbe := FF.be
    rw [B.n0] at hbe
    by_cases c0 : μM 15 (14 + j) = -1
    · rw [c0] at hla
      refine ⟨[(2, rf 114), (2, rf h), (2, rf 30), (2, rf 110), (0, ((j + 1 : Nat) : Int)), (0, -1), (k6, v6)], k, ?_, 0, -1, k6, v6, by decide, h6, rfl, fun p hp => by rw [gnP_n (by omega)]; exact A p hp, D⟩
      simp -implicitDefEqProofs (disch := omega) [kX5_prepare_1c, kX5_prepare_1b, kX5_prepare_1u, v_cop, v_c1, v_c2, v_c3, v_c4, v_c5, v_bin, v_bn, v_bn2, v_div, v_dv, v_dv2, v_une, v_un, v_loc, v_num, v_get, v_gt, v_ald, v_al, v_al2, v_len, v_ln, v_rl0, v_rl1, v_rl2, v_rl3, v_rl4, v_rl5, v_cmp, v_cp, v_cp2, v_zC, v_zc, v_con, v_kc, v_and, v_an1, v_an0, v_or, v_or1, v_or0, v_not, v_nt, v_boo, v_bo, v_cnd, v_cd1, v_cd0, v_cnc, v_cc1, v_cc0, v_ev0, v_ev, v_e1, v_e2, v_cve, v_cv, v_cse, v_cs, v_skip, v_seq, v_sq0, v_sq1, v_sqr, v_sts, v_st, v_inc, v_put, v_pt, v_pt2, v_fop, v_fo, v_fo2, v_ast, v_as, v_as2, v_as3, v_aop, v_ao, v_ao2, v_ao3, v_exs, v_ex, v_ifs, v_if1, v_if0, v_ret, v_rt, v_rez, v_rz, v_rev, v_brk, v_sws, v_sw, v_sw2, v_run, v_rb, v_turn, v_tu1, v_tu0, v_tu2, v_tu3, fst1, snd1, Option.map_some, Option.getD_some, enA, en, stE, okb, narV, rf_toNat, rf_nn, List.getElem?_cons_zero, List.getElem?_cons_succ, w32_id, w64_id, ite_t, ite_f, Int.toNat_add, Int.toNat_mul, dec_t, dec_f, f0, hbe, q0, q2, q6, hla, h5', h6']
    · obtain ⟨q, hq⟩ := Int.eq_ofNat_of_zero_le (show 0 ≤ μM 15 (14 + j) by omega)
      try simp only [Int.ofNat_eq_natCast] at hq
      rw [hq] at hla rla
      have q16 : q < 16 := by omega
      have Fk : ClkT k S K := ⟨by rw [D _ _ (by omega)]; exact F.1, by rw [D _ _ (by omega)]; exact F.2.1, by rw [D _ _ (by omega)]; exact F.2.2.1, fun i hi => by rw [D _ _ (by omega)]; exact F.2.2.2 i hi⟩
      obtain ⟨k', l2, A2, D2⟩ := c_lp2 (h := h) (b := j) hK Fk hS (by omega) q16 (gnP_lt hK) (A q q16)
      rw [gnP_s hq] at A2
      refine ⟨[(2, rf 114), (2, rf h), (2, rf 30), (2, rf 110), (0, ((j + 1 : Nat) : Int)), (0, (q : Int)), (0, (K : Int))], k', ?_, 0, _, 0, _, by decide, by decide, rfl, fun p hp => ?_, fun x y hx => by rw [D2 x y (by omega)]; exact D x y hx⟩
      · clear A A2 D D2 F Fk hS z
        simp -implicitDefEqProofs (disch := omega) [kX5_prepare_1c, kX5_prepare_1b, kX5_prepare_1u, kX5_prepare_2, v_cop, v_c1, v_c2, v_c3, v_c4, v_c5, v_bin, v_bn, v_bn2, v_div, v_dv, v_dv2, v_une, v_un, v_loc, v_num, v_get, v_gt, v_ald, v_al, v_al2, v_len, v_ln, v_rl0, v_rl1, v_rl2, v_rl3, v_rl4, v_rl5, v_cmp, v_cp, v_cp2, v_zC, v_zc, v_con, v_kc, v_and, v_an1, v_an0, v_or, v_or1, v_or0, v_not, v_nt, v_boo, v_bo, v_cnd, v_cd1, v_cd0, v_cnc, v_cc1, v_cc0, v_ev0, v_ev, v_e1, v_e2, v_cve, v_cv, v_cse, v_cs, v_skip, v_seq, v_sq0, v_sq1, v_sqr, v_sts, v_st, v_inc, v_put, v_pt, v_pt2, v_fop, v_fo, v_fo2, v_ast, v_as, v_as2, v_as3, v_aop, v_ao, v_ao2, v_ao3, v_exs, v_ex, v_ifs, v_if1, v_if0, v_ret, v_rt, v_rez, v_rz, v_rev, v_brk, v_sws, v_sw, v_sw2, v_run, v_rb, v_turn, v_tu1, v_tu0, v_tu2, v_tu3, fst1, snd1, Option.map_some, Option.getD_some, enA, en, stE, okb, narV, rf_toNat, rf_nn, List.getElem?_cons_zero, List.getElem?_cons_succ, w32_id, w64_id, ite_t, ite_f, Int.toNat_add, Int.toNat_mul, dec_t, dec_f, f0, hbe, q0, q2, q6, hla, h5', h6', l2]
      · by_cases cp : p = q
        · rw [cp]; exact A2
        · rw [D2 _ _ (by omega), gnP_n (by omega)]; exact A p hp) (by
    rintro env k ⟨k5, v5, k6, v6, h5, h6, rfl, A, D⟩
    have Rk : R0 k μM h d n P M := R.cls (fun a b _ _ _ _ h5 _ _ _ _ _ => D a b (by omega))
    obtain ⟨h1, ⟨f0, -⟩, -, -, -, B, FF, -⟩ := Rk.gq
    have hbe := FF.be
    rw [B.n0] at hbe
    simp -implicitDefEqProofs (disch := omega) [kX5_prepare_1c, v_cop, v_c1, v_c2, v_c3, v_c4, v_c5, v_bin, v_bn, v_bn2, v_div, v_dv, v_dv2, v_une, v_un, v_loc, v_num, v_get, v_gt, v_ald, v_al, v_al2, v_len, v_ln, v_rl0, v_rl1, v_rl2, v_rl3, v_rl4, v_rl5, v_cmp, v_cp, v_cp2, v_zC, v_zc, v_con, v_kc, v_and, v_an1, v_an0, v_or, v_or1, v_or0, v_not, v_nt, v_boo, v_bo, v_cnd, v_cd1, v_cd0, v_cnc, v_cc1, v_cc0, v_ev0, v_ev, v_e1, v_e2, v_cve, v_cv, v_cse, v_cs, v_skip, v_seq, v_sq0, v_sq1, v_sqr, v_sts, v_st, v_inc, v_put, v_pt, v_pt2, v_fop, v_fo, v_fo2, v_ast, v_as, v_as2, v_as3, v_aop, v_ao, v_ao2, v_ao3, v_exs, v_ex, v_ifs, v_if1, v_if0, v_ret, v_rt, v_rez, v_rz, v_rev, v_brk, v_sws, v_sw, v_sw2, v_run, v_rb, v_turn, v_tu1, v_tu0, v_tu2, v_tu3, fst1, snd1, Option.map_some, Option.getD_some, enA, en, stE, okb, narV, rf_toNat, rf_nn, List.getElem?_cons_zero, List.getElem?_cons_succ, w32_id, w64_id, ite_t, ite_f, Int.toNat_add, Int.toNat_mul, dec_t, dec_f, f0, hbe]) (env := [(2, rf 114), (2, rf h), (2, rf 30), (2, rf 110), (0, 0), (3, 0), (3, 0)]) (μ := μ) ⟨3, 0, 3, 0, by decide, by decide, rfl, fun p hp => by rw [gnP_0]; exact z p hp, fun _ _ _ => rfl⟩
  exact ⟨env', m, lp, A, D⟩
