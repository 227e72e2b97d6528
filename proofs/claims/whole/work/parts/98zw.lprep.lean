/-! few looks: the class makes ready -/
/-- in which sets the beast that lay at place p is gone, of the beasts before B -/
def gnP (st : Nat → Int) (S : Nat → Nat) (K B p : Nat) : Nat := msk (fun k => anyN (fun b => decide (st (14 + b) = (p : Int)) && (S k).testBit b) B) K
set_option maxRecDepth 100000 in theorem gnP_s {st : Nat → Int} {S : Nat → Nat} {K B p : Nat} (h : st (14 + B) = (p : Int)) : gnP st S K B p ||| msk (fun k => (S k).testBit B) K = gnP st S K (B + 1) p := by
  apply Nat.eq_of_testBit_eq
  intro t
  unfold gnP
  rw [Nat.testBit_or, msk_bit, msk_bit, msk_bit]
  show _ = (decide (t < K) && (anyN (fun b => decide (st (14 + b) = (p : Int)) && (S t).testBit b) B || (decide (st (14 + B) = (p : Int)) && (S t).testBit B)))
  rw [decide_eq_true h, Bool.true_and]
  cases decide (t < K) <;> rfl
set_option maxRecDepth 100000 in theorem gnP_n {st : Nat → Int} {S : Nat → Nat} {K B p : Nat} (h : st (14 + B) ≠ (p : Int)) : gnP st S K (B + 1) p = gnP st S K B p := by
  unfold gnP
  refine msk_congr (fun k _ => ?_)
  show (anyN (fun b => decide (st (14 + b) = (p : Int)) && (S k).testBit b) B || (decide (st (14 + B) = (p : Int)) && (S k).testBit B)) = _
  rw [decide_eq_false h, Bool.false_and, Bool.or_false]
set_option maxRecDepth 100000 in theorem gnP_0 {st : Nat → Int} {S : Nat → Nat} {K p : Nat} : gnP st S K 0 p = 0 := by
  apply Nat.eq_of_testBit_eq
  intro t
  unfold gnP
  rw [msk_bit, Nat.zero_testBit]
  exact Bool.and_false _
set_option maxRecDepth 100000 in theorem gnP_lt {st : Nat → Int} {S : Nat → Nat} {K B p : Nat} (hK : K ≤ 16) : gnP st S K B p < 65536 := K16 hK (msk_lt _ K)
set_option maxRecDepth 100000 in theorem c_lp0 {μ : Mem} {h K : Nat} (hK1 : 1 ≤ K) (hK : K ≤ 16) (p2 : μ 114 2 = rf 116) (a0 : μ 114 0 = ((2 ^ K - 1 : Nat) : Int)) : ∃ μ', loopS 2 3 kX5_prepare_0c kX5_prepare_0b kX5_prepare_0u shC [(2, rf 114), (2, rf h), (2, rf 30), (2, rf 110), (0, 0), (3, 0), (3, 0)] μ = some (0, 0, [(2, rf 114), (2, rf h), (2, rf 30), (2, rf 110), (0, (((2 ^ K - 1) / 16 + 1 : Nat) : Int)), (3, 0), (3, 0)], μ') ∧ (∀ i, i < (2 ^ K - 1) / 16 + 1 → μ' 116 i = 0) ∧ ∀ x y, x ≠ 116 → μ' x y = μ x y := by
  have p16 : 2 ^ K ≤ 65536 := Nat.pow_le_pow_right (n := 2) (by decide) hK
  generalize hE : 2 ^ K - 1 = E at *
  have E1 : E < 65536 := by omega
  have s4 := ishr4 E1
  generalize hN : E / 16 = N at *
  have N1 : N < 4096 := by omega
  obtain ⟨env', m, lp, ⟨e0, A, D⟩⟩ := loop_n (kb := 2) (kc := 3) (c := kX5_prepare_0c) (body := kX5_prepare_0b) (upd := kX5_prepare_0u) (sh := shC) (n := N + 1) (fun j env k => env = [(2, rf 114), (2, rf h), (2, rf 30), (2, rf 110), (0, (j : Int)), (3, 0), (3, 0)] ∧ (∀ i, i < j → k 116 i = 0) ∧ ∀ x y, x ≠ 116 → k x y = μ x y) (by
    rintro j env k hj ⟨rfl, A, D⟩
    have q2 : k 114 2 = rf 116 := by rw [D _ _ (by omega)]; exact p2
    have q0 : k 114 0 = (E : Int) := by rw [D _ _ (by omega)]; exact a0
    refine ⟨[(2, rf 114), (2, rf h), (2, rf 30), (2, rf 110), (0, ((j + 1 : Nat) : Int)), (3, 0), (3, 0)], ud k 116 j 0, ?_, rfl, fun i hi => ?_, fun x y hx => by rw [ud_c hx]; exact D x y hx⟩
    · simp -implicitDefEqProofs (disch := omega) [kX5_prepare_0c, kX5_prepare_0b, kX5_prepare_0u, v_cop, v_c1, v_c2, v_c3, v_c4, v_c5, v_bin, v_bn, v_bn2, v_div, v_dv, v_dv2, v_une, v_un, v_loc, v_num, v_get, v_gt, v_ald, v_al, v_al2, v_len, v_ln, v_rl0, v_rl1, v_rl2, v_rl3, v_rl4, v_rl5, v_cmp, v_cp, v_cp2, v_zC, v_zc, v_con, v_kc, v_and, v_an1, v_an0, v_or, v_or1, v_or0, v_not, v_nt, v_boo, v_bo, v_cnd, v_cd1, v_cd0, v_cnc, v_cc1, v_cc0, v_ev0, v_ev, v_e1, v_e2, v_cve, v_cv, v_cse, v_cs, v_skip, v_seq, v_sq0, v_sq1, v_sqr, v_sts, v_st, v_inc, v_put, v_pt, v_pt2, v_fop, v_fo, v_fo2, v_ast, v_as, v_as2, v_as3, v_aop, v_ao, v_ao2, v_ao3, v_exs, v_ex, v_ifs, v_if1, v_if0, v_ret, v_rt, v_rez, v_rz, v_rev, v_brk, v_sws, v_sw, v_sw2, v_run, v_rb, v_turn, v_tu1, v_tu0, v_tu2, v_tu3, fst1, snd1, Option.map_some, Option.getD_some, enA, en, stE, okb, narV, rf_toNat, rf_nn, List.getElem?_cons_zero, List.getElem?_cons_succ, w32_id, w64_id, ite_t, ite_f, Int.toNat_add, Int.toNat_mul, dec_t, dec_f, sC_114, sC_116, q2, q0, s4]
    · by_cases c : i = j
      · rw [c, ud_s]
      · rw [ud_j c]; exact A i (by omega)) (by
    rintro env k ⟨rfl, A, D⟩
    have q2 : k 114 2 = rf 116 := by rw [D _ _ (by omega)]; exact p2
    have q0 : k 114 0 = (E : Int) := by rw [D _ _ (by omega)]; exact a0
    by_cases c : N + 1 < 4096
    · simp -implicitDefEqProofs (disch := omega) [kX5_prepare_0c, v_cop, v_c1, v_c2, v_c3, v_c4, v_c5, v_bin, v_bn, v_bn2, v_div, v_dv, v_dv2, v_une, v_un, v_loc, v_num, v_get, v_gt, v_ald, v_al, v_al2, v_len, v_ln, v_rl0, v_rl1, v_rl2, v_rl3, v_rl4, v_rl5, v_cmp, v_cp, v_cp2, v_zC, v_zc, v_con, v_kc, v_and, v_an1, v_an0, v_or, v_or1, v_or0, v_not, v_nt, v_boo, v_bo, v_cnd, v_cd1, v_cd0, v_cnc, v_cc1, v_cc0, v_ev0, v_ev, v_e1, v_e2, v_cve, v_cv, v_cse, v_cs, v_skip, v_seq, v_sq0, v_sq1, v_sqr, v_sts, v_st, v_inc, v_put, v_pt, v_pt2, v_fop, v_fo, v_fo2, v_ast, v_as, v_as2, v_as3, v_aop, v_ao, v_ao2, v_ao3, v_exs, v_ex, v_ifs, v_if1, v_if0, v_ret, v_rt, v_rez, v_rz, v_rev, v_brk, v_sws, v_sw, v_sw2, v_run, v_rb, v_turn, v_tu1, v_tu0, v_tu2, v_tu3, fst1, snd1, Option.map_some, Option.getD_some, enA, en, stE, okb, narV, rf_toNat, rf_nn, List.getElem?_cons_zero, List.getElem?_cons_succ, w32_id, w64_id, ite_t, ite_f, Int.toNat_add, Int.toNat_mul, dec_t, dec_f, sC_114, sC_116, q2, q0, s4]
    · simp -implicitDefEqProofs (disch := omega) [kX5_prepare_0c, v_cop, v_c1, v_c2, v_c3, v_c4, v_c5, v_bin, v_bn, v_bn2, v_div, v_dv, v_dv2, v_une, v_un, v_loc, v_num, v_get, v_gt, v_ald, v_al, v_al2, v_len, v_ln, v_rl0, v_rl1, v_rl2, v_rl3, v_rl4, v_rl5, v_cmp, v_cp, v_cp2, v_zC, v_zc, v_con, v_kc, v_and, v_an1, v_an0, v_or, v_or1, v_or0, v_not, v_nt, v_boo, v_bo, v_cnd, v_cd1, v_cd0, v_cnc, v_cc1, v_cc0, v_ev0, v_ev, v_e1, v_e2, v_cve, v_cv, v_cse, v_cs, v_skip, v_seq, v_sq0, v_sq1, v_sqr, v_sts, v_st, v_inc, v_put, v_pt, v_pt2, v_fop, v_fo, v_fo2, v_ast, v_as, v_as2, v_as3, v_aop, v_ao, v_ao2, v_ao3, v_exs, v_ex, v_ifs, v_if1, v_if0, v_ret, v_rt, v_rez, v_rz, v_rev, v_brk, v_sws, v_sw, v_sw2, v_run, v_rb, v_turn, v_tu1, v_tu0, v_tu2, v_tu3, fst1, snd1, Option.map_some, Option.getD_some, enA, en, stE, okb, narV, rf_toNat, rf_nn, List.getElem?_cons_zero, List.getElem?_cons_succ, w32_id, w64_id, ite_t, ite_f, Int.toNat_add, Int.toNat_mul, dec_t, dec_f, sC_114, sC_116, q2]) (env := [(2, rf 114), (2, rf h), (2, rf 30), (2, rf 110), (0, 0), (3, 0), (3, 0)]) (μ := μ) ⟨rfl, fun i hi => by omega, fun _ _ _ => rfl⟩
  subst e0
  exact ⟨m, lp, A, D⟩
/-- the class's first sets -/
def ClkT (μ : Mem) (S : Nat → Nat) (K : Nat) : Prop := μ 110 1 = (K : Int) ∧ μ 110 5 = rf 111 ∧ μ 114 1 = rf 115 ∧ ∀ k, k < K → μ 111 k = (S k : Int)
set_option maxRecDepth 100000 in theorem c_lp2 {μ : Mem} {h K b q : Nat} {S : Nat → Nat} (hK : K ≤ 16) (F : ClkT μ S K) (hS : ∀ k, k < K → S k < 4096) (hb : b < 12) (hq : q < 16) {X : Nat} (hX : X < 65536) (x0 : μ 115 q = (X : Int)) : ∃ μ', loopS 6 7 kX5_prepare_2c kX5_prepare_2b kX5_prepare_2u shC [(2, rf 114), (2, rf h), (2, rf 30), (2, rf 110), (0, (b : Int)), (0, (q : Int)), (0, 0)] μ = some (0, 0, [(2, rf 114), (2, rf h), (2, rf 30), (2, rf 110), (0, (b : Int)), (0, (q : Int)), (0, (K : Int))], μ') ∧ μ' 115 q = ((X ||| msk (fun k => (S k).testBit b) K : Nat) : Int) ∧ ∀ x y, ¬ (x = 115 ∧ y = q) → μ' x y = μ x y := by
  obtain ⟨env', m, lp, ⟨e0, A, D⟩⟩ := loop_n (kb := 6) (kc := 7) (c := kX5_prepare_2c) (body := kX5_prepare_2b) (upd := kX5_prepare_2u) (sh := shC) (n := K) (fun j env k => env = [(2, rf 114), (2, rf h), (2, rf 30), (2, rf 110), (0, (b : Int)), (0, (q : Int)), (0, (j : Int))] ∧ k 115 q = ((X ||| msk (fun k => (S k).testBit b) j : Nat) : Int) ∧ ∀ x y, ¬ (x = 115 ∧ y = q) → k x y = μ x y) (by
    rintro j env k hj ⟨rfl, A, D⟩
    have q1 : k 110 1 = (K : Int) := by rw [D _ _ (by omega)]; exact F.1
    have q2 : k 110 5 = rf 111 := by rw [D _ _ (by omega)]; exact F.2.1
    have q3 : k 114 1 = rf 115 := by rw [D _ _ (by omega)]; exact F.2.2.1
    have q4 : k 111 j = (S j : Int) := by rw [D _ _ (by omega)]; exact F.2.2.2 j hj
    have sj := hS j hj
    have bt := bit_nat (w := S j) (b := b) (by omega) (by omega)
    have ms : X ||| msk (fun k => (S k).testBit b) (j + 1) = (X ||| msk (fun k => (S k).testBit b) j) ||| (if (S j).testBit b then 2 ^ j else 0) := by
      rw [Nat.or_assoc]
      rfl
    have lt1 : X ||| msk (fun k => (S k).testBit b) j < 65536 := Nat.or_lt_two_pow (n := 16) hX (Nat.lt_of_lt_of_le (msk_lt _ j) (Nat.pow_le_pow_right (n := 2) (by decide) (by omega)))
    have lt2 : 2 ^ j < 65536 := Nat.lt_of_lt_of_le (Nat.pow_lt_pow_right (a := 2) (by decide) (show j < 16 by omega)) (Nat.le_refl _)
    refine ⟨[(2, rf 114), (2, rf h), (2, rf 30), (2, rf 110), (0, (b : Int)), (0, (q : Int)), (0, ((j + 1 : Nat) : Int))], ud k 115 q ((X ||| msk (fun k => (S k).testBit b) (j + 1) : Nat) : Int), ?_, rfl, ud_s, fun x y hx => by rw [ud_n hx]; exact D x y hx⟩
    rw [ms]
    generalize X ||| msk (fun k => (S k).testBit b) j = Y at *
    generalize S j = s at *
    clear hS F ms D
    cases hc : s.testBit b with
    | true =>
      rw [hc] at bt
      have e1 := ishl1 (b := j) (by omega)
      have e2 := ior_nat (a := Y) (b := 2 ^ j) (by omega) (by omega)
      generalize hV : Y ||| 2 ^ j = V at *
      generalize ((2 ^ j : Nat) : Int) = TJ at *
      simp -implicitDefEqProofs (disch := omega) [kX5_prepare_2c, kX5_prepare_2b, kX5_prepare_2u, v_cop, v_c1, v_c2, v_c3, v_c4, v_c5, v_bin, v_bn, v_bn2, v_div, v_dv, v_dv2, v_une, v_un, v_loc, v_num, v_get, v_gt, v_ald, v_al, v_al2, v_len, v_ln, v_rl0, v_rl1, v_rl2, v_rl3, v_rl4, v_rl5, v_cmp, v_cp, v_cp2, v_zC, v_zc, v_con, v_kc, v_and, v_an1, v_an0, v_or, v_or1, v_or0, v_not, v_nt, v_boo, v_bo, v_cnd, v_cd1, v_cd0, v_cnc, v_cc1, v_cc0, v_ev0, v_ev, v_e1, v_e2, v_cve, v_cv, v_cse, v_cs, v_skip, v_seq, v_sq0, v_sq1, v_sqr, v_sts, v_st, v_inc, v_put, v_pt, v_pt2, v_fop, v_fo, v_fo2, v_ast, v_as, v_as2, v_as3, v_aop, v_ao, v_ao2, v_ao3, v_exs, v_ex, v_ifs, v_if1, v_if0, v_ret, v_rt, v_rez, v_rz, v_rev, v_brk, v_sws, v_sw, v_sw2, v_run, v_rb, v_turn, v_tu1, v_tu0, v_tu2, v_tu3, fst1, snd1, Option.map_some, Option.getD_some, enA, en, stE, okb, narV, rf_toNat, rf_nn, List.getElem?_cons_zero, List.getElem?_cons_succ, w32_id, w64_id, ite_t, ite_f, Int.toNat_add, Int.toNat_mul, dec_t, dec_f, sC_110, sC_111, sC_114, sC_115, q1, q2, q3, q4, A, bt, e1, e2, hV]
    | false =>
      rw [hc] at bt
      have e1 := ishl_nat (a := 0) (b := j) (by omega) (by omega)
      rw [Nat.zero_mul, show ((0 : Nat) : Int) = 0 from rfl] at e1
      have e2 := ior_nat (a := Y) (b := 0) (by omega) (by omega)
      rw [Nat.or_zero, show ((0 : Nat) : Int) = 0 from rfl] at e2
      simp -implicitDefEqProofs (disch := omega) [kX5_prepare_2c, kX5_prepare_2b, kX5_prepare_2u, v_cop, v_c1, v_c2, v_c3, v_c4, v_c5, v_bin, v_bn, v_bn2, v_div, v_dv, v_dv2, v_une, v_un, v_loc, v_num, v_get, v_gt, v_ald, v_al, v_al2, v_len, v_ln, v_rl0, v_rl1, v_rl2, v_rl3, v_rl4, v_rl5, v_cmp, v_cp, v_cp2, v_zC, v_zc, v_con, v_kc, v_and, v_an1, v_an0, v_or, v_or1, v_or0, v_not, v_nt, v_boo, v_bo, v_cnd, v_cd1, v_cd0, v_cnc, v_cc1, v_cc0, v_ev0, v_ev, v_e1, v_e2, v_cve, v_cv, v_cse, v_cs, v_skip, v_seq, v_sq0, v_sq1, v_sqr, v_sts, v_st, v_inc, v_put, v_pt, v_pt2, v_fop, v_fo, v_fo2, v_ast, v_as, v_as2, v_as3, v_aop, v_ao, v_ao2, v_ao3, v_exs, v_ex, v_ifs, v_if1, v_if0, v_ret, v_rt, v_rez, v_rz, v_rev, v_brk, v_sws, v_sw, v_sw2, v_run, v_rb, v_turn, v_tu1, v_tu0, v_tu2, v_tu3, fst1, snd1, Option.map_some, Option.getD_some, enA, en, stE, okb, narV, rf_toNat, rf_nn, List.getElem?_cons_zero, List.getElem?_cons_succ, w32_id, w64_id, ite_t, ite_f, Int.toNat_add, Int.toNat_mul, dec_t, dec_f, sC_110, sC_111, sC_114, sC_115, q1, q2, q3, q4, A, bt, e1, e2]) (by
    rintro env k ⟨rfl, A, D⟩
    have q1 : k 110 1 = (K : Int) := by rw [D _ _ (by omega)]; exact F.1
    simp -implicitDefEqProofs (disch := omega) [kX5_prepare_2c, v_cop, v_c1, v_c2, v_c3, v_c4, v_c5, v_bin, v_bn, v_bn2, v_div, v_dv, v_dv2, v_une, v_un, v_loc, v_num, v_get, v_gt, v_ald, v_al, v_al2, v_len, v_ln, v_rl0, v_rl1, v_rl2, v_rl3, v_rl4, v_rl5, v_cmp, v_cp, v_cp2, v_zC, v_zc, v_con, v_kc, v_and, v_an1, v_an0, v_or, v_or1, v_or0, v_not, v_nt, v_boo, v_bo, v_cnd, v_cd1, v_cd0, v_cnc, v_cc1, v_cc0, v_ev0, v_ev, v_e1, v_e2, v_cve, v_cv, v_cse, v_cs, v_skip, v_seq, v_sq0, v_sq1, v_sqr, v_sts, v_st, v_inc, v_put, v_pt, v_pt2, v_fop, v_fo, v_fo2, v_ast, v_as, v_as2, v_as3, v_aop, v_ao, v_ao2, v_ao3, v_exs, v_ex, v_ifs, v_if1, v_if0, v_ret, v_rt, v_rez, v_rz, v_rev, v_brk, v_sws, v_sw, v_sw2, v_run, v_rb, v_turn, v_tu1, v_tu0, v_tu2, v_tu3, fst1, snd1, Option.map_some, Option.getD_some, enA, en, stE, okb, narV, rf_toNat, rf_nn, List.getElem?_cons_zero, List.getElem?_cons_succ, w32_id, w64_id, ite_t, ite_f, Int.toNat_add, Int.toNat_mul, dec_t, dec_f, sC_110, q1]) (env := [(2, rf 114), (2, rf h), (2, rf 30), (2, rf 110), (0, (b : Int)), (0, (q : Int)), (0, 0)]) (μ := μ) ⟨rfl, by rw [x0, show msk (fun k => (S k).testBit b) 0 = 0 from rfl, Nat.or_zero], fun _ _ _ => rfl⟩
  subst e0
  exact ⟨m, lp, A, D⟩
