/-! an evening closed: the class -/
noncomputable def samS (nw old : Nat → Int) (j : Nat) : Int := by
  classical
  exact if ∀ b, b < j → nw b = old b then 1 else 0
set_option maxRecDepth 100000 in theorem sam_t {nw old : Nat → Int} {j : Nat} (h : ∀ b, b < j → nw b = old b) : samS nw old j = 1 := by
  unfold samS
  exact if_pos h
set_option maxRecDepth 100000 in theorem sam_f {nw old : Nat → Int} {j : Nat} (h : ¬ ∀ b, b < j → nw b = old b) : samS nw old j = 0 := by
  unfold samS
  exact if_neg h
set_option maxRecDepth 100000 in theorem sam_s {nw old : Nat → Int} {j : Nat} : samS nw old (j + 1) = if samS nw old j = 1 ∧ nw j = old j then 1 else 0 := by
  by_cases c : ∀ b, b < j → nw b = old b
  · rw [sam_t c]
    by_cases c2 : nw j = old j
    · rw [if_pos ⟨rfl, c2⟩]
      refine sam_t (fun b hb => ?_)
      by_cases e : b = j
      · rw [e]; exact c2
      · exact c b (by omega)
    · rw [if_neg (fun z => c2 z.2)]
      exact sam_f (fun z => c2 (z j (by omega)))
  · rw [sam_f c, if_neg (fun z => by have := z.1; omega)]
    exact sam_f (fun z => c (fun b hb => z b (by omega)))
set_option maxRecDepth 100000 in theorem sam_01 (nw old : Nat → Int) (j : Nat) : samS nw old j = 0 ∨ samS nw old j = 1 := by
  unfold samS
  split
  · exact .inr rfl
  · exact .inl rfl
set_option maxRecDepth 100000 in theorem sam_n {nw old : Nat → Int} {n m : Nat} (hm : n ≤ m) (h1 : ∀ b, n ≤ b → b < m → nw b = old b) : samS nw old n = samS nw old m := by
  by_cases c : ∀ b, b < n → nw b = old b
  · rw [sam_t c, sam_t (fun b hb => by
      by_cases e : b < n
      · exact c b e
      · exact h1 b (by omega) hb)]
  · rw [sam_f c, sam_f (fun z => c (fun b hb => z b (by omega)))]
noncomputable def adjJ (nw : Nat → Int) (j : Nat) (x y : Nat) : Int := if ((0 ≤ nw x ∧ 0 ≤ nw y) ∧ (nw x - nw y = 1 ∨ nw x - nw y = -1)) ∧ nw x < (j : Int) ∧ nw y < (j : Int) then 1 else 0
set_option maxRecDepth 100000 in theorem c_closed0 {μ : Mem} {k : Nat} {st nw old : Nat → Int} (o : ObLy shC μ k) (hk : k = 30 ∨ k = 35) (p1 : μ 106 1 = rf 108) (c : ∀ b, b < 12 → μ (k + 1) b = nw b) (bf : ∀ b, b < 12 → μ 108 b = old b) (ln : ∀ b, b < 12 → μ (k + 3) b = st (26 + b)) (hw : ∀ b, -1 ≤ nw b) : ∃ μ', loopS 2 3 kX0_closed_0c kX0_closed_0b kX0_closed_0u shC [(2, rf 106), (2, rf k), (0, 1), (0, 0), (3, 0), (3, 0)] μ = some (0, 0, [(2, rf 106), (2, rf k), (0, samS nw old 12), (0, 12), (3, 0), (3, 0)], μ') ∧ (∀ b, b < 12 → μ' (k + 2) b = nw b) ∧ (∀ b, b < 12 → μ' (k + 3) b = if 0 ≤ nw b then w32 (st (26 + b) + 1) else st (26 + b)) ∧ ∀ x y, x ≠ k + 2 → x ≠ k + 3 → μ' x y = μ x y := by
  obtain ⟨k0, k1, k2, k3, k4, k5, k6, k7, k8⟩ := o
  obtain ⟨env', m, lp, ⟨h3, A1, A2, A3, D⟩⟩ := loop_n (kb := 2) (kc := 3) (c := kX0_closed_0c) (body := kX0_closed_0b) (upd := kX0_closed_0u) (sh := shC) (n := 12) (fun j env m => env = [(2, rf 106), (2, rf k), (0, samS nw old j), (0, (j : Int)), (3, 0), (3, 0)] ∧ (∀ b, b < j → m (k + 2) b = nw b) ∧ (∀ b, b < j → m (k + 3) b = if 0 ≤ nw b then w32 (st (26 + b) + 1) else st (26 + b)) ∧ (∀ b, j ≤ b → b < 12 → m (k + 3) b = st (26 + b)) ∧ ∀ x y, x ≠ k + 2 → x ≠ k + 3 → m x y = μ x y) (by
    rintro j env m hj ⟨rfl, A1, A2, A3, D⟩
    have e1 : m (k + 1) j = nw j := by rw [D _ _ (by omega) (by omega)]; exact c j hj
    have e2 : m 108 j = old j := by rw [D _ _ (by omega) (by omega)]; exact bf j hj
    have q1 : m 106 1 = rf 108 := by rw [D _ _ (by omega) (by omega)]; exact p1
    have q5 : m k 2 = rf (k + 1) := by rw [D _ _ (by omega) (by omega)]; exact k5
    have q6 : m k 3 = rf (k + 2) := by rw [D _ _ (by omega) (by omega)]; exact k6
    have q7 : m k 4 = rf (k + 3) := by rw [D _ _ (by omega) (by omega)]; exact k7
    have e3 := A3 j (by omega) hj
    have w := hw j
    have ss := sam_s (nw := nw) (old := old) (j := j)
    have s01 := sam_01 nw old j
    have r5 : ud m (k + 2) j (nw j) k 2 = rf (k + 1) := by rw [ud_c (by omega)]; exact q5
    have r7 : ud m (k + 2) j (nw j) k 4 = rf (k + 3) := by rw [ud_c (by omega)]; exact q7
    have r1 : ud m (k + 2) j (nw j) (k + 1) j = nw j := by rw [ud_c (by omega)]; exact e1
    have r3 : ud m (k + 2) j (nw j) (k + 3) j = st (26 + j) := by rw [ud_c (by omega)]; exact e3
    have hj' : (j : Int) < 12 := by omega
    have first : stS 2 0 (boolE (andC (zC 1 (locE 0 2)) (cmpC 0 (aldE 100 (getE 6 2 2 (locE 2 1)) (locE 0 3)) (aldE 100 (getE 0 1 2 (locE 2 0)) (locE 0 3))))) shC [(2, rf 106), (2, rf k), (0, samS nw old j), (0, (j : Int)), (3, 0), (3, 0)] m = some (0, 0, [(2, rf 106), (2, rf k), (0, samS nw old (j + 1)), (0, (j : Int)), (3, 0), (3, 0)], m) := by
      rw [ss]
      rcases s01 with s | s
      · rw [s, if_neg (by omega)]
        simp -implicitDefEqProofs (disch := omega) [v_cop, v_c1, v_c2, v_c3, v_c4, v_c5, v_bin, v_bn, v_bn2, v_div, v_dv, v_dv2, v_une, v_un, v_loc, v_num, v_get, v_gt, v_ald, v_al, v_al2, v_len, v_ln, v_rl0, v_rl1, v_rl2, v_rl3, v_rl4, v_rl5, v_cmp, v_cp, v_cp2, v_zC, v_zc, v_con, v_kc, v_and, v_an1, v_an0, v_or, v_or1, v_or0, v_not, v_nt, v_boo, v_bo, v_cnd, v_cd1, v_cd0, v_cnc, v_cc1, v_cc0, v_ev0, v_ev, v_e1, v_e2, v_cve, v_cv, v_cse, v_cs, v_skip, v_seq, v_sq0, v_sq1, v_sqr, v_sts, v_st, v_inc, v_put, v_pt, v_pt2, v_fop, v_fo, v_fo2, v_ast, v_as, v_as2, v_as3, v_aop, v_ao, v_ao2, v_ao3, v_exs, v_ex, v_ifs, v_if1, v_if0, v_ret, v_rt, v_rez, v_rz, v_rev, v_brk, v_sws, v_sw, v_sw2, v_run, v_rb, v_turn, v_tu1, v_tu0, v_tu2, v_tu3, fst1, snd1, Option.map_some, Option.getD_some, enA, en, stE, okb, narV, rf_toNat, rf_nn, List.getElem?_cons_zero, List.getElem?_cons_succ, w32_id, w64_id, ite_t, ite_f, Int.toNat_add, Int.toNat_mul, dec_t, dec_f]
      · rw [s]
        by_cases cc : nw j = old j
        · rw [if_pos ⟨rfl, cc⟩]
          simp -implicitDefEqProofs (disch := omega) [v_cop, v_c1, v_c2, v_c3, v_c4, v_c5, v_bin, v_bn, v_bn2, v_div, v_dv, v_dv2, v_une, v_un, v_loc, v_num, v_get, v_gt, v_ald, v_al, v_al2, v_len, v_ln, v_rl0, v_rl1, v_rl2, v_rl3, v_rl4, v_rl5, v_cmp, v_cp, v_cp2, v_zC, v_zc, v_con, v_kc, v_and, v_an1, v_an0, v_or, v_or1, v_or0, v_not, v_nt, v_boo, v_bo, v_cnd, v_cd1, v_cd0, v_cnc, v_cc1, v_cc0, v_ev0, v_ev, v_e1, v_e2, v_cve, v_cv, v_cse, v_cs, v_skip, v_seq, v_sq0, v_sq1, v_sqr, v_sts, v_st, v_inc, v_put, v_pt, v_pt2, v_fop, v_fo, v_fo2, v_ast, v_as, v_as2, v_as3, v_aop, v_ao, v_ao2, v_ao3, v_exs, v_ex, v_ifs, v_if1, v_if0, v_ret, v_rt, v_rez, v_rz, v_rev, v_brk, v_sws, v_sw, v_sw2, v_run, v_rb, v_turn, v_tu1, v_tu0, v_tu2, v_tu3, fst1, snd1, Option.map_some, Option.getD_some, enA, en, stE, okb, narV, rf_toNat, rf_nn, List.getElem?_cons_zero, List.getElem?_cons_succ, w32_id, w64_id, ite_t, ite_f, Int.toNat_add, Int.toNat_mul, dec_t, dec_f, k0, k1, q5, e1, hj, sC_106, sC_108, q1, e2, cc]
        · rw [if_neg (fun z => cc z.2)]
          simp -implicitDefEqProofs (disch := omega) [v_cop, v_c1, v_c2, v_c3, v_c4, v_c5, v_bin, v_bn, v_bn2, v_div, v_dv, v_dv2, v_une, v_un, v_loc, v_num, v_get, v_gt, v_ald, v_al, v_al2, v_len, v_ln, v_rl0, v_rl1, v_rl2, v_rl3, v_rl4, v_rl5, v_cmp, v_cp, v_cp2, v_zC, v_zc, v_con, v_kc, v_and, v_an1, v_an0, v_or, v_or1, v_or0, v_not, v_nt, v_boo, v_bo, v_cnd, v_cd1, v_cd0, v_cnc, v_cc1, v_cc0, v_ev0, v_ev, v_e1, v_e2, v_cve, v_cv, v_cse, v_cs, v_skip, v_seq, v_sq0, v_sq1, v_sqr, v_sts, v_st, v_inc, v_put, v_pt, v_pt2, v_fop, v_fo, v_fo2, v_ast, v_as, v_as2, v_as3, v_aop, v_ao, v_ao2, v_ao3, v_exs, v_ex, v_ifs, v_if1, v_if0, v_ret, v_rt, v_rez, v_rz, v_rev, v_brk, v_sws, v_sw, v_sw2, v_run, v_rb, v_turn, v_tu1, v_tu0, v_tu2, v_tu3, fst1, snd1, Option.map_some, Option.getD_some, enA, en, stE, okb, narV, rf_toNat, rf_nn, List.getElem?_cons_zero, List.getElem?_cons_succ, w32_id, w64_id, ite_t, ite_f, Int.toNat_add, Int.toNat_mul, dec_t, dec_f, k0, k1, q5, e1, hj, sC_106, sC_108, q1, e2, cc]
    generalize samS nw old (j + 1) = S at *
    by_cases cn : nw j = -1
    · refine ⟨[(2, rf 106), (2, rf k), (0, S), (0, ((j + 1 : Nat) : Int)), (3, 0), (3, 0)], ud m (k + 2) j (nw j), ?_, rfl, fun b hb => ?_, fun b hb => ?_, fun b h1 h2 => ?_, fun x y h1 h2 => by rw [ud_c h1]; exact D x y h1 h2⟩
      · have t : kX0_closed_0b shC [(2, rf 106), (2, rf k), (0, samS nw old j), (0, (j : Int)), (3, 0), (3, 0)] m = some (0, 0, [(2, rf 106), (2, rf k), (0, S), (0, (j : Int)), (3, 0), (3, 0)], ud m (k + 2) j (nw j)) := by
          unfold kX0_closed_0b
          rw [v_seq, first, v_sq0]
          rw [cn] at r5 r1 e1 ⊢
          simp -implicitDefEqProofs (disch := omega) [v_cop, v_c1, v_c2, v_c3, v_c4, v_c5, v_bin, v_bn, v_bn2, v_div, v_dv, v_dv2, v_une, v_un, v_loc, v_num, v_get, v_gt, v_ald, v_al, v_al2, v_len, v_ln, v_rl0, v_rl1, v_rl2, v_rl3, v_rl4, v_rl5, v_cmp, v_cp, v_cp2, v_zC, v_zc, v_con, v_kc, v_and, v_an1, v_an0, v_or, v_or1, v_or0, v_not, v_nt, v_boo, v_bo, v_cnd, v_cd1, v_cd0, v_cnc, v_cc1, v_cc0, v_ev0, v_ev, v_e1, v_e2, v_cve, v_cv, v_cse, v_cs, v_skip, v_seq, v_sq0, v_sq1, v_sqr, v_sts, v_st, v_inc, v_put, v_pt, v_pt2, v_fop, v_fo, v_fo2, v_ast, v_as, v_as2, v_as3, v_aop, v_ao, v_ao2, v_ao3, v_exs, v_ex, v_ifs, v_if1, v_if0, v_ret, v_rt, v_rez, v_rz, v_rev, v_brk, v_sws, v_sw, v_sw2, v_run, v_rb, v_turn, v_tu1, v_tu0, v_tu2, v_tu3, fst1, snd1, Option.map_some, Option.getD_some, enA, en, stE, okb, narV, rf_toNat, rf_nn, List.getElem?_cons_zero, List.getElem?_cons_succ, w32_id, w64_id, ite_t, ite_f, Int.toNat_add, Int.toNat_mul, dec_t, dec_f, k0, k1, k2, q5, q6, e1, hj, r5, r1]
        simp -implicitDefEqProofs (disch := omega) [kX0_closed_0c, kX0_closed_0u, v_cop, v_c1, v_c2, v_c3, v_c4, v_c5, v_bin, v_bn, v_bn2, v_div, v_dv, v_dv2, v_une, v_un, v_loc, v_num, v_get, v_gt, v_ald, v_al, v_al2, v_len, v_ln, v_rl0, v_rl1, v_rl2, v_rl3, v_rl4, v_rl5, v_cmp, v_cp, v_cp2, v_zC, v_zc, v_con, v_kc, v_and, v_an1, v_an0, v_or, v_or1, v_or0, v_not, v_nt, v_boo, v_bo, v_cnd, v_cd1, v_cd0, v_cnc, v_cc1, v_cc0, v_ev0, v_ev, v_e1, v_e2, v_cve, v_cv, v_cse, v_cs, v_skip, v_seq, v_sq0, v_sq1, v_sqr, v_sts, v_st, v_inc, v_put, v_pt, v_pt2, v_fop, v_fo, v_fo2, v_ast, v_as, v_as2, v_as3, v_aop, v_ao, v_ao2, v_ao3, v_exs, v_ex, v_ifs, v_if1, v_if0, v_ret, v_rt, v_rez, v_rz, v_rev, v_brk, v_sws, v_sw, v_sw2, v_run, v_rb, v_turn, v_tu1, v_tu0, v_tu2, v_tu3, fst1, snd1, Option.map_some, Option.getD_some, enA, en, stE, okb, narV, rf_toNat, rf_nn, List.getElem?_cons_zero, List.getElem?_cons_succ, w32_id, w64_id, ite_t, ite_f, Int.toNat_add, Int.toNat_mul, dec_t, dec_f, hj, hj', t]
      · by_cases e : b = j
        · rw [e, ud_s]
        · rw [ud_j e]; exact A1 b (by omega)
      · rw [ud_c (by omega)]
        by_cases e : b = j
        · rw [e, if_neg (by omega)]; exact e3
        · exact A2 b (by omega)
      · rw [ud_c (by omega)]; exact A3 b (by omega) h2
    · refine ⟨[(2, rf 106), (2, rf k), (0, S), (0, ((j + 1 : Nat) : Int)), (3, 0), (3, 0)], ud (ud m (k + 2) j (nw j)) (k + 3) j (w32 (st (26 + j) + 1)), ?_, rfl, fun b hb => ?_, fun b hb => ?_, fun b h1 h2 => ?_, fun x y h1 h2 => by rw [ud_c h2, ud_c h1]; exact D x y h1 h2⟩
      · have t : kX0_closed_0b shC [(2, rf 106), (2, rf k), (0, samS nw old j), (0, (j : Int)), (3, 0), (3, 0)] m = some (0, 0, [(2, rf 106), (2, rf k), (0, S), (0, (j : Int)), (3, 0), (3, 0)], ud (ud m (k + 2) j (nw j)) (k + 3) j (w32 (st (26 + j) + 1))) := by
          unfold kX0_closed_0b
          rw [v_seq, first, v_sq0]
          simp -implicitDefEqProofs (disch := omega) [-w32_id, v_cop, v_c1, v_c2, v_c3, v_c4, v_c5, v_bin, v_bn, v_bn2, v_div, v_dv, v_dv2, v_une, v_un, v_loc, v_num, v_get, v_gt, v_ald, v_al, v_al2, v_len, v_ln, v_rl0, v_rl1, v_rl2, v_rl3, v_rl4, v_rl5, v_cmp, v_cp, v_cp2, v_zC, v_zc, v_con, v_kc, v_and, v_an1, v_an0, v_or, v_or1, v_or0, v_not, v_nt, v_boo, v_bo, v_cnd, v_cd1, v_cd0, v_cnc, v_cc1, v_cc0, v_ev0, v_ev, v_e1, v_e2, v_cve, v_cv, v_cse, v_cs, v_skip, v_seq, v_sq0, v_sq1, v_sqr, v_sts, v_st, v_inc, v_put, v_pt, v_pt2, v_fop, v_fo, v_fo2, v_ast, v_as, v_as2, v_as3, v_aop, v_ao, v_ao2, v_ao3, v_exs, v_ex, v_ifs, v_if1, v_if0, v_ret, v_rt, v_rez, v_rz, v_rev, v_brk, v_sws, v_sw, v_sw2, v_run, v_rb, v_turn, v_tu1, v_tu0, v_tu2, v_tu3, fst1, snd1, Option.map_some, Option.getD_some, enA, en, stE, okb, narV, rf_toNat, rf_nn, List.getElem?_cons_zero, List.getElem?_cons_succ, w32_id, w64_id, ite_t, ite_f, Int.toNat_add, Int.toNat_mul, dec_t, dec_f, k0, k1, k2, k3, q5, q6, e1, hj, r5, r1, r7, r3, cn]
        simp -implicitDefEqProofs (disch := omega) [kX0_closed_0c, kX0_closed_0u, v_cop, v_c1, v_c2, v_c3, v_c4, v_c5, v_bin, v_bn, v_bn2, v_div, v_dv, v_dv2, v_une, v_un, v_loc, v_num, v_get, v_gt, v_ald, v_al, v_al2, v_len, v_ln, v_rl0, v_rl1, v_rl2, v_rl3, v_rl4, v_rl5, v_cmp, v_cp, v_cp2, v_zC, v_zc, v_con, v_kc, v_and, v_an1, v_an0, v_or, v_or1, v_or0, v_not, v_nt, v_boo, v_bo, v_cnd, v_cd1, v_cd0, v_cnc, v_cc1, v_cc0, v_ev0, v_ev, v_e1, v_e2, v_cve, v_cv, v_cse, v_cs, v_skip, v_seq, v_sq0, v_sq1, v_sqr, v_sts, v_st, v_inc, v_put, v_pt, v_pt2, v_fop, v_fo, v_fo2, v_ast, v_as, v_as2, v_as3, v_aop, v_ao, v_ao2, v_ao3, v_exs, v_ex, v_ifs, v_if1, v_if0, v_ret, v_rt, v_rez, v_rz, v_rev, v_brk, v_sws, v_sw, v_sw2, v_run, v_rb, v_turn, v_tu1, v_tu0, v_tu2, v_tu3, fst1, snd1, Option.map_some, Option.getD_some, enA, en, stE, okb, narV, rf_toNat, rf_nn, List.getElem?_cons_zero, List.getElem?_cons_succ, w32_id, w64_id, ite_t, ite_f, Int.toNat_add, Int.toNat_mul, dec_t, dec_f, hj, hj', t]
      · rw [ud_c (by omega)]
        by_cases e : b = j
        · rw [e, ud_s]
        · rw [ud_j e]; exact A1 b (by omega)
      · by_cases e : b = j
        · rw [e, ud_s, if_pos (by omega)]
        · rw [ud_j e, ud_c (by omega)]; exact A2 b (by omega)
      · rw [ud_j (by omega), ud_c (by omega)]; exact A3 b (by omega) h2) (by
    rintro env m ⟨rfl, -⟩
    simp -implicitDefEqProofs (disch := omega) [kX0_closed_0c, v_cop, v_c1, v_c2, v_c3, v_c4, v_c5, v_bin, v_bn, v_bn2, v_div, v_dv, v_dv2, v_une, v_un, v_loc, v_num, v_get, v_gt, v_ald, v_al, v_al2, v_len, v_ln, v_rl0, v_rl1, v_rl2, v_rl3, v_rl4, v_rl5, v_cmp, v_cp, v_cp2, v_zC, v_zc, v_con, v_kc, v_and, v_an1, v_an0, v_or, v_or1, v_or0, v_not, v_nt, v_boo, v_bo, v_cnd, v_cd1, v_cd0, v_cnc, v_cc1, v_cc0, v_ev0, v_ev, v_e1, v_e2, v_cve, v_cv, v_cse, v_cs, v_skip, v_seq, v_sq0, v_sq1, v_sqr, v_sts, v_st, v_inc, v_put, v_pt, v_pt2, v_fop, v_fo, v_fo2, v_ast, v_as, v_as2, v_as3, v_aop, v_ao, v_ao2, v_ao3, v_exs, v_ex, v_ifs, v_if1, v_if0, v_ret, v_rt, v_rez, v_rz, v_rev, v_brk, v_sws, v_sw, v_sw2, v_run, v_rb, v_turn, v_tu1, v_tu0, v_tu2, v_tu3, fst1, snd1, Option.map_some, Option.getD_some, enA, en, stE, okb, narV, rf_toNat, rf_nn, List.getElem?_cons_zero, List.getElem?_cons_succ, w32_id, w64_id, ite_t, ite_f, Int.toNat_add, Int.toNat_mul, dec_t, dec_f]) (env := [(2, rf 106), (2, rf k), (0, 1), (0, 0), (3, 0), (3, 0)]) (μ := μ) ⟨by
      have : samS nw old 0 = 1 := by unfold samS; rw [if_pos (fun b hb => by omega)]
      rw [this]; rfl, fun b hb => by omega, fun b hb => by omega, fun b _ hb => ln b hb, fun _ _ _ _ => rfl⟩
  subst h3
  exact ⟨m, lp, A1, A2, D⟩
set_option maxRecDepth 100000 in theorem adj_s {nw : Nat → Int} {n P : Nat} (W : NW nw n P) {j x y : Nat} (h : ¬ (nw x = (j : Int) ∧ nw y = (j : Int) - 1 ∧ 1 ≤ j) ∧ ¬ (nw y = (j : Int) ∧ nw x = (j : Int) - 1 ∧ 1 ≤ j)) : adjJ nw (j + 1) x y = adjJ nw j x y := by
  unfold adjJ
  by_cases c : ((0 ≤ nw x ∧ 0 ≤ nw y) ∧ (nw x - nw y = 1 ∨ nw x - nw y = -1)) ∧ nw x < (j : Int) ∧ nw y < (j : Int)
  · rw [if_pos c, if_pos (by omega)]
  · rw [if_neg c, if_neg (by omega)]
set_option maxRecDepth 100000 in theorem c_bes1 {μ : Mem} {k a b : Nat} {S j : Int} (k0 : shC[k]? = some (6, 0)) (k4 : shC[k + 4]? = some (100, 144)) (q8 : μ k 5 = rf (k + 4)) (ha : a < 12) (hb : b < 12) : aopS 100 (fun x y => w32 (x + y)) (getE 6 5 2 (locE 2 1)) (binE (fun x y => w32 (x + y)) (binE (fun x y => w32 (x * y)) (locE 0 4) (numE 12)) (locE 0 5)) (numE 1) shC [(2, rf 106), (2, rf k), (0, S), (0, j), (0, (a : Int)), (0, (b : Int))] μ = some (0, 0, [(2, rf 106), (2, rf k), (0, S), (0, j), (0, (a : Int)), (0, (b : Int))], ud μ (k + 4) (a * 12 + b) (w32 (μ (k + 4) (a * 12 + b) + 1))) := by
  have i1 : ((a : Int) * 12 + (b : Int)).toNat = a * 12 + b := by omega
  simp -implicitDefEqProofs (disch := omega) [v_cop, v_c1, v_c2, v_c3, v_c4, v_c5, v_bin, v_bn, v_bn2, v_div, v_dv, v_dv2, v_une, v_un, v_loc, v_num, v_get, v_gt, v_ald, v_al, v_al2, v_len, v_ln, v_rl0, v_rl1, v_rl2, v_rl3, v_rl4, v_rl5, v_cmp, v_cp, v_cp2, v_zC, v_zc, v_con, v_kc, v_and, v_an1, v_an0, v_or, v_or1, v_or0, v_not, v_nt, v_boo, v_bo, v_cnd, v_cd1, v_cd0, v_cnc, v_cc1, v_cc0, v_ev0, v_ev, v_e1, v_e2, v_cve, v_cv, v_cse, v_cs, v_skip, v_seq, v_sq0, v_sq1, v_sqr, v_sts, v_st, v_inc, v_put, v_pt, v_pt2, v_fop, v_fo, v_fo2, v_ast, v_as, v_as2, v_as3, v_aop, v_ao, v_ao2, v_ao3, v_exs, v_ex, v_ifs, v_if1, v_if0, v_ret, v_rt, v_rez, v_rz, v_rev, v_brk, v_sws, v_sw, v_sw2, v_run, v_rb, v_turn, v_tu1, v_tu0, v_tu2, v_tu3, fst1, snd1, Option.map_some, Option.getD_some, enA, en, stE, okb, narV, rf_toNat, rf_nn, List.getElem?_cons_zero, List.getElem?_cons_succ, w32_id, w64_id, ite_t, ite_f, Int.toNat_add, Int.toNat_mul, dec_t, dec_f, k0, k4, q8, i1]
set_option maxRecDepth 100000 in theorem c_bes2 {μ : Mem} {k a b : Nat} {S j : Int} (k0 : shC[k]? = some (6, 0)) (k4 : shC[k + 4]? = some (100, 144)) (q8 : μ k 5 = rf (k + 4)) (ha : a < 12) (hb : b < 12) : aopS 100 (fun x y => w32 (x + y)) (getE 6 5 2 (locE 2 1)) (binE (fun x y => w32 (x + y)) (binE (fun x y => w32 (x * y)) (locE 0 5) (numE 12)) (locE 0 4)) (numE 1) shC [(2, rf 106), (2, rf k), (0, S), (0, j), (0, (a : Int)), (0, (b : Int))] μ = some (0, 0, [(2, rf 106), (2, rf k), (0, S), (0, j), (0, (a : Int)), (0, (b : Int))], ud μ (k + 4) (b * 12 + a) (w32 (μ (k + 4) (b * 12 + a) + 1))) := by
  have i1 : ((b : Int) * 12 + (a : Int)).toNat = b * 12 + a := by omega
  simp -implicitDefEqProofs (disch := omega) [v_cop, v_c1, v_c2, v_c3, v_c4, v_c5, v_bin, v_bn, v_bn2, v_div, v_dv, v_dv2, v_une, v_un, v_loc, v_num, v_get, v_gt, v_ald, v_al, v_al2, v_len, v_ln, v_rl0, v_rl1, v_rl2, v_rl3, v_rl4, v_rl5, v_cmp, v_cp, v_cp2, v_zC, v_zc, v_con, v_kc, v_and, v_an1, v_an0, v_or, v_or1, v_or0, v_not, v_nt, v_boo, v_bo, v_cnd, v_cd1, v_cd0, v_cnc, v_cc1, v_cc0, v_ev0, v_ev, v_e1, v_e2, v_cve, v_cv, v_cse, v_cs, v_skip, v_seq, v_sq0, v_sq1, v_sqr, v_sts, v_st, v_inc, v_put, v_pt, v_pt2, v_fop, v_fo, v_fo2, v_ast, v_as, v_as2, v_as3, v_aop, v_ao, v_ao2, v_ao3, v_exs, v_ex, v_ifs, v_if1, v_if0, v_ret, v_rt, v_rez, v_rz, v_rev, v_brk, v_sws, v_sw, v_sw2, v_run, v_rb, v_turn, v_tu1, v_tu0, v_tu2, v_tu3, fst1, snd1, Option.map_some, Option.getD_some, enA, en, stE, okb, narV, rf_toNat, rf_nn, List.getElem?_cons_zero, List.getElem?_cons_succ, w32_id, w64_id, ite_t, ite_f, Int.toNat_add, Int.toNat_mul, dec_t, dec_f, k0, k4, q8, i1]
set_option maxRecDepth 100000 in theorem c_closed1 {μ : Mem} {k n P : Nat} {st nw : Nat → Int} (o : ObLy shC μ k) (hk : k = 30 ∨ k = 35) (W : NW nw n P) (hn : n ≤ 12) (hP : P ≤ 16) (p0 : μ 106 0 = rf 107) (ha : ∀ p, p < 16 → μ 107 p = whoS nw n p) (bs : ∀ i, i < 144 → μ (k + 4) i = st (38 + i)) (rn : ∀ i, i < 182 → -2147483648 ≤ st i ∧ st i < 2147483648) (S : Int) : ∃ μ', (∃ a4 a5 : Nat, ∃ v4 v5 : Int, loopS 4 5 kX0_closed_1c kX0_closed_1b kX0_closed_1u shC [(2, rf 106), (2, rf k), (0, S), (0, 1), (3, 0), (3, 0)] μ = some (0, 0, [(2, rf 106), (2, rf k), (0, S), (0, 16), (a4, v4), (a5, v5)], μ')) ∧ (∀ i, i < 144 → μ' (k + 4) i = w32 (st (38 + i) + adj1 nw (i / 12) (i % 12))) ∧ ∀ x y, x ≠ k + 4 → μ' x y = μ x y := by
  obtain ⟨k0, k1, k2, k3, k4, k5, k6, k7, k8⟩ := o
  obtain ⟨env', m, lp, ⟨a4, a5, v4, v5, h4, h5, h3, A1, D⟩⟩ := loop_n (kb := 4) (kc := 5) (c := kX0_closed_1c) (body := kX0_closed_1b) (upd := kX0_closed_1u) (sh := shC) (n := 15) (fun j env m => ∃ (a4 a5 : Nat) (v4 v5 : Int), a4 ≠ 1 ∧ a5 ≠ 1 ∧ env = [(2, rf 106), (2, rf k), (0, S), (0, (j : Int) + 1), (a4, v4), (a5, v5)] ∧ (∀ i, i < 144 → m (k + 4) i = w32 (st (38 + i) + adjJ nw (j + 1) (i / 12) (i % 12))) ∧ ∀ x y, x ≠ k + 4 → m x y = μ x y) (by
    rintro j env m hj ⟨a4, a5, v4, v5, h4, h5, rfl, A1, D⟩
    have e1 : m 107 j = whoS nw n (j : Int) := by rw [D _ _ (by omega)]; exact ha j (by omega)
    have e2 : m 107 (j + 1) = whoS nw n ((j : Int) + 1) := by rw [D _ _ (by omega)]; exact ha (j + 1) (by omega)
    have q0 : m 106 0 = rf 107 := by rw [D _ _ (by omega)]; exact p0
    have q8 : m k 5 = rf (k + 4) := by rw [D _ _ (by omega)]; exact k8
    have h4' : ¬ a4 = 1 := h4
    have h5' : ¬ a5 = 1 := h5
    have z0 : w32 ((j : Int) + 1 - 1) = (j : Int) := by rw [w32_id ⟨by omega, by omega⟩]; omega
    have hj1 : (j : Int) + 1 < 16 := by omega
    have hj2 : j < 16 := by omega
    have hj3 : j + 1 < 16 := by omega
    rcases who_cases nw n (j : Int) with w1 | ⟨a, ha1, w1, na⟩
    · rw [w1] at e1
      refine ⟨[(2, rf 106), (2, rf k), (0, S), (0, ((j + 1 : Nat) : Int) + 1), (0, -1), (0, whoS nw n ((j : Int) + 1))], m, ?_, 0, 0, _, _, by decide, by decide, rfl, fun i hi => ?_, D⟩
      · simp -implicitDefEqProofs (disch := omega) [kX0_closed_1c, kX0_closed_1b, kX0_closed_1u, v_cop, v_c1, v_c2, v_c3, v_c4, v_c5, v_bin, v_bn, v_bn2, v_div, v_dv, v_dv2, v_une, v_un, v_loc, v_num, v_get, v_gt, v_ald, v_al, v_al2, v_len, v_ln, v_rl0, v_rl1, v_rl2, v_rl3, v_rl4, v_rl5, v_cmp, v_cp, v_cp2, v_zC, v_zc, v_con, v_kc, v_and, v_an1, v_an0, v_or, v_or1, v_or0, v_not, v_nt, v_boo, v_bo, v_cnd, v_cd1, v_cd0, v_cnc, v_cc1, v_cc0, v_ev0, v_ev, v_e1, v_e2, v_cve, v_cv, v_cse, v_cs, v_skip, v_seq, v_sq0, v_sq1, v_sqr, v_sts, v_st, v_inc, v_put, v_pt, v_pt2, v_fop, v_fo, v_fo2, v_ast, v_as, v_as2, v_as3, v_aop, v_ao, v_ao2, v_ao3, v_exs, v_ex, v_ifs, v_if1, v_if0, v_ret, v_rt, v_rez, v_rz, v_rev, v_brk, v_sws, v_sw, v_sw2, v_run, v_rb, v_turn, v_tu1, v_tu0, v_tu2, v_tu3, fst1, snd1, Option.map_some, Option.getD_some, enA, en, stE, okb, narV, rf_toNat, rf_nn, List.getElem?_cons_zero, List.getElem?_cons_succ, w32_id, w64_id, ite_t, ite_f, Int.toNat_add, Int.toNat_mul, dec_t, dec_f, sC_106, sC_107, q0, e1, e2, h4', h5', hj1, hj2, hj3]
      · have f : ∀ e : Nat, nw e = (j : Int) → False := fun e he => by
          have := (who_free (nw := nw) (n := n) (P := 16) (p := (j : Int)) (by omega) (by omega)).mpr w1
          by_cases ce : e < n
          · exact this.2.2 e ce he
          · have := W.out (b := e) (by omega)
            omega
        have ea := adj_s (j := j + 1) (x := i / 12) (y := i % 12) W ⟨fun z => f (i % 12) (by have := z.2.1; omega), fun z => f (i / 12) (by have := z.2.1; omega)⟩
        rw [A1 i hi, ea]
    · rw [w1] at e1
      have a1 : ¬ (a : Int) = -1 := by omega
      rcases who_cases nw n ((j : Int) + 1) with w2 | ⟨b, hb1, w2, nb⟩
      · rw [w2] at e2
        refine ⟨[(2, rf 106), (2, rf k), (0, S), (0, ((j + 1 : Nat) : Int) + 1), (0, (a : Int)), (0, -1)], m, ?_, 0, 0, _, _, by decide, by decide, rfl, fun i hi => ?_, D⟩
        · simp -implicitDefEqProofs (disch := omega) [kX0_closed_1c, kX0_closed_1b, kX0_closed_1u, v_cop, v_c1, v_c2, v_c3, v_c4, v_c5, v_bin, v_bn, v_bn2, v_div, v_dv, v_dv2, v_une, v_un, v_loc, v_num, v_get, v_gt, v_ald, v_al, v_al2, v_len, v_ln, v_rl0, v_rl1, v_rl2, v_rl3, v_rl4, v_rl5, v_cmp, v_cp, v_cp2, v_zC, v_zc, v_con, v_kc, v_and, v_an1, v_an0, v_or, v_or1, v_or0, v_not, v_nt, v_boo, v_bo, v_cnd, v_cd1, v_cd0, v_cnc, v_cc1, v_cc0, v_ev0, v_ev, v_e1, v_e2, v_cve, v_cv, v_cse, v_cs, v_skip, v_seq, v_sq0, v_sq1, v_sqr, v_sts, v_st, v_inc, v_put, v_pt, v_pt2, v_fop, v_fo, v_fo2, v_ast, v_as, v_as2, v_as3, v_aop, v_ao, v_ao2, v_ao3, v_exs, v_ex, v_ifs, v_if1, v_if0, v_ret, v_rt, v_rez, v_rz, v_rev, v_brk, v_sws, v_sw, v_sw2, v_run, v_rb, v_turn, v_tu1, v_tu0, v_tu2, v_tu3, fst1, snd1, Option.map_some, Option.getD_some, enA, en, stE, okb, narV, rf_toNat, rf_nn, List.getElem?_cons_zero, List.getElem?_cons_succ, w32_id, w64_id, ite_t, ite_f, Int.toNat_add, Int.toNat_mul, dec_t, dec_f, sC_106, sC_107, q0, e1, e2, h4', h5', hj1, hj2, hj3, a1]
        · have f : ∀ e : Nat, nw e = (j : Int) + 1 → False := fun e he => by
            have := (who_free (nw := nw) (n := n) (P := 17) (p := (j : Int) + 1) (by omega) (by omega)).mpr w2
            by_cases ce : e < n
            · exact this.2.2 e ce he
            · have := W.out (b := e) (by omega)
              omega
          have ea := adj_s (j := j + 1) (x := i / 12) (y := i % 12) W ⟨fun z => f (i / 12) (by have := z.1; omega), fun z => f (i % 12) (by have := z.1; omega)⟩
          rw [A1 i hi, ea]
      · rw [w2] at e2
        have b1 : ¬ (b : Int) = -1 := by omega
        have ab : a ≠ b := fun z => by rw [z] at na; omega
        have i1 : ((a : Int) * 12 + (b : Int)).toNat = a * 12 + b := by omega
        have i2 : ((b : Int) * 12 + (a : Int)).toNat = b * 12 + a := by omega
        have i3 : (a : Int) * 12 + (b : Int) < 144 := by omega
        have i4 : (b : Int) * 12 + (a : Int) < 144 := by omega
        have rd : ∀ x y : Nat, x < 12 → y < 12 → adjJ nw (j + 1) x y = 0 → m (k + 4) (x * 12 + y) = st (38 + (x * 12 + y)) := fun x y hx hy hz => by
          rw [A1 _ (by omega), show (x * 12 + y) / 12 = x by omega, show (x * 12 + y) % 12 = y by omega, hz, Int.add_zero]
          exact w32_id (rn _ (by omega))
        have r1 := rd a b (by omega) (by omega) (by unfold adjJ; rw [if_neg (by omega)])
        have r2 := rd b a (by omega) (by omega) (by unfold adjJ; rw [if_neg (by omega)])
        refine ⟨[(2, rf 106), (2, rf k), (0, S), (0, ((j + 1 : Nat) : Int) + 1), (0, (a : Int)), (0, (b : Int))], ud (ud m (k + 4) (a * 12 + b) (w32 (st (38 + (a * 12 + b)) + 1))) (k + 4) (b * 12 + a) (w32 (st (38 + (b * 12 + a)) + 1)), ?_, 0, 0, _, _, by decide, by decide, rfl, fun i hi => ?_, fun x y hx => by rw [ud_c hx, ud_c hx]; exact D x y hx⟩
        · have r3 : ud m (k + 4) (a * 12 + b) (w32 (st (38 + (a * 12 + b)) + 1)) k 5 = rf (k + 4) := by rw [ud_c (by omega)]; exact q8
          have r4 : ud m (k + 4) (a * 12 + b) (w32 (st (38 + (a * 12 + b)) + 1)) (k + 4) (b * 12 + a) = st (38 + (b * 12 + a)) := by rw [ud_j (by omega)]; exact r2
          have x1 := c_bes1 (S := S) (j := (j : Int) + 1) k0 k4 q8 (show a < 12 by omega) (show b < 12 by omega)
          have x2 := c_bes2 (S := S) (j := (j : Int) + 1) k0 k4 r3 (show a < 12 by omega) (show b < 12 by omega)
          rw [r1] at x1
          rw [r4] at x2
          have s1 : aldE 100 (getE 0 0 2 (locE 2 0)) (binE (fun x y => w32 (x - y)) (locE 0 3) (numE 1)) shC [(2, rf 106), (2, rf k), (0, S), (0, (j : Int) + 1), (a4, v4), (a5, v5)] m = some ((a : Int), m) := by
            clear x1 x2 rd r1 r2 r3 r4 A1 D i1 i2 i3 i4
            simp -implicitDefEqProofs (disch := omega) [v_cop, v_c1, v_c2, v_c3, v_c4, v_c5, v_bin, v_bn, v_bn2, v_div, v_dv, v_dv2, v_une, v_un, v_loc, v_num, v_get, v_gt, v_ald, v_al, v_al2, v_len, v_ln, v_rl0, v_rl1, v_rl2, v_rl3, v_rl4, v_rl5, v_cmp, v_cp, v_cp2, v_zC, v_zc, v_con, v_kc, v_and, v_an1, v_an0, v_or, v_or1, v_or0, v_not, v_nt, v_boo, v_bo, v_cnd, v_cd1, v_cd0, v_cnc, v_cc1, v_cc0, v_ev0, v_ev, v_e1, v_e2, v_cve, v_cv, v_cse, v_cs, v_skip, v_seq, v_sq0, v_sq1, v_sqr, v_sts, v_st, v_inc, v_put, v_pt, v_pt2, v_fop, v_fo, v_fo2, v_ast, v_as, v_as2, v_as3, v_aop, v_ao, v_ao2, v_ao3, v_exs, v_ex, v_ifs, v_if1, v_if0, v_ret, v_rt, v_rez, v_rz, v_rev, v_brk, v_sws, v_sw, v_sw2, v_run, v_rb, v_turn, v_tu1, v_tu0, v_tu2, v_tu3, fst1, snd1, Option.map_some, Option.getD_some, enA, en, stE, okb, narV, rf_toNat, rf_nn, List.getElem?_cons_zero, List.getElem?_cons_succ, w32_id, w64_id, ite_t, ite_f, Int.toNat_add, Int.toNat_mul, dec_t, dec_f, sC_106, sC_107, q0, e1]
          have s2 : aldE 100 (getE 0 0 2 (locE 2 0)) (locE 0 3) shC [(2, rf 106), (2, rf k), (0, S), (0, (j : Int) + 1), (0, (a : Int)), (a5, v5)] m = some ((b : Int), m) := by
            clear x1 x2 rd r1 r2 r3 r4 A1 D i1 i2 i3 i4
            simp -implicitDefEqProofs (disch := omega) [v_cop, v_c1, v_c2, v_c3, v_c4, v_c5, v_bin, v_bn, v_bn2, v_div, v_dv, v_dv2, v_une, v_un, v_loc, v_num, v_get, v_gt, v_ald, v_al, v_al2, v_len, v_ln, v_rl0, v_rl1, v_rl2, v_rl3, v_rl4, v_rl5, v_cmp, v_cp, v_cp2, v_zC, v_zc, v_con, v_kc, v_and, v_an1, v_an0, v_or, v_or1, v_or0, v_not, v_nt, v_boo, v_bo, v_cnd, v_cd1, v_cd0, v_cnc, v_cc1, v_cc0, v_ev0, v_ev, v_e1, v_e2, v_cve, v_cv, v_cse, v_cs, v_skip, v_seq, v_sq0, v_sq1, v_sqr, v_sts, v_st, v_inc, v_put, v_pt, v_pt2, v_fop, v_fo, v_fo2, v_ast, v_as, v_as2, v_as3, v_aop, v_ao, v_ao2, v_ao3, v_exs, v_ex, v_ifs, v_if1, v_if0, v_ret, v_rt, v_rez, v_rz, v_rev, v_brk, v_sws, v_sw, v_sw2, v_run, v_rb, v_turn, v_tu1, v_tu0, v_tu2, v_tu3, fst1, snd1, Option.map_some, Option.getD_some, enA, en, stE, okb, narV, rf_toNat, rf_nn, List.getElem?_cons_zero, List.getElem?_cons_succ, w32_id, w64_id, ite_t, ite_f, Int.toNat_add, Int.toNat_mul, dec_t, dec_f, sC_106, sC_107, q0, e2]
          have t1 : stE [(2, rf 106), (2, rf k), (0, S), (0, (j : Int) + 1), (a4, v4), (a5, v5)] 4 0 (a : Int) = [(2, rf 106), (2, rf k), (0, S), (0, (j : Int) + 1), (0, (a : Int)), (a5, v5)] := by simp [stE]
          have t2 : stE [(2, rf 106), (2, rf k), (0, S), (0, (j : Int) + 1), (0, (a : Int)), (a5, v5)] 5 0 (b : Int) = [(2, rf 106), (2, rf k), (0, S), (0, (j : Int) + 1), (0, (a : Int)), (0, (b : Int))] := by simp [stE]
          have cond : (andC (cmpC 1 (locE 0 4) (numE (-1))) (cmpC 1 (locE 0 5) (numE (-1)))) shC [(2, rf 106), (2, rf k), (0, S), (0, (j : Int) + 1), (0, (a : Int)), (0, (b : Int))] m = some (true, m) := by
            clear x1 x2 rd r1 r2 r3 r4 A1 D i1 i2 i3 i4
            simp -implicitDefEqProofs (disch := omega) [v_cop, v_c1, v_c2, v_c3, v_c4, v_c5, v_bin, v_bn, v_bn2, v_div, v_dv, v_dv2, v_une, v_un, v_loc, v_num, v_get, v_gt, v_ald, v_al, v_al2, v_len, v_ln, v_rl0, v_rl1, v_rl2, v_rl3, v_rl4, v_rl5, v_cmp, v_cp, v_cp2, v_zC, v_zc, v_con, v_kc, v_and, v_an1, v_an0, v_or, v_or1, v_or0, v_not, v_nt, v_boo, v_bo, v_cnd, v_cd1, v_cd0, v_cnc, v_cc1, v_cc0, v_ev0, v_ev, v_e1, v_e2, v_cve, v_cv, v_cse, v_cs, v_skip, v_seq, v_sq0, v_sq1, v_sqr, v_sts, v_st, v_inc, v_put, v_pt, v_pt2, v_fop, v_fo, v_fo2, v_ast, v_as, v_as2, v_as3, v_aop, v_ao, v_ao2, v_ao3, v_exs, v_ex, v_ifs, v_if1, v_if0, v_ret, v_rt, v_rez, v_rz, v_rev, v_brk, v_sws, v_sw, v_sw2, v_run, v_rb, v_turn, v_tu1, v_tu0, v_tu2, v_tu3, fst1, snd1, Option.map_some, Option.getD_some, enA, en, stE, okb, narV, rf_toNat, rf_nn, List.getElem?_cons_zero, List.getElem?_cons_succ, w32_id, w64_id, ite_t, ite_f, Int.toNat_add, Int.toNat_mul, dec_t, dec_f]
          have body : kX0_closed_1b shC [(2, rf 106), (2, rf k), (0, S), (0, (j : Int) + 1), (a4, v4), (a5, v5)] m = some (0, 0, [(2, rf 106), (2, rf k), (0, S), (0, (j : Int) + 1), (0, (a : Int)), (0, (b : Int))], ud (ud m (k + 4) (a * 12 + b) (w32 (st (38 + (a * 12 + b)) + 1))) (k + 4) (b * 12 + a) (w32 (st (38 + (b * 12 + a)) + 1))) := by
            unfold kX0_closed_1b
            rw [go_st s1 (by simp), t1, go_st s2 (by simp), t2, v_ifs, cond, v_if1, v_seq, x1, v_sq0, x2]
          clear x1 x2 rd r1 r2 r3 r4 A1 D i1 i2 i3 i4 s1 s2 t1 t2 cond
          simp -implicitDefEqProofs (disch := omega) [kX0_closed_1c, kX0_closed_1u, v_cop, v_c1, v_c2, v_c3, v_c4, v_c5, v_bin, v_bn, v_bn2, v_div, v_dv, v_dv2, v_une, v_un, v_loc, v_num, v_get, v_gt, v_ald, v_al, v_al2, v_len, v_ln, v_rl0, v_rl1, v_rl2, v_rl3, v_rl4, v_rl5, v_cmp, v_cp, v_cp2, v_zC, v_zc, v_con, v_kc, v_and, v_an1, v_an0, v_or, v_or1, v_or0, v_not, v_nt, v_boo, v_bo, v_cnd, v_cd1, v_cd0, v_cnc, v_cc1, v_cc0, v_ev0, v_ev, v_e1, v_e2, v_cve, v_cv, v_cse, v_cs, v_skip, v_seq, v_sq0, v_sq1, v_sqr, v_sts, v_st, v_inc, v_put, v_pt, v_pt2, v_fop, v_fo, v_fo2, v_ast, v_as, v_as2, v_as3, v_aop, v_ao, v_ao2, v_ao3, v_exs, v_ex, v_ifs, v_if1, v_if0, v_ret, v_rt, v_rez, v_rz, v_rev, v_brk, v_sws, v_sw, v_sw2, v_run, v_rb, v_turn, v_tu1, v_tu0, v_tu2, v_tu3, fst1, snd1, Option.map_some, Option.getD_some, enA, en, stE, okb, narV, rf_toNat, rf_nn, List.getElem?_cons_zero, List.getElem?_cons_succ, w32_id, w64_id, ite_t, ite_f, Int.toNat_add, Int.toNat_mul, dec_t, dec_f, body]
        · by_cases c2 : i = b * 12 + a
          · rw [c2, ud_s, show (b * 12 + a) / 12 = b by omega, show (b * 12 + a) % 12 = a by omega]
            unfold adjJ
            rw [if_pos (by omega)]
          · rw [ud_j c2]
            by_cases c1 : i = a * 12 + b
            · rw [c1, ud_s, show (a * 12 + b) / 12 = a by omega, show (a * 12 + b) % 12 = b by omega]
              unfold adjJ
              rw [if_pos (by omega)]
            · rw [ud_j c1, A1 i hi]
              refine congrArg (fun q => w32 (st (38 + i) + q)) (adj_s (j := j + 1) (x := i / 12) (y := i % 12) W ⟨fun z => c2 ?_, fun z => c1 ?_⟩).symm
              · have h1 : i / 12 = b := W.inj (by rw [z.1, nb]; omega) (by rw [z.1]; omega)
                have h2 : i % 12 = a := W.inj (by rw [z.2.1, na]; omega) (by rw [z.2.1]; omega)
                omega
              · have h1 : i % 12 = b := W.inj (by rw [z.1, nb]; omega) (by rw [z.1]; omega)
                have h2 : i / 12 = a := W.inj (by rw [z.2.1, na]; omega) (by rw [z.2.1]; omega)
                omega) (by
    rintro env m ⟨a4, a5, v4, v5, h4, h5, rfl, -⟩
    simp -implicitDefEqProofs (disch := omega) [kX0_closed_1c, v_cop, v_c1, v_c2, v_c3, v_c4, v_c5, v_bin, v_bn, v_bn2, v_div, v_dv, v_dv2, v_une, v_un, v_loc, v_num, v_get, v_gt, v_ald, v_al, v_al2, v_len, v_ln, v_rl0, v_rl1, v_rl2, v_rl3, v_rl4, v_rl5, v_cmp, v_cp, v_cp2, v_zC, v_zc, v_con, v_kc, v_and, v_an1, v_an0, v_or, v_or1, v_or0, v_not, v_nt, v_boo, v_bo, v_cnd, v_cd1, v_cd0, v_cnc, v_cc1, v_cc0, v_ev0, v_ev, v_e1, v_e2, v_cve, v_cv, v_cse, v_cs, v_skip, v_seq, v_sq0, v_sq1, v_sqr, v_sts, v_st, v_inc, v_put, v_pt, v_pt2, v_fop, v_fo, v_fo2, v_ast, v_as, v_as2, v_as3, v_aop, v_ao, v_ao2, v_ao3, v_exs, v_ex, v_ifs, v_if1, v_if0, v_ret, v_rt, v_rez, v_rz, v_rev, v_brk, v_sws, v_sw, v_sw2, v_run, v_rb, v_turn, v_tu1, v_tu0, v_tu2, v_tu3, fst1, snd1, Option.map_some, Option.getD_some, enA, en, stE, okb, narV, rf_toNat, rf_nn, List.getElem?_cons_zero, List.getElem?_cons_succ, w32_id, w64_id, ite_t, ite_f, Int.toNat_add, Int.toNat_mul, dec_t, dec_f]) (env := [(2, rf 106), (2, rf k), (0, S), (0, 1), (3, 0), (3, 0)]) (μ := μ) ⟨3, 3, 0, 0, by decide, by decide, rfl, fun i hi => by
      have : adjJ nw (0 + 1) (i / 12) (i % 12) = 0 := by unfold adjJ; rw [if_neg (by omega)]
      rw [this, Int.add_zero, w32_id (rn _ (by omega))]
      exact bs i hi, fun _ _ _ => rfl⟩
  subst h3
  refine ⟨m, ⟨a4, a5, v4, v5, lp⟩, fun i hi => ?_, D⟩
  rw [A1 i hi]
  have w1 := (W.rg (i / 12)).2
  have w2 := (W.rg (i % 12)).2
  congr 2
  unfold adjJ adj1
  by_cases c : (0 ≤ nw (i / 12) ∧ 0 ≤ nw (i % 12)) ∧ (nw (i / 12) - nw (i % 12) = 1 ∨ nw (i / 12) - nw (i % 12) = -1)
  · rw [if_pos c, if_pos ⟨c, by omega, by omega⟩]
  · rw [if_neg c, if_neg (fun z => c z.1)]
