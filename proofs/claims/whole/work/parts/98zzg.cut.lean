/-! the tokens: the reference -/
set_option maxRecDepth 100000 in theorem r_isLetter (μ : Mem) (x : Int) : fX12_isLetter shM [(0, x)] μ = some (if 97 ≤ x ∧ x ≤ 122 then 1 else 0, μ) := by
  by_cases c1 : 97 ≤ x <;> by_cases c2 : x ≤ 122 <;> simp -implicitDefEqProofs (disch := omega) [fX12_isLetter, bX12_isLetter, v_cop, v_c1, v_c2, v_c3, v_c4, v_c5, v_bin, v_bn, v_bn2, v_div, v_dv, v_dv2, v_une, v_un, v_loc, v_num, v_get, v_gt, v_ald, v_al, v_al2, v_len, v_ln, v_rl0, v_rl1, v_rl2, v_rl3, v_rl4, v_rl5, v_cmp, v_cp, v_cp2, v_zC, v_zc, v_con, v_kc, v_and, v_an1, v_an0, v_or, v_or1, v_or0, v_not, v_nt, v_boo, v_bo, v_cnd, v_cd1, v_cd0, v_cnc, v_cc1, v_cc0, v_ev0, v_ev, v_e1, v_e2, v_cve, v_cv, v_cse, v_cs, v_skip, v_seq, v_sq0, v_sq1, v_sqr, v_sts, v_st, v_inc, v_put, v_pt, v_pt2, v_fop, v_fo, v_fo2, v_ast, v_as, v_as2, v_as3, v_aop, v_ao, v_ao2, v_ao3, v_exs, v_ex, v_ifs, v_if1, v_if0, v_ret, v_rt, v_rez, v_rz, v_rev, v_brk, v_sws, v_sw, v_sw2, v_run, v_rb, v_turn, v_tu1, v_tu0, v_tu2, v_tu3, fst1, snd1, Option.map_some, Option.getD_some, enA, en, stE, okb, narV, rf_toNat, rf_nn, List.getElem?_cons_zero, List.getElem?_cons_succ, w32_id, w64_id, ite_t, ite_f, Int.toNat_add, Int.toNat_mul, dec_t, dec_f]
set_option maxRecDepth 100000 in theorem r_isDigit (μ : Mem) (x : Int) : fX12_isDigit shM [(0, x)] μ = some (if 48 ≤ x ∧ x ≤ 57 then 1 else 0, μ) := by
  by_cases c1 : 48 ≤ x <;> by_cases c2 : x ≤ 57 <;> simp -implicitDefEqProofs (disch := omega) [fX12_isDigit, bX12_isDigit, v_cop, v_c1, v_c2, v_c3, v_c4, v_c5, v_bin, v_bn, v_bn2, v_div, v_dv, v_dv2, v_une, v_un, v_loc, v_num, v_get, v_gt, v_ald, v_al, v_al2, v_len, v_ln, v_rl0, v_rl1, v_rl2, v_rl3, v_rl4, v_rl5, v_cmp, v_cp, v_cp2, v_zC, v_zc, v_con, v_kc, v_and, v_an1, v_an0, v_or, v_or1, v_or0, v_not, v_nt, v_boo, v_bo, v_cnd, v_cd1, v_cd0, v_cnc, v_cc1, v_cc0, v_ev0, v_ev, v_e1, v_e2, v_cve, v_cv, v_cse, v_cs, v_skip, v_seq, v_sq0, v_sq1, v_sqr, v_sts, v_st, v_inc, v_put, v_pt, v_pt2, v_fop, v_fo, v_fo2, v_ast, v_as, v_as2, v_as3, v_aop, v_ao, v_ao2, v_ao3, v_exs, v_ex, v_ifs, v_if1, v_if0, v_ret, v_rt, v_rez, v_rz, v_rev, v_brk, v_sws, v_sw, v_sw2, v_run, v_rb, v_turn, v_tu1, v_tu0, v_tu2, v_tu3, fst1, snd1, Option.map_some, Option.getD_some, enA, en, stE, okb, narV, rf_toNat, rf_nn, List.getElem?_cons_zero, List.getElem?_cons_succ, w32_id, w64_id, ite_t, ite_f, Int.toNat_add, Int.toNat_mul, dec_t, dec_f]
set_option maxRecDepth 100000 in theorem r_rank (μ : Mem) {x : Int} (h1 : 97 ≤ x) (h2 : x ≤ 122) : fX12_rank shM [(0, x)] μ = some (x - 96, μ) := by
  have e := r_isLetter μ x
  rw [if_pos ⟨h1, h2⟩] at e
  simp -implicitDefEqProofs (disch := omega) [fX12_rank, bX12_rank, v_cop, v_c1, v_c2, v_c3, v_c4, v_c5, v_bin, v_bn, v_bn2, v_div, v_dv, v_dv2, v_une, v_un, v_loc, v_num, v_get, v_gt, v_ald, v_al, v_al2, v_len, v_ln, v_rl0, v_rl1, v_rl2, v_rl3, v_rl4, v_rl5, v_cmp, v_cp, v_cp2, v_zC, v_zc, v_con, v_kc, v_and, v_an1, v_an0, v_or, v_or1, v_or0, v_not, v_nt, v_boo, v_bo, v_cnd, v_cd1, v_cd0, v_cnc, v_cc1, v_cc0, v_ev0, v_ev, v_e1, v_e2, v_cve, v_cv, v_cse, v_cs, v_skip, v_seq, v_sq0, v_sq1, v_sqr, v_sts, v_st, v_inc, v_put, v_pt, v_pt2, v_fop, v_fo, v_fo2, v_ast, v_as, v_as2, v_as3, v_aop, v_ao, v_ao2, v_ao3, v_exs, v_ex, v_ifs, v_if1, v_if0, v_ret, v_rt, v_rez, v_rz, v_rev, v_brk, v_sws, v_sw, v_sw2, v_run, v_rb, v_turn, v_tu1, v_tu0, v_tu2, v_tu3, fst1, snd1, Option.map_some, Option.getD_some, enA, en, stE, okb, narV, rf_toNat, rf_nn, List.getElem?_cons_zero, List.getElem?_cons_succ, w32_id, w64_id, ite_t, ite_f, Int.toNat_add, Int.toNat_mul, dec_t, dec_f, e]
set_option maxRecDepth 100000 in theorem r_isSignOf (μ : Mem) (x : Int) : fX12_isSignOf shM [(0, x)] μ = some (if sgB x = true then 1 else 0, μ) := by
  by_cases c0 : sgB x = true
  · rw [if_pos c0]
    rcases of_decide_eq_true c0 with h | h | h | h | h | h | h | h <;> subst h <;> simp -implicitDefEqProofs (disch := omega) [fX12_isSignOf, bX12_isSignOf, v_cop, v_c1, v_c2, v_c3, v_c4, v_c5, v_bin, v_bn, v_bn2, v_div, v_dv, v_dv2, v_une, v_un, v_loc, v_num, v_get, v_gt, v_ald, v_al, v_al2, v_len, v_ln, v_rl0, v_rl1, v_rl2, v_rl3, v_rl4, v_rl5, v_cmp, v_cp, v_cp2, v_zC, v_zc, v_con, v_kc, v_and, v_an1, v_an0, v_or, v_or1, v_or0, v_not, v_nt, v_boo, v_bo, v_cnd, v_cd1, v_cd0, v_cnc, v_cc1, v_cc0, v_ev0, v_ev, v_e1, v_e2, v_cve, v_cv, v_cse, v_cs, v_skip, v_seq, v_sq0, v_sq1, v_sqr, v_sts, v_st, v_inc, v_put, v_pt, v_pt2, v_fop, v_fo, v_fo2, v_ast, v_as, v_as2, v_as3, v_aop, v_ao, v_ao2, v_ao3, v_exs, v_ex, v_ifs, v_if1, v_if0, v_ret, v_rt, v_rez, v_rz, v_rev, v_brk, v_sws, v_sw, v_sw2, v_run, v_rb, v_turn, v_tu1, v_tu0, v_tu2, v_tu3, fst1, snd1, Option.map_some, Option.getD_some, enA, en, stE, okb, narV, rf_toNat, rf_nn, List.getElem?_cons_zero, List.getElem?_cons_succ, w32_id, w64_id, ite_t, ite_f, Int.toNat_add, Int.toNat_mul, dec_t, dec_f]
  · rw [if_neg c0]
    have z : ¬ (x = 40 ∨ x = 41 ∨ x = 59 ∨ x = 61 ∨ x = 60 ∨ x = 43 ∨ x = 45 ∨ x = 42) := fun q => c0 (decide_eq_true q)
    have z1 : ¬ x = 40 := by omega
    have z2 : ¬ x = 41 := by omega
    have z3 : ¬ x = 59 := by omega
    have z4 : ¬ x = 61 := by omega
    have z5 : ¬ x = 60 := by omega
    have z6 : ¬ x = 43 := by omega
    have z7 : ¬ x = 45 := by omega
    have z8 : ¬ x = 42 := by omega
    clear z c0
    simp -implicitDefEqProofs (disch := omega) [fX12_isSignOf, bX12_isSignOf, v_cop, v_c1, v_c2, v_c3, v_c4, v_c5, v_bin, v_bn, v_bn2, v_div, v_dv, v_dv2, v_une, v_un, v_loc, v_num, v_get, v_gt, v_ald, v_al, v_al2, v_len, v_ln, v_rl0, v_rl1, v_rl2, v_rl3, v_rl4, v_rl5, v_cmp, v_cp, v_cp2, v_zC, v_zc, v_con, v_kc, v_and, v_an1, v_an0, v_or, v_or1, v_or0, v_not, v_nt, v_boo, v_bo, v_cnd, v_cd1, v_cd0, v_cnc, v_cc1, v_cc0, v_ev0, v_ev, v_e1, v_e2, v_cve, v_cv, v_cse, v_cs, v_skip, v_seq, v_sq0, v_sq1, v_sqr, v_sts, v_st, v_inc, v_put, v_pt, v_pt2, v_fop, v_fo, v_fo2, v_ast, v_as, v_as2, v_as3, v_aop, v_ao, v_ao2, v_ao3, v_exs, v_ex, v_ifs, v_if1, v_if0, v_ret, v_rt, v_rez, v_rz, v_rev, v_brk, v_sws, v_sw, v_sw2, v_run, v_rb, v_turn, v_tu1, v_tu0, v_tu2, v_tu3, fst1, snd1, Option.map_some, Option.getD_some, enA, en, stE, okb, narV, rf_toNat, rf_nn, List.getElem?_cons_zero, List.getElem?_cons_succ, w32_id, w64_id, ite_t, ite_f, Int.toNat_add, Int.toNat_mul, dec_t, dec_f, z1, z2, z3, z4, z5, z6, z7, z8]
def RTq (m : Mem) (c : Nat → Int) (N : Nat) : Prop := PM m ∧ m 0 3 = (N : Int) ∧ N ≤ 1000 ∧ (∀ i, i < N → m 1 i = c i) ∧ ∀ i, i < N → c i = 10 ∨ 32 ≤ c i ∧ c i ≤ 126
set_option maxRecDepth 100000 in theorem r_cut1 {m : Mem} {c : Nat → Int} {N s n : Nat} {C : Int} (q : RTq m c N) (hs : s < N) (hl : ltB c s = true) : loopS 4 5 kX12_cutAll_1c kX12_cutAll_1b kX12_cutAll_1u shM [(2, rf 0), (0, (n : Int)), (0, (s : Int)), (0, C), (0, (s : Int)), (1, 0), (3, 0)] m = some (0, 0, [(2, rf 0), (0, (n : Int)), (0, ((teE c N s : Nat) : Int)), (0, C), (0, (s : Int)), (1, hnE 37 (fun j => c (s + j) - 96) (min (teE c N s - s) 8)), (3, 0)], m) := by
  obtain ⟨t1, t2, t3⟩ := te_b (c := c) (N := N) (s := s) (by omega)
  obtain ⟨l1, l2⟩ := te_l hs hl
  have dd := lt_d hs hl
  obtain ⟨p, h3, hN, hc, hr⟩ := q
  have lp := loop_run (kb := 4) (kc := 5) (c := kX12_cutAll_1c) (body := kX12_cutAll_1b) (upd := kX12_cutAll_1u) (sh := shM) (fun j => [(2, rf 0), (0, (n : Int)), (0, ((s + j : Nat) : Int)), (0, C), (0, (s : Int)), (1, hnE 37 (fun j => c (s + j) - 96) (min j 8)), (3, 0)]) (fun _ => m) (r := (0, 0, [(2, rf 0), (0, (n : Int)), (0, ((teE c N s : Nat) : Int)), (0, C), (0, (s : Int)), (1, hnE 37 (fun j => c (s + j) - 96) (min (teE c N s - s) 8)), (3, 0)], m)) (teE c N s - s) (by
    intro j hj
    have lj := of_decide_eq_true (l1 (s + j) (by omega) (by omega))
    have m1 : m 1 (s + j) = c (s + j) := hc _ (by omega)
    have el := r_isLetter m (c (s + j))
    rw [if_pos lj] at el
    have er := r_rank m lj.1 lj.2
    by_cases j8 : j < 8
    · have b := hn_b37 (d := fun j => c (s + j) - 96) j (fun i hi => dd i (by omega))
      have b2 := bnd_37 j (by omega)
      have e1 : min j 8 = j := by omega
      have e2 : min (j + 1) 8 = j + 1 := by omega
      have e3 : hnE 37 (fun j => c (s + j) - 96) (j + 1) = 37 * hnE 37 (fun j => c (s + j) - 96) j + (c (s + j) - 96) := by
        rw [hn_s, Int.mul_comm]
      rw [e1, e2, e3]
      have sN : s + j < N := by omega
      have sj : ((s + j : Nat) : Int) - (s : Int) = (j : Int) := by omega
      have sj2 : ((s + (j + 1) : Nat) : Int) = ((s + j : Nat) : Int) + 1 := by omega
      rw [sj2]
      clear l1 l2 dd hc hr e3
      generalize hnE 37 (fun j => c (s + j) - 96) j = X at *
      generalize bnd 37 26 j = Y at *
      generalize s + j = K at *
      generalize c K = D at *
      simp -implicitDefEqProofs (disch := omega) [kX12_cutAll_1c, kX12_cutAll_1b, kX12_cutAll_1u, v_cop, v_c1, v_c2, v_c3, v_c4, v_c5, v_bin, v_bn, v_bn2, v_div, v_dv, v_dv2, v_une, v_un, v_loc, v_num, v_get, v_gt, v_ald, v_al, v_al2, v_len, v_ln, v_rl0, v_rl1, v_rl2, v_rl3, v_rl4, v_rl5, v_cmp, v_cp, v_cp2, v_zC, v_zc, v_con, v_kc, v_and, v_an1, v_an0, v_or, v_or1, v_or0, v_not, v_nt, v_boo, v_bo, v_cnd, v_cd1, v_cd0, v_cnc, v_cc1, v_cc0, v_ev0, v_ev, v_e1, v_e2, v_cve, v_cv, v_cse, v_cs, v_skip, v_seq, v_sq0, v_sq1, v_sqr, v_sts, v_st, v_inc, v_put, v_pt, v_pt2, v_fop, v_fo, v_fo2, v_ast, v_as, v_as2, v_as3, v_aop, v_ao, v_ao2, v_ao3, v_exs, v_ex, v_ifs, v_if1, v_if0, v_ret, v_rt, v_rez, v_rz, v_rev, v_brk, v_sws, v_sw, v_sw2, v_run, v_rb, v_turn, v_tu1, v_tu0, v_tu2, v_tu3, fst1, snd1, Option.map_some, Option.getD_some, enA, en, stE, okb, narV, rf_toNat, rf_nn, List.getElem?_cons_zero, List.getElem?_cons_succ, w32_id, w64_id, ite_t, ite_f, Int.toNat_add, Int.toNat_mul, dec_t, dec_f, sM_0, sM_1, p.p1, h3, m1, el, er, sj]
    · have e1 : min j 8 = 8 := by omega
      have e2 : min (j + 1) 8 = 8 := by omega
      rw [e1, e2]
      have sN : s + j < N := by omega
      have sj : ((s + j : Nat) : Int) - (s : Int) = (j : Int) := by omega
      have sj2 : ((s + (j + 1) : Nat) : Int) = ((s + j : Nat) : Int) + 1 := by omega
      rw [sj2]
      clear l1 l2 dd hc hr
      generalize hnE 37 (fun j => c (s + j) - 96) 8 = X at *
      generalize s + j = K at *
      generalize c K = D at *
      simp -implicitDefEqProofs (disch := omega) [kX12_cutAll_1c, kX12_cutAll_1b, kX12_cutAll_1u, v_cop, v_c1, v_c2, v_c3, v_c4, v_c5, v_bin, v_bn, v_bn2, v_div, v_dv, v_dv2, v_une, v_un, v_loc, v_num, v_get, v_gt, v_ald, v_al, v_al2, v_len, v_ln, v_rl0, v_rl1, v_rl2, v_rl3, v_rl4, v_rl5, v_cmp, v_cp, v_cp2, v_zC, v_zc, v_con, v_kc, v_and, v_an1, v_an0, v_or, v_or1, v_or0, v_not, v_nt, v_boo, v_bo, v_cnd, v_cd1, v_cd0, v_cnc, v_cc1, v_cc0, v_ev0, v_ev, v_e1, v_e2, v_cve, v_cv, v_cse, v_cs, v_skip, v_seq, v_sq0, v_sq1, v_sqr, v_sts, v_st, v_inc, v_put, v_pt, v_pt2, v_fop, v_fo, v_fo2, v_ast, v_as, v_as2, v_as3, v_aop, v_ao, v_ao2, v_ao3, v_exs, v_ex, v_ifs, v_if1, v_if0, v_ret, v_rt, v_rez, v_rz, v_rev, v_brk, v_sws, v_sw, v_sw2, v_run, v_rb, v_turn, v_tu1, v_tu0, v_tu2, v_tu3, fst1, snd1, Option.map_some, Option.getD_some, enA, en, stE, okb, narV, rf_toNat, rf_nn, List.getElem?_cons_zero, List.getElem?_cons_succ, w32_id, w64_id, ite_t, ite_f, Int.toNat_add, Int.toNat_mul, dec_t, dec_f, sM_0, sM_1, p.p1, h3, m1, el, er, sj]) (by
    rw [show s + (teE c N s - s) = teE c N s by omega]
    generalize hnE 37 (fun j => c (s + j) - 96) (min (teE c N s - s) 8) = X at *
    generalize teE c N s = K at *
    by_cases l : K < N
    · have m1 : m 1 K = c K := hc _ l
      have b := of_decide_eq_false (l2 l)
      have el := r_isLetter m (c K)
      rw [if_neg b] at el
      generalize c K = D at *
      simp -implicitDefEqProofs (disch := omega) [kX12_cutAll_1c, v_cop, v_c1, v_c2, v_c3, v_c4, v_c5, v_bin, v_bn, v_bn2, v_div, v_dv, v_dv2, v_une, v_un, v_loc, v_num, v_get, v_gt, v_ald, v_al, v_al2, v_len, v_ln, v_rl0, v_rl1, v_rl2, v_rl3, v_rl4, v_rl5, v_cmp, v_cp, v_cp2, v_zC, v_zc, v_con, v_kc, v_and, v_an1, v_an0, v_or, v_or1, v_or0, v_not, v_nt, v_boo, v_bo, v_cnd, v_cd1, v_cd0, v_cnc, v_cc1, v_cc0, v_ev0, v_ev, v_e1, v_e2, v_cve, v_cv, v_cse, v_cs, v_skip, v_seq, v_sq0, v_sq1, v_sqr, v_sts, v_st, v_inc, v_put, v_pt, v_pt2, v_fop, v_fo, v_fo2, v_ast, v_as, v_as2, v_as3, v_aop, v_ao, v_ao2, v_ao3, v_exs, v_ex, v_ifs, v_if1, v_if0, v_ret, v_rt, v_rez, v_rz, v_rev, v_brk, v_sws, v_sw, v_sw2, v_run, v_rb, v_turn, v_tu1, v_tu0, v_tu2, v_tu3, fst1, snd1, Option.map_some, Option.getD_some, enA, en, stE, okb, narV, rf_toNat, rf_nn, List.getElem?_cons_zero, List.getElem?_cons_succ, w32_id, w64_id, ite_t, ite_f, Int.toNat_add, Int.toNat_mul, dec_t, dec_f, sM_0, sM_1, p.p1, h3, m1, el]
    · simp -implicitDefEqProofs (disch := omega) [kX12_cutAll_1c, v_cop, v_c1, v_c2, v_c3, v_c4, v_c5, v_bin, v_bn, v_bn2, v_div, v_dv, v_dv2, v_une, v_un, v_loc, v_num, v_get, v_gt, v_ald, v_al, v_al2, v_len, v_ln, v_rl0, v_rl1, v_rl2, v_rl3, v_rl4, v_rl5, v_cmp, v_cp, v_cp2, v_zC, v_zc, v_con, v_kc, v_and, v_an1, v_an0, v_or, v_or1, v_or0, v_not, v_nt, v_boo, v_bo, v_cnd, v_cd1, v_cd0, v_cnc, v_cc1, v_cc0, v_ev0, v_ev, v_e1, v_e2, v_cve, v_cv, v_cse, v_cs, v_skip, v_seq, v_sq0, v_sq1, v_sqr, v_sts, v_st, v_inc, v_put, v_pt, v_pt2, v_fop, v_fo, v_fo2, v_ast, v_as, v_as2, v_as3, v_aop, v_ao, v_ao2, v_ao3, v_exs, v_ex, v_ifs, v_if1, v_if0, v_ret, v_rt, v_rez, v_rz, v_rev, v_brk, v_sws, v_sw, v_sw2, v_run, v_rb, v_turn, v_tu1, v_tu0, v_tu2, v_tu3, fst1, snd1, Option.map_some, Option.getD_some, enA, en, stE, okb, narV, rf_toNat, rf_nn, List.getElem?_cons_zero, List.getElem?_cons_succ, w32_id, w64_id, ite_t, ite_f, Int.toNat_add, Int.toNat_mul, dec_t, dec_f, sM_0, sM_1, h3])
  exact lp
set_option maxRecDepth 100000 in theorem r_cut2 {m : Mem} {c : Nat → Int} {N s n : Nat} {C : Int} (q : RTq m c N) (hs : s < N) (hl : ltB c s = false) (hd : dgB c s = true) : loopS 6 7 kX12_cutAll_2c kX12_cutAll_2b kX12_cutAll_2u shM [(2, rf 0), (0, (n : Int)), (0, (s : Int)), (0, C), (0, (s : Int)), (1, 0), (3, 0)] m = some (0, 0, [(2, rf 0), (0, (n : Int)), (0, ((teE c N s : Nat) : Int)), (0, C), (0, (s : Int)), (1, hnE 10 (fun j => c (s + j) - 48) (min (teE c N s - s) 4)), (3, 0)], m) := by
  obtain ⟨t1, t2, t3⟩ := te_b (c := c) (N := N) (s := s) (by omega)
  obtain ⟨l1, l2⟩ := te_d hs hl hd
  have dd := dg_d hs hl hd
  obtain ⟨p, h3, hN, hc, hr⟩ := q
  have lp := loop_run (kb := 6) (kc := 7) (c := kX12_cutAll_2c) (body := kX12_cutAll_2b) (upd := kX12_cutAll_2u) (sh := shM) (fun j => [(2, rf 0), (0, (n : Int)), (0, ((s + j : Nat) : Int)), (0, C), (0, (s : Int)), (1, hnE 10 (fun j => c (s + j) - 48) (min j 4)), (3, 0)]) (fun _ => m) (r := (0, 0, [(2, rf 0), (0, (n : Int)), (0, ((teE c N s : Nat) : Int)), (0, C), (0, (s : Int)), (1, hnE 10 (fun j => c (s + j) - 48) (min (teE c N s - s) 4)), (3, 0)], m)) (teE c N s - s) (by
    intro j hj
    have lj := of_decide_eq_true (l1 (s + j) (by omega) (by omega))
    have m1 : m 1 (s + j) = c (s + j) := hc _ (by omega)
    have el := r_isDigit m (c (s + j))
    rw [if_pos lj] at el
    by_cases j8 : j < 4
    · have b := hn_b10 (d := fun j => c (s + j) - 48) j (fun i hi => dd i (by omega))
      have b2 := bnd_10 j (by omega)
      have e1 : min j 4 = j := by omega
      have e2 : min (j + 1) 4 = j + 1 := by omega
      have e3 : hnE 10 (fun j => c (s + j) - 48) (j + 1) = 10 * hnE 10 (fun j => c (s + j) - 48) j + c (s + j) - 48 := by
        rw [hn_s, Int.mul_comm]
        omega
      rw [e1, e2, e3]
      have sN : s + j < N := by omega
      have sj : ((s + j : Nat) : Int) - (s : Int) = (j : Int) := by omega
      have sj2 : ((s + (j + 1) : Nat) : Int) = ((s + j : Nat) : Int) + 1 := by omega
      rw [sj2]
      clear l1 l2 dd hc hr e3
      generalize hnE 10 (fun j => c (s + j) - 48) j = X at *
      generalize bnd 10 9 j = Y at *
      generalize s + j = K at *
      generalize c K = D at *
      simp -implicitDefEqProofs (disch := omega) [kX12_cutAll_2c, kX12_cutAll_2b, kX12_cutAll_2u, v_cop, v_c1, v_c2, v_c3, v_c4, v_c5, v_bin, v_bn, v_bn2, v_div, v_dv, v_dv2, v_une, v_un, v_loc, v_num, v_get, v_gt, v_ald, v_al, v_al2, v_len, v_ln, v_rl0, v_rl1, v_rl2, v_rl3, v_rl4, v_rl5, v_cmp, v_cp, v_cp2, v_zC, v_zc, v_con, v_kc, v_and, v_an1, v_an0, v_or, v_or1, v_or0, v_not, v_nt, v_boo, v_bo, v_cnd, v_cd1, v_cd0, v_cnc, v_cc1, v_cc0, v_ev0, v_ev, v_e1, v_e2, v_cve, v_cv, v_cse, v_cs, v_skip, v_seq, v_sq0, v_sq1, v_sqr, v_sts, v_st, v_inc, v_put, v_pt, v_pt2, v_fop, v_fo, v_fo2, v_ast, v_as, v_as2, v_as3, v_aop, v_ao, v_ao2, v_ao3, v_exs, v_ex, v_ifs, v_if1, v_if0, v_ret, v_rt, v_rez, v_rz, v_rev, v_brk, v_sws, v_sw, v_sw2, v_run, v_rb, v_turn, v_tu1, v_tu0, v_tu2, v_tu3, fst1, snd1, Option.map_some, Option.getD_some, enA, en, stE, okb, narV, rf_toNat, rf_nn, List.getElem?_cons_zero, List.getElem?_cons_succ, w32_id, w64_id, ite_t, ite_f, Int.toNat_add, Int.toNat_mul, dec_t, dec_f, sM_0, sM_1, p.p1, h3, m1, el, sj]
    · have e1 : min j 4 = 4 := by omega
      have e2 : min (j + 1) 4 = 4 := by omega
      rw [e1, e2]
      have sN : s + j < N := by omega
      have sj : ((s + j : Nat) : Int) - (s : Int) = (j : Int) := by omega
      have sj2 : ((s + (j + 1) : Nat) : Int) = ((s + j : Nat) : Int) + 1 := by omega
      rw [sj2]
      clear l1 l2 dd hc hr
      generalize hnE 10 (fun j => c (s + j) - 48) 4 = X at *
      generalize s + j = K at *
      generalize c K = D at *
      simp -implicitDefEqProofs (disch := omega) [kX12_cutAll_2c, kX12_cutAll_2b, kX12_cutAll_2u, v_cop, v_c1, v_c2, v_c3, v_c4, v_c5, v_bin, v_bn, v_bn2, v_div, v_dv, v_dv2, v_une, v_un, v_loc, v_num, v_get, v_gt, v_ald, v_al, v_al2, v_len, v_ln, v_rl0, v_rl1, v_rl2, v_rl3, v_rl4, v_rl5, v_cmp, v_cp, v_cp2, v_zC, v_zc, v_con, v_kc, v_and, v_an1, v_an0, v_or, v_or1, v_or0, v_not, v_nt, v_boo, v_bo, v_cnd, v_cd1, v_cd0, v_cnc, v_cc1, v_cc0, v_ev0, v_ev, v_e1, v_e2, v_cve, v_cv, v_cse, v_cs, v_skip, v_seq, v_sq0, v_sq1, v_sqr, v_sts, v_st, v_inc, v_put, v_pt, v_pt2, v_fop, v_fo, v_fo2, v_ast, v_as, v_as2, v_as3, v_aop, v_ao, v_ao2, v_ao3, v_exs, v_ex, v_ifs, v_if1, v_if0, v_ret, v_rt, v_rez, v_rz, v_rev, v_brk, v_sws, v_sw, v_sw2, v_run, v_rb, v_turn, v_tu1, v_tu0, v_tu2, v_tu3, fst1, snd1, Option.map_some, Option.getD_some, enA, en, stE, okb, narV, rf_toNat, rf_nn, List.getElem?_cons_zero, List.getElem?_cons_succ, w32_id, w64_id, ite_t, ite_f, Int.toNat_add, Int.toNat_mul, dec_t, dec_f, sM_0, sM_1, p.p1, h3, m1, el, sj]) (by
    rw [show s + (teE c N s - s) = teE c N s by omega]
    generalize hnE 10 (fun j => c (s + j) - 48) (min (teE c N s - s) 4) = X at *
    generalize teE c N s = K at *
    by_cases l : K < N
    · have m1 : m 1 K = c K := hc _ l
      have b := of_decide_eq_false (l2 l)
      have el := r_isDigit m (c K)
      rw [if_neg b] at el
      generalize c K = D at *
      simp -implicitDefEqProofs (disch := omega) [kX12_cutAll_2c, v_cop, v_c1, v_c2, v_c3, v_c4, v_c5, v_bin, v_bn, v_bn2, v_div, v_dv, v_dv2, v_une, v_un, v_loc, v_num, v_get, v_gt, v_ald, v_al, v_al2, v_len, v_ln, v_rl0, v_rl1, v_rl2, v_rl3, v_rl4, v_rl5, v_cmp, v_cp, v_cp2, v_zC, v_zc, v_con, v_kc, v_and, v_an1, v_an0, v_or, v_or1, v_or0, v_not, v_nt, v_boo, v_bo, v_cnd, v_cd1, v_cd0, v_cnc, v_cc1, v_cc0, v_ev0, v_ev, v_e1, v_e2, v_cve, v_cv, v_cse, v_cs, v_skip, v_seq, v_sq0, v_sq1, v_sqr, v_sts, v_st, v_inc, v_put, v_pt, v_pt2, v_fop, v_fo, v_fo2, v_ast, v_as, v_as2, v_as3, v_aop, v_ao, v_ao2, v_ao3, v_exs, v_ex, v_ifs, v_if1, v_if0, v_ret, v_rt, v_rez, v_rz, v_rev, v_brk, v_sws, v_sw, v_sw2, v_run, v_rb, v_turn, v_tu1, v_tu0, v_tu2, v_tu3, fst1, snd1, Option.map_some, Option.getD_some, enA, en, stE, okb, narV, rf_toNat, rf_nn, List.getElem?_cons_zero, List.getElem?_cons_succ, w32_id, w64_id, ite_t, ite_f, Int.toNat_add, Int.toNat_mul, dec_t, dec_f, sM_0, sM_1, p.p1, h3, m1, el]
    · simp -implicitDefEqProofs (disch := omega) [kX12_cutAll_2c, v_cop, v_c1, v_c2, v_c3, v_c4, v_c5, v_bin, v_bn, v_bn2, v_div, v_dv, v_dv2, v_une, v_un, v_loc, v_num, v_get, v_gt, v_ald, v_al, v_al2, v_len, v_ln, v_rl0, v_rl1, v_rl2, v_rl3, v_rl4, v_rl5, v_cmp, v_cp, v_cp2, v_zC, v_zc, v_con, v_kc, v_and, v_an1, v_an0, v_or, v_or1, v_or0, v_not, v_nt, v_boo, v_bo, v_cnd, v_cd1, v_cd0, v_cnc, v_cc1, v_cc0, v_ev0, v_ev, v_e1, v_e2, v_cve, v_cv, v_cse, v_cs, v_skip, v_seq, v_sq0, v_sq1, v_sqr, v_sts, v_st, v_inc, v_put, v_pt, v_pt2, v_fop, v_fo, v_fo2, v_ast, v_as, v_as2, v_as3, v_aop, v_ao, v_ao2, v_ao3, v_exs, v_ex, v_ifs, v_if1, v_if0, v_ret, v_rt, v_rez, v_rz, v_rev, v_brk, v_sws, v_sw, v_sw2, v_run, v_rb, v_turn, v_tu1, v_tu0, v_tu2, v_tu3, fst1, snd1, Option.map_some, Option.getD_some, enA, en, stE, okb, narV, rf_toNat, rf_nn, List.getElem?_cons_zero, List.getElem?_cons_succ, w32_id, w64_id, ite_t, ite_f, Int.toNat_add, Int.toNat_mul, dec_t, dec_f, sM_0, sM_1, h3])
  exact lp
/-- the first n tokens are cut -/
def CutN (m : Mem) (c : Nat → Int) (N n : Nat) : Prop := ∀ i, i < n → plE c N i < N ∧ m 3 i = ((plE c N i : Nat) : Int) ∧ m 2 i = rsE c N (plE c N i) ∧ (rsE c N (plE c N i) ≠ 4 → m 4 i = rvE c N (plE c N i))
set_option maxRecDepth 100000 in theorem cut_s {m : Mem} {c : Nat → Int} {N n s : Nat} {v : Int} (A : CutN m c N n) (hs : s < N) (e : plE c N n = s) (hv : rsE c N s ≠ 4 → v = rvE c N s) : CutN (ud (ud (ud m 3 n (s : Int)) 2 n (rsE c N s)) 4 n v) c N (n + 1) := by
  intro i hi
  by_cases q : i = n
  · subst q
    rw [e]
    refine ⟨hs, ?_, ?_, fun z => ?_⟩
    · rw [ud_c (by decide), ud_c (by decide), ud_s]
    · rw [ud_c (by decide), ud_s]
    · rw [ud_s]; exact hv z
  · obtain ⟨a1, a2, a3, a4⟩ := A i (by omega)
    refine ⟨a1, ?_, ?_, fun z => ?_⟩
    · rw [ud_n (by omega), ud_n (by omega), ud_n (by omega)]; exact a2
    · rw [ud_n (by omega), ud_n (by omega), ud_n (by omega)]; exact a3
    · rw [ud_n (by omega), ud_n (by omega), ud_n (by omega)]; exact a4 z
set_option maxRecDepth 100000 in theorem r_cutL {μ : Mem} {c : Nat → Int} {N : Nat} (q : RTq μ c N) : ∃ T t3 t4 t5 t6 m, loopS 2 3 kX12_cutAll_0c kX12_cutAll_0b kX12_cutAll_0u shM [(2, rf 0), (0, 0), (0, 0), (3, 0), (3, 0), (3, 0), (3, 0)] μ = some (0, 0, [(2, rf 0), (0, ((T : Nat) : Int)), (0, (N : Int)), t3, t4, t5, t6], m) ∧ T ≤ N ∧ plE c N T = N ∧ CutN m c N T ∧ ∀ x y, x ≠ 2 → x ≠ 3 → x ≠ 4 → m x y = μ x y := by
  have hN := q.2.2.1
  obtain ⟨r, lp, hq⟩ := loop_inv (kb := 2) (kc := 3) (c := kX12_cutAll_0c) (body := kX12_cutAll_0b) (upd := kX12_cutAll_0u) (sh := shM) (fun z env m => ∃ (n k : Nat) (t3 t4 t5 t6 : Nat × Int), env = [(2, rf 0), (0, (n : Int)), (0, (k : Int)), t3, t4, t5, t6] ∧ z = N - k ∧ k ≤ N ∧ n ≤ k ∧ skE c N k = plE c N n ∧ CutN m c N n ∧ ∀ x y, x ≠ 2 → x ≠ 3 → x ≠ 4 → m x y = μ x y) (fun r => ∃ (T : Nat) (t3 t4 t5 t6 : Nat × Int) (m : Mem), r = (0, 0, [(2, rf 0), (0, ((T : Nat) : Int)), (0, (N : Int)), t3, t4, t5, t6], m) ∧ T ≤ N ∧ plE c N T = N ∧ CutN m c N T ∧ ∀ x y, x ≠ 2 → x ≠ 3 → x ≠ 4 → m x y = μ x y) (by
    rintro z env m ⟨n, k, t3, t4, t5, t6, rfl, rfl, hk, hn, hsk, A, D⟩
    have qm : ∀ v : Int, RTq (ud m 3 n v) c N := fun v => ⟨q.1.keep (S := fun x y => x = 2 ∨ x = 3 ∨ x = 4) (fun x y hs => by rw [ud_c (by omega)]; exact D x y (by omega) (by omega) (by omega)) (by decide), by rw [ud_c (by decide), D _ _ (by decide) (by decide) (by decide)]; exact q.2.1, hN, fun i hi => by rw [ud_c (by decide), D _ _ (by decide) (by decide) (by decide)]; exact q.2.2.2.1 i hi, q.2.2.2.2⟩
    have pm : PM m := q.1.keep (S := fun x y => x = 2 ∨ x = 3 ∨ x = 4) (fun x y hs => D x y (by omega) (by omega) (by omega)) (by decide)
    have h3 : m 0 3 = (N : Int) := by rw [D _ _ (by decide) (by decide) (by decide)]; exact q.2.1
    by_cases l : k < N
    · have m1 : m 1 k = c k := by rw [D _ _ (by decide) (by decide) (by decide)]; exact q.2.2.2.1 k l
      have rk := q.2.2.2.2 k l
      cases hb : blB c k with
      | true =>
        have b1 := of_decide_eq_true hb
        refine .inl ⟨[(2, rf 0), (0, (n : Int)), (0, ((k + 1 : Nat) : Int)), (0, c k), t4, t5, t6], m, N - (k + 1), ?_, by omega, n, k + 1, (0, c k), t4, t5, t6, rfl, rfl, by omega, by omega, by rw [← hsk]; exact (rn_step l hb).symm, A, D⟩
        clear A D qm hsk rk
        generalize c k = C at *
        by_cases c10 : C = 10
        · simp -implicitDefEqProofs (disch := omega) [kX12_cutAll_0c, kX12_cutAll_0b, kX12_cutAll_0u, v_cop, v_c1, v_c2, v_c3, v_c4, v_c5, v_bin, v_bn, v_bn2, v_div, v_dv, v_dv2, v_une, v_un, v_loc, v_num, v_get, v_gt, v_ald, v_al, v_al2, v_len, v_ln, v_rl0, v_rl1, v_rl2, v_rl3, v_rl4, v_rl5, v_cmp, v_cp, v_cp2, v_zC, v_zc, v_con, v_kc, v_and, v_an1, v_an0, v_or, v_or1, v_or0, v_not, v_nt, v_boo, v_bo, v_cnd, v_cd1, v_cd0, v_cnc, v_cc1, v_cc0, v_ev0, v_ev, v_e1, v_e2, v_cve, v_cv, v_cse, v_cs, v_skip, v_seq, v_sq0, v_sq1, v_sqr, v_sts, v_st, v_inc, v_put, v_pt, v_pt2, v_fop, v_fo, v_fo2, v_ast, v_as, v_as2, v_as3, v_aop, v_ao, v_ao2, v_ao3, v_exs, v_ex, v_ifs, v_if1, v_if0, v_ret, v_rt, v_rez, v_rz, v_rev, v_brk, v_sws, v_sw, v_sw2, v_run, v_rb, v_turn, v_tu1, v_tu0, v_tu2, v_tu3, fst1, snd1, Option.map_some, Option.getD_some, enA, en, stE, okb, narV, rf_toNat, rf_nn, List.getElem?_cons_zero, List.getElem?_cons_succ, w32_id, w64_id, ite_t, ite_f, Int.toNat_add, Int.toNat_mul, dec_t, dec_f, sM_0, sM_1, pm.p1, h3, m1, c10]
        · have c32 : C = 32 := by omega
          simp -implicitDefEqProofs (disch := omega) [kX12_cutAll_0c, kX12_cutAll_0b, kX12_cutAll_0u, v_cop, v_c1, v_c2, v_c3, v_c4, v_c5, v_bin, v_bn, v_bn2, v_div, v_dv, v_dv2, v_une, v_un, v_loc, v_num, v_get, v_gt, v_ald, v_al, v_al2, v_len, v_ln, v_rl0, v_rl1, v_rl2, v_rl3, v_rl4, v_rl5, v_cmp, v_cp, v_cp2, v_zC, v_zc, v_con, v_kc, v_and, v_an1, v_an0, v_or, v_or1, v_or0, v_not, v_nt, v_boo, v_bo, v_cnd, v_cd1, v_cd0, v_cnc, v_cc1, v_cc0, v_ev0, v_ev, v_e1, v_e2, v_cve, v_cv, v_cse, v_cs, v_skip, v_seq, v_sq0, v_sq1, v_sqr, v_sts, v_st, v_inc, v_put, v_pt, v_pt2, v_fop, v_fo, v_fo2, v_ast, v_as, v_as2, v_as3, v_aop, v_ao, v_ao2, v_ao3, v_exs, v_ex, v_ifs, v_if1, v_if0, v_ret, v_rt, v_rez, v_rz, v_rev, v_brk, v_sws, v_sw, v_sw2, v_run, v_rb, v_turn, v_tu1, v_tu0, v_tu2, v_tu3, fst1, snd1, Option.map_some, Option.getD_some, enA, en, stE, okb, narV, rf_toNat, rf_nn, List.getElem?_cons_zero, List.getElem?_cons_succ, w32_id, w64_id, ite_t, ite_f, Int.toNat_add, Int.toNat_mul, dec_t, dec_f, sM_0, sM_1, pm.p1, h3, m1, c32]
      | false =>
        have b1 := of_decide_eq_false hb
        have b10 : ¬ c k = 10 := fun z => b1 (.inl z)
        have b32 : ¬ c k = 32 := fun z => b1 (.inr z)
        have hp : plE c N n = k := by rw [← hsk]; exact rn_stop hk (fun _ => hb)
        obtain ⟨u1, u2, u3⟩ := te_b (c := c) (N := N) (s := k) hk
        have u3' := u3 l
        have e1 : skE c N (teE c N k) = plE c N (n + 1) := by unfold plE; rw [bp_s, hp]
        have Dn : ∀ a v, ∀ x y, x ≠ 2 → x ≠ 3 → x ≠ 4 → ud (ud (ud m 3 n (k : Int)) 2 n a) 4 n v x y = μ x y := fun a v x y g1 g2 g3 => by rw [ud_c g3, ud_c g1, ud_c g2]; exact D x y g1 g2 g3
        have el := r_isLetter (ud m 3 n (k : Int)) (c k)
        cases hl : ltB c k with
        | true =>
          rw [if_pos (of_decide_eq_true hl)] at el
          have lp1 := r_cut1 (n := n) (C := c k) (qm k) l hl
          by_cases l8 : 8 < teE c N k - k
          · have er : rsE c N k = 4 := by unfold rsE; rw [if_pos l, if_pos hl, if_pos l8]
            have A' := cut_s (v := hnE 37 (fun j => c (k + j) - 96) (min (teE c N k - k) 8)) A l hp (fun z => absurd er z)
            rw [er] at A'
            refine .inl ⟨[(2, rf 0), (0, ((n + 1 : Nat) : Int)), (0, ((teE c N k : Nat) : Int)), (0, c k), (0, (k : Int)), (1, hnE 37 (fun j => c (k + j) - 96) (min (teE c N k - k) 8)), (3, 0)], _, N - teE c N k, ?_, by omega, n + 1, teE c N k, _, _, _, _, rfl, rfl, u2, by omega, e1, A', Dn _ _⟩
            clear A A' D qm hsk rk Dn e1 er hp
            generalize hnE 37 (fun j => c (k + j) - 96) (min (teE c N k - k) 8) = X at *
            generalize teE c N k = K at *
            generalize c k = C at *
            simp -implicitDefEqProofs (disch := omega) [kX12_cutAll_0c, kX12_cutAll_0b, kX12_cutAll_0u, kX12_cutAll_1, v_cop, v_c1, v_c2, v_c3, v_c4, v_c5, v_bin, v_bn, v_bn2, v_div, v_dv, v_dv2, v_une, v_un, v_loc, v_num, v_get, v_gt, v_ald, v_al, v_al2, v_len, v_ln, v_rl0, v_rl1, v_rl2, v_rl3, v_rl4, v_rl5, v_cmp, v_cp, v_cp2, v_zC, v_zc, v_con, v_kc, v_and, v_an1, v_an0, v_or, v_or1, v_or0, v_not, v_nt, v_boo, v_bo, v_cnd, v_cd1, v_cd0, v_cnc, v_cc1, v_cc0, v_ev0, v_ev, v_e1, v_e2, v_cve, v_cv, v_cse, v_cs, v_skip, v_seq, v_sq0, v_sq1, v_sqr, v_sts, v_st, v_inc, v_put, v_pt, v_pt2, v_fop, v_fo, v_fo2, v_ast, v_as, v_as2, v_as3, v_aop, v_ao, v_ao2, v_ao3, v_exs, v_ex, v_ifs, v_if1, v_if0, v_ret, v_rt, v_rez, v_rz, v_rev, v_brk, v_sws, v_sw, v_sw2, v_run, v_rb, v_turn, v_tu1, v_tu0, v_tu2, v_tu3, fst1, snd1, Option.map_some, Option.getD_some, enA, en, stE, okb, narV, rf_toNat, rf_nn, List.getElem?_cons_zero, List.getElem?_cons_succ, w32_id, w64_id, ite_t, ite_f, Int.toNat_add, Int.toNat_mul, dec_t, dec_f, sM_0, sM_1, sM_2, sM_3, sM_4, ud_c, pm.p1, pm.p4, pm.p5, pm.p6, h3, m1, b10, b32, el, lp1]
          · have er : rsE c N k = 1 := by unfold rsE; rw [if_pos l, if_pos hl, if_neg l8]
            have ev : hnE 37 (fun j => c (k + j) - 96) (min (teE c N k - k) 8) = rvE c N k := by unfold rvE; rw [if_pos hl, show min (teE c N k - k) 8 = teE c N k - k by omega]
            have A' := cut_s (v := hnE 37 (fun j => c (k + j) - 96) (min (teE c N k - k) 8)) A l hp (fun _ => ev)
            rw [er] at A'
            refine .inl ⟨[(2, rf 0), (0, ((n + 1 : Nat) : Int)), (0, ((teE c N k : Nat) : Int)), (0, c k), (0, (k : Int)), (1, hnE 37 (fun j => c (k + j) - 96) (min (teE c N k - k) 8)), (3, 0)], _, N - teE c N k, ?_, by omega, n + 1, teE c N k, _, _, _, _, rfl, rfl, u2, by omega, e1, A', Dn _ _⟩
            clear A A' D qm hsk rk Dn e1 er hp ev
            generalize hnE 37 (fun j => c (k + j) - 96) (min (teE c N k - k) 8) = X at *
            generalize teE c N k = K at *
            generalize c k = C at *
            simp -implicitDefEqProofs (disch := omega) [kX12_cutAll_0c, kX12_cutAll_0b, kX12_cutAll_0u, kX12_cutAll_1, v_cop, v_c1, v_c2, v_c3, v_c4, v_c5, v_bin, v_bn, v_bn2, v_div, v_dv, v_dv2, v_une, v_un, v_loc, v_num, v_get, v_gt, v_ald, v_al, v_al2, v_len, v_ln, v_rl0, v_rl1, v_rl2, v_rl3, v_rl4, v_rl5, v_cmp, v_cp, v_cp2, v_zC, v_zc, v_con, v_kc, v_and, v_an1, v_an0, v_or, v_or1, v_or0, v_not, v_nt, v_boo, v_bo, v_cnd, v_cd1, v_cd0, v_cnc, v_cc1, v_cc0, v_ev0, v_ev, v_e1, v_e2, v_cve, v_cv, v_cse, v_cs, v_skip, v_seq, v_sq0, v_sq1, v_sqr, v_sts, v_st, v_inc, v_put, v_pt, v_pt2, v_fop, v_fo, v_fo2, v_ast, v_as, v_as2, v_as3, v_aop, v_ao, v_ao2, v_ao3, v_exs, v_ex, v_ifs, v_if1, v_if0, v_ret, v_rt, v_rez, v_rz, v_rev, v_brk, v_sws, v_sw, v_sw2, v_run, v_rb, v_turn, v_tu1, v_tu0, v_tu2, v_tu3, fst1, snd1, Option.map_some, Option.getD_some, enA, en, stE, okb, narV, rf_toNat, rf_nn, List.getElem?_cons_zero, List.getElem?_cons_succ, w32_id, w64_id, ite_t, ite_f, Int.toNat_add, Int.toNat_mul, dec_t, dec_f, sM_0, sM_1, sM_2, sM_3, sM_4, ud_c, pm.p1, pm.p4, pm.p5, pm.p6, h3, m1, b10, b32, el, lp1]
        | false =>
          rw [if_neg (of_decide_eq_false hl)] at el
          have hl' : ¬ ltB c k = true := by rw [hl]; decide
          have ed := r_isDigit (ud m 3 n (k : Int)) (c k)
          cases hd : dgB c k with
          | true =>
            rw [if_pos (of_decide_eq_true hd)] at ed
            have lp2 := r_cut2 (n := n) (C := c k) (qm k) l hl hd
            by_cases l8 : 4 < teE c N k - k
            · have er : rsE c N k = 4 := by unfold rsE; rw [if_pos l, if_neg hl', if_pos hd, if_pos l8]
              have A' := cut_s (v := hnE 10 (fun j => c (k + j) - 48) (min (teE c N k - k) 4)) A l hp (fun z => absurd er z)
              rw [er] at A'
              refine .inl ⟨[(2, rf 0), (0, ((n + 1 : Nat) : Int)), (0, ((teE c N k : Nat) : Int)), (0, c k), (0, (k : Int)), (1, hnE 10 (fun j => c (k + j) - 48) (min (teE c N k - k) 4)), (3, 0)], _, N - teE c N k, ?_, by omega, n + 1, teE c N k, _, _, _, _, rfl, rfl, u2, by omega, e1, A', Dn _ _⟩
              clear A A' D qm hsk rk Dn e1 er hp
              generalize hnE 10 (fun j => c (k + j) - 48) (min (teE c N k - k) 4) = X at *
              generalize teE c N k = K at *
              generalize c k = C at *
              simp -implicitDefEqProofs (disch := omega) [kX12_cutAll_0c, kX12_cutAll_0b, kX12_cutAll_0u, kX12_cutAll_2, v_cop, v_c1, v_c2, v_c3, v_c4, v_c5, v_bin, v_bn, v_bn2, v_div, v_dv, v_dv2, v_une, v_un, v_loc, v_num, v_get, v_gt, v_ald, v_al, v_al2, v_len, v_ln, v_rl0, v_rl1, v_rl2, v_rl3, v_rl4, v_rl5, v_cmp, v_cp, v_cp2, v_zC, v_zc, v_con, v_kc, v_and, v_an1, v_an0, v_or, v_or1, v_or0, v_not, v_nt, v_boo, v_bo, v_cnd, v_cd1, v_cd0, v_cnc, v_cc1, v_cc0, v_ev0, v_ev, v_e1, v_e2, v_cve, v_cv, v_cse, v_cs, v_skip, v_seq, v_sq0, v_sq1, v_sqr, v_sts, v_st, v_inc, v_put, v_pt, v_pt2, v_fop, v_fo, v_fo2, v_ast, v_as, v_as2, v_as3, v_aop, v_ao, v_ao2, v_ao3, v_exs, v_ex, v_ifs, v_if1, v_if0, v_ret, v_rt, v_rez, v_rz, v_rev, v_brk, v_sws, v_sw, v_sw2, v_run, v_rb, v_turn, v_tu1, v_tu0, v_tu2, v_tu3, fst1, snd1, Option.map_some, Option.getD_some, enA, en, stE, okb, narV, rf_toNat, rf_nn, List.getElem?_cons_zero, List.getElem?_cons_succ, w32_id, w64_id, ite_t, ite_f, Int.toNat_add, Int.toNat_mul, dec_t, dec_f, sM_0, sM_1, sM_2, sM_3, sM_4, ud_c, pm.p1, pm.p4, pm.p5, pm.p6, h3, m1, b10, b32, el, ed, lp2]
            · have er : rsE c N k = 2 := by unfold rsE; rw [if_pos l, if_neg hl', if_pos hd, if_neg l8]
              have ev : hnE 10 (fun j => c (k + j) - 48) (min (teE c N k - k) 4) = rvE c N k := by unfold rvE vlE; rw [if_neg hl', if_pos hd, show min (teE c N k - k) 4 = teE c N k - k by omega]
              have A' := cut_s (v := hnE 10 (fun j => c (k + j) - 48) (min (teE c N k - k) 4)) A l hp (fun _ => ev)
              rw [er] at A'
              refine .inl ⟨[(2, rf 0), (0, ((n + 1 : Nat) : Int)), (0, ((teE c N k : Nat) : Int)), (0, c k), (0, (k : Int)), (1, hnE 10 (fun j => c (k + j) - 48) (min (teE c N k - k) 4)), (3, 0)], _, N - teE c N k, ?_, by omega, n + 1, teE c N k, _, _, _, _, rfl, rfl, u2, by omega, e1, A', Dn _ _⟩
              clear A A' D qm hsk rk Dn e1 er hp ev
              generalize hnE 10 (fun j => c (k + j) - 48) (min (teE c N k - k) 4) = X at *
              generalize teE c N k = K at *
              generalize c k = C at *
              simp -implicitDefEqProofs (disch := omega) [kX12_cutAll_0c, kX12_cutAll_0b, kX12_cutAll_0u, kX12_cutAll_2, v_cop, v_c1, v_c2, v_c3, v_c4, v_c5, v_bin, v_bn, v_bn2, v_div, v_dv, v_dv2, v_une, v_un, v_loc, v_num, v_get, v_gt, v_ald, v_al, v_al2, v_len, v_ln, v_rl0, v_rl1, v_rl2, v_rl3, v_rl4, v_rl5, v_cmp, v_cp, v_cp2, v_zC, v_zc, v_con, v_kc, v_and, v_an1, v_an0, v_or, v_or1, v_or0, v_not, v_nt, v_boo, v_bo, v_cnd, v_cd1, v_cd0, v_cnc, v_cc1, v_cc0, v_ev0, v_ev, v_e1, v_e2, v_cve, v_cv, v_cse, v_cs, v_skip, v_seq, v_sq0, v_sq1, v_sqr, v_sts, v_st, v_inc, v_put, v_pt, v_pt2, v_fop, v_fo, v_fo2, v_ast, v_as, v_as2, v_as3, v_aop, v_ao, v_ao2, v_ao3, v_exs, v_ex, v_ifs, v_if1, v_if0, v_ret, v_rt, v_rez, v_rz, v_rev, v_brk, v_sws, v_sw, v_sw2, v_run, v_rb, v_turn, v_tu1, v_tu0, v_tu2, v_tu3, fst1, snd1, Option.map_some, Option.getD_some, enA, en, stE, okb, narV, rf_toNat, rf_nn, List.getElem?_cons_zero, List.getElem?_cons_succ, w32_id, w64_id, ite_t, ite_f, Int.toNat_add, Int.toNat_mul, dec_t, dec_f, sM_0, sM_1, sM_2, sM_3, sM_4, ud_c, pm.p1, pm.p4, pm.p5, pm.p6, h3, m1, b10, b32, el, ed, lp2]
          | false =>
            rw [if_neg (of_decide_eq_false hd)] at ed
            have hd' : ¬ dgB c k = true := by rw [hd]; decide
            have eg := r_isSignOf (ud m 3 n (k : Int)) (c k)
            have et := te_o l hl hd
            have er : rsE c N k = if sgB (c k) = true then 3 else 4 := by unfold rsE; rw [if_pos l, if_neg hl', if_neg hd']
            have ev : c k = rvE c N k := by unfold rvE; rw [if_neg hl', if_neg hd']
            have A' := cut_s (v := c k) A l hp (fun _ => ev)
            rw [er] at A'
            rw [et] at e1
            refine .inl ⟨[(2, rf 0), (0, ((n + 1 : Nat) : Int)), (0, ((k + 1 : Nat) : Int)), (0, c k), (0, (k : Int)), (1, c k), (3, 0)], _, N - (k + 1), ?_, by omega, n + 1, k + 1, _, _, _, _, rfl, rfl, by omega, by omega, e1, A', Dn _ _⟩
            clear A A' D qm hsk Dn e1 er hp ev
            by_cases cs : sgB (c k) = true
            · rw [if_pos cs] at eg ⊢
              generalize c k = C at *
              simp -implicitDefEqProofs (disch := omega) [kX12_cutAll_0c, kX12_cutAll_0b, kX12_cutAll_0u, v_cop, v_c1, v_c2, v_c3, v_c4, v_c5, v_bin, v_bn, v_bn2, v_div, v_dv, v_dv2, v_une, v_un, v_loc, v_num, v_get, v_gt, v_ald, v_al, v_al2, v_len, v_ln, v_rl0, v_rl1, v_rl2, v_rl3, v_rl4, v_rl5, v_cmp, v_cp, v_cp2, v_zC, v_zc, v_con, v_kc, v_and, v_an1, v_an0, v_or, v_or1, v_or0, v_not, v_nt, v_boo, v_bo, v_cnd, v_cd1, v_cd0, v_cnc, v_cc1, v_cc0, v_ev0, v_ev, v_e1, v_e2, v_cve, v_cv, v_cse, v_cs, v_skip, v_seq, v_sq0, v_sq1, v_sqr, v_sts, v_st, v_inc, v_put, v_pt, v_pt2, v_fop, v_fo, v_fo2, v_ast, v_as, v_as2, v_as3, v_aop, v_ao, v_ao2, v_ao3, v_exs, v_ex, v_ifs, v_if1, v_if0, v_ret, v_rt, v_rez, v_rz, v_rev, v_brk, v_sws, v_sw, v_sw2, v_run, v_rb, v_turn, v_tu1, v_tu0, v_tu2, v_tu3, fst1, snd1, Option.map_some, Option.getD_some, enA, en, stE, okb, narV, rf_toNat, rf_nn, List.getElem?_cons_zero, List.getElem?_cons_succ, w32_id, w64_id, ite_t, ite_f, Int.toNat_add, Int.toNat_mul, dec_t, dec_f, sM_0, sM_1, sM_2, sM_3, sM_4, ud_c, pm.p1, pm.p4, pm.p5, pm.p6, h3, m1, b10, b32, el, ed, eg]
            · rw [if_neg cs] at eg ⊢
              generalize c k = C at *
              simp -implicitDefEqProofs (disch := omega) [kX12_cutAll_0c, kX12_cutAll_0b, kX12_cutAll_0u, v_cop, v_c1, v_c2, v_c3, v_c4, v_c5, v_bin, v_bn, v_bn2, v_div, v_dv, v_dv2, v_une, v_un, v_loc, v_num, v_get, v_gt, v_ald, v_al, v_al2, v_len, v_ln, v_rl0, v_rl1, v_rl2, v_rl3, v_rl4, v_rl5, v_cmp, v_cp, v_cp2, v_zC, v_zc, v_con, v_kc, v_and, v_an1, v_an0, v_or, v_or1, v_or0, v_not, v_nt, v_boo, v_bo, v_cnd, v_cd1, v_cd0, v_cnc, v_cc1, v_cc0, v_ev0, v_ev, v_e1, v_e2, v_cve, v_cv, v_cse, v_cs, v_skip, v_seq, v_sq0, v_sq1, v_sqr, v_sts, v_st, v_inc, v_put, v_pt, v_pt2, v_fop, v_fo, v_fo2, v_ast, v_as, v_as2, v_as3, v_aop, v_ao, v_ao2, v_ao3, v_exs, v_ex, v_ifs, v_if1, v_if0, v_ret, v_rt, v_rez, v_rz, v_rev, v_brk, v_sws, v_sw, v_sw2, v_run, v_rb, v_turn, v_tu1, v_tu0, v_tu2, v_tu3, fst1, snd1, Option.map_some, Option.getD_some, enA, en, stE, okb, narV, rf_toNat, rf_nn, List.getElem?_cons_zero, List.getElem?_cons_succ, w32_id, w64_id, ite_t, ite_f, Int.toNat_add, Int.toNat_mul, dec_t, dec_f, sM_0, sM_1, sM_2, sM_3, sM_4, ud_c, pm.p1, pm.p4, pm.p5, pm.p6, h3, m1, b10, b32, el, ed, eg]
    · have hkN : k = N := by omega
      subst hkN
      refine .inr ⟨(0, 0, [(2, rf 0), (0, (n : Int)), (0, (k : Int)), t3, t4, t5, t6], m), ?_, n, t3, t4, t5, t6, m, rfl, hn, by rw [← hsk]; exact rn_stop (Nat.le_refl _) (fun z => by omega), A, D⟩
      simp -implicitDefEqProofs (disch := omega) [kX12_cutAll_0c, v_cop, v_c1, v_c2, v_c3, v_c4, v_c5, v_bin, v_bn, v_bn2, v_div, v_dv, v_dv2, v_une, v_un, v_loc, v_num, v_get, v_gt, v_ald, v_al, v_al2, v_len, v_ln, v_rl0, v_rl1, v_rl2, v_rl3, v_rl4, v_rl5, v_cmp, v_cp, v_cp2, v_zC, v_zc, v_con, v_kc, v_and, v_an1, v_an0, v_or, v_or1, v_or0, v_not, v_nt, v_boo, v_bo, v_cnd, v_cd1, v_cd0, v_cnc, v_cc1, v_cc0, v_ev0, v_ev, v_e1, v_e2, v_cve, v_cv, v_cse, v_cs, v_skip, v_seq, v_sq0, v_sq1, v_sqr, v_sts, v_st, v_inc, v_put, v_pt, v_pt2, v_fop, v_fo, v_fo2, v_ast, v_as, v_as2, v_as3, v_aop, v_ao, v_ao2, v_ao3, v_exs, v_ex, v_ifs, v_if1, v_if0, v_ret, v_rt, v_rez, v_rz, v_rev, v_brk, v_sws, v_sw, v_sw2, v_run, v_rb, v_turn, v_tu1, v_tu0, v_tu2, v_tu3, fst1, snd1, Option.map_some, Option.getD_some, enA, en, stE, okb, narV, rf_toNat, rf_nn, List.getElem?_cons_zero, List.getElem?_cons_succ, w32_id, w64_id, ite_t, ite_f, Int.toNat_add, Int.toNat_mul, dec_t, dec_f, sM_0, h3]) N [(2, rf 0), (0, 0), (0, 0), (3, 0), (3, 0), (3, 0), (3, 0)] μ ⟨0, 0, (3, 0), (3, 0), (3, 0), (3, 0), rfl, rfl, Nat.zero_le _, Nat.le_refl _, rfl, fun i hi => by omega, fun _ _ _ _ _ => rfl⟩
  obtain ⟨T, t3, t4, t5, t6, m, rfl, h1, h2, h3, h4⟩ := hq
  exact ⟨T, t3, t4, t5, t6, m, lp, h1, h2, h3, h4⟩
set_option maxRecDepth 100000 in theorem r_cut {μ : Mem} {c : Nat → Int} {N : Nat} (p : PM μ) (h2 : μ 0 2 = (N : Int)) (hN : N ≤ 1000) (hc : ∀ i, i < N → μ 1 i = c i) (hr : ∀ i, i < N → c i = 10 ∨ 32 ≤ c i ∧ c i ≤ 126) : ∃ T μ', fX12_cutAll shM [(2, rf 0)] μ = some (0, μ') ∧ T ≤ N ∧ plE c N T = N ∧ CutN μ' c N T ∧ μ' 2 T = 0 ∧ μ' 3 T = (N : Int) ∧ μ' 0 7 = 0 ∧ μ' 0 8 = 0 ∧ μ' 0 2 = 0 ∧ ∀ x y, x ≠ 2 → x ≠ 3 → x ≠ 4 → ¬ (x = 0 ∧ (y = 2 ∨ y = 3 ∨ y = 7 ∨ y = 8)) → μ' x y = μ x y := by
  have q : RTq (ud (ud μ 0 3 (N : Int)) 0 2 0) c N := ⟨p.keep (S := fun x y => x = 0 ∧ (y = 2 ∨ y = 3)) (fun x y hs => by rw [ud_n (by omega), ud_n (by omega)]) (by decide), by rw [ud_n (by omega), ud_s], hN, fun i hi => by rw [ud_n (by omega), ud_n (by omega)]; exact hc i hi, hr⟩
  obtain ⟨T, t3, t4, t5, t6, m, lp, h1, h4, A, D⟩ := r_cutL q
  have pm : PM m := q.1.keep (S := fun x y => x = 2 ∨ x = 3 ∨ x = 4) (fun x y hs => D x y (by omega) (by omega) (by omega)) (by decide)
  have h3 : m 0 3 = (N : Int) := by rw [D _ _ (by decide) (by decide) (by decide)]; exact q.2.1
  have hz : m 0 2 = 0 := by rw [D _ _ (by decide) (by decide) (by decide), ud_s]
  refine ⟨T, ud (ud (ud (ud m 2 T 0) 3 T (N : Int)) 0 7 0) 0 8 0, ?_, h1, h4, fun i hi => ?_, ?_, ?_, ?_, ?_, ?_, fun x y g2 g3 g4 g5 => ?_⟩
  · clear A D
    generalize hu : ud (ud μ 0 3 (N : Int)) 0 2 0 = m0 at *
    simp -implicitDefEqProofs (disch := omega) [fX12_cutAll, bX12_cutAll, kX12_cutAll_0, v_cop, v_c1, v_c2, v_c3, v_c4, v_c5, v_bin, v_bn, v_bn2, v_div, v_dv, v_dv2, v_une, v_un, v_loc, v_num, v_get, v_gt, v_ald, v_al, v_al2, v_len, v_ln, v_rl0, v_rl1, v_rl2, v_rl3, v_rl4, v_rl5, v_cmp, v_cp, v_cp2, v_zC, v_zc, v_con, v_kc, v_and, v_an1, v_an0, v_or, v_or1, v_or0, v_not, v_nt, v_boo, v_bo, v_cnd, v_cd1, v_cd0, v_cnc, v_cc1, v_cc0, v_ev0, v_ev, v_e1, v_e2, v_cve, v_cv, v_cse, v_cs, v_skip, v_seq, v_sq0, v_sq1, v_sqr, v_sts, v_st, v_inc, v_put, v_pt, v_pt2, v_fop, v_fo, v_fo2, v_ast, v_as, v_as2, v_as3, v_aop, v_ao, v_ao2, v_ao3, v_exs, v_ex, v_ifs, v_if1, v_if0, v_ret, v_rt, v_rez, v_rz, v_rev, v_brk, v_sws, v_sw, v_sw2, v_run, v_rb, v_turn, v_tu1, v_tu0, v_tu2, v_tu3, fst1, snd1, Option.map_some, Option.getD_some, enA, en, stE, okb, narV, rf_toNat, rf_nn, List.getElem?_cons_zero, List.getElem?_cons_succ, w32_id, w64_id, ite_t, ite_f, Int.toNat_add, Int.toNat_mul, dec_t, dec_f, sM_0, sM_1, sM_2, sM_3, sM_4, ud_c, h2, hu, lp, pm.p4, pm.p5, h3]
  · obtain ⟨a1, a2, a3, a4⟩ := A i hi
    refine ⟨a1, ?_, ?_, fun z => ?_⟩
    · rw [ud_n (by omega), ud_n (by omega), ud_n (by omega), ud_n (by omega)]; exact a2
    · rw [ud_n (by omega), ud_n (by omega), ud_n (by omega), ud_n (by omega)]; exact a3
    · rw [ud_n (by omega), ud_n (by omega), ud_n (by omega), ud_n (by omega)]; exact a4 z
  · rw [ud_n (by omega), ud_n (by omega), ud_n (by omega), ud_s]
  · rw [ud_n (by omega), ud_n (by omega), ud_s]
  · rw [ud_n (by omega), ud_s]
  · rw [ud_s]
  · rw [ud_n (by omega), ud_n (by omega), ud_n (by omega), ud_n (by omega)]; exact hz
  · rw [ud_n (by omega), ud_n (by omega), ud_n (by omega), ud_n (by omega), D _ _ g2 g3 g4, ud_n (by omega), ud_n (by omega)]
