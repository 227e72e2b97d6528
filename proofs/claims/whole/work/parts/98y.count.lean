/-! friends, count, feed -/
set_option maxRecDepth 100000 in theorem r_friends1 {μ : Mem} (p : PM μ) {k s : Int} {a : Nat} (ha : a < 12) (hs : 0 ≤ s ∧ s ≤ 1000) : loopS 4 5 kX12_friends_1c kX12_friends_1b kX12_friends_1u shM [(2, rf 0), (0, k), (0, s), (0, (a : Int)), (0, 0)] μ = some (0, 0, [(2, rf 0), (0, k), (0, s + frS (μ 15) k a), (0, (a : Int)), (0, (a : Int))], μ) := by
  have := loop_run (kb := 4) (kc := 5) (c := kX12_friends_1c) (body := kX12_friends_1b) (upd := kX12_friends_1u) (sh := shM) (fun j => [(2, rf 0), (0, k), (0, s + sumN (fun b => if k ≤ μ 15 (38 + (a * 12 + b)) then 1 else 0) j), (0, (a : Int)), (0, (j : Int))]) (fun _ => μ) (r := (0, 0, [(2, rf 0), (0, k), (0, s + frS (μ 15) k a), (0, (a : Int)), (0, (a : Int))], μ)) a (by
    intro j hj
    have b1 : 0 ≤ sumN (fun b => if k ≤ μ 15 (38 + (a * 12 + b)) then (1 : Int) else 0) j ∧ sumN (fun b => if k ≤ μ 15 (38 + (a * 12 + b)) then (1 : Int) else 0) j ≤ j := sum01 (fun b _ => by by_cases c : k ≤ μ 15 (38 + (a * 12 + b)) <;> simp [c])
    have i1 : (38 + 12 * (a : Int) + (j : Int)).toNat = 38 + (a * 12 + j) := by omega
    have i2 : 0 ≤ 38 + 12 * (a : Int) + (j : Int) := by omega
    have i3 : 38 + 12 * (a : Int) + (j : Int) < 5220 := by omega
    have e2 : sumN (fun b => if k ≤ μ 15 (38 + (a * 12 + b)) then (1 : Int) else 0) (j + 1) = sumN (fun b => if k ≤ μ 15 (38 + (a * 12 + b)) then (1 : Int) else 0) j + (if k ≤ μ 15 (38 + (a * 12 + j)) then 1 else 0) := rfl
    rw [e2]
    generalize sumN (fun b => if k ≤ μ 15 (38 + (a * 12 + b)) then (1 : Int) else 0) j = S at b1
    by_cases c : k ≤ μ 15 (38 + (a * 12 + j))
    · simp -implicitDefEqProofs (disch := omega) [kX12_friends_1c, kX12_friends_1b, kX12_friends_1u, v_cop, v_c1, v_c2, v_c3, v_c4, v_c5, v_bin, v_bn, v_bn2, v_div, v_dv, v_dv2, v_une, v_un, v_loc, v_num, v_get, v_gt, v_ald, v_al, v_al2, v_len, v_ln, v_rl0, v_rl1, v_rl2, v_rl3, v_rl4, v_rl5, v_cmp, v_cp, v_cp2, v_zC, v_zc, v_con, v_kc, v_and, v_an1, v_an0, v_or, v_or1, v_or0, v_not, v_nt, v_boo, v_bo, v_cnd, v_cd1, v_cd0, v_cnc, v_cc1, v_cc0, v_ev0, v_ev, v_e1, v_e2, v_cve, v_cv, v_cse, v_cs, v_skip, v_seq, v_sq0, v_sq1, v_sqr, v_sts, v_st, v_inc, v_put, v_pt, v_pt2, v_fop, v_fo, v_fo2, v_ast, v_as, v_as2, v_as3, v_aop, v_ao, v_ao2, v_ao3, v_exs, v_ex, v_ifs, v_if1, v_if0, v_ret, v_rt, v_rez, v_rz, v_rev, v_brk, v_sws, v_sw, v_sw2, v_run, v_rb, v_turn, v_tu1, v_tu0, v_tu2, v_tu3, fst1, snd1, Option.map_some, Option.getD_some, enA, en, stE, okb, narV, rf_toNat, rf_nn, List.getElem?_cons_zero, List.getElem?_cons_succ, w32_id, w64_id, ite_t, ite_f, Int.toNat_add, Int.toNat_mul, dec_t, dec_f, sM_0, sM_15, hj, p.p23, i1, i2, i3, c] <;> omega
    · simp -implicitDefEqProofs (disch := omega) [kX12_friends_1c, kX12_friends_1b, kX12_friends_1u, v_cop, v_c1, v_c2, v_c3, v_c4, v_c5, v_bin, v_bn, v_bn2, v_div, v_dv, v_dv2, v_une, v_un, v_loc, v_num, v_get, v_gt, v_ald, v_al, v_al2, v_len, v_ln, v_rl0, v_rl1, v_rl2, v_rl3, v_rl4, v_rl5, v_cmp, v_cp, v_cp2, v_zC, v_zc, v_con, v_kc, v_and, v_an1, v_an0, v_or, v_or1, v_or0, v_not, v_nt, v_boo, v_bo, v_cnd, v_cd1, v_cd0, v_cnc, v_cc1, v_cc0, v_ev0, v_ev, v_e1, v_e2, v_cve, v_cv, v_cse, v_cs, v_skip, v_seq, v_sq0, v_sq1, v_sqr, v_sts, v_st, v_inc, v_put, v_pt, v_pt2, v_fop, v_fo, v_fo2, v_ast, v_as, v_as2, v_as3, v_aop, v_ao, v_ao2, v_ao3, v_exs, v_ex, v_ifs, v_if1, v_if0, v_ret, v_rt, v_rez, v_rz, v_rev, v_brk, v_sws, v_sw, v_sw2, v_run, v_rb, v_turn, v_tu1, v_tu0, v_tu2, v_tu3, fst1, snd1, Option.map_some, Option.getD_some, enA, en, stE, okb, narV, rf_toNat, rf_nn, List.getElem?_cons_zero, List.getElem?_cons_succ, w32_id, w64_id, ite_t, ite_f, Int.toNat_add, Int.toNat_mul, dec_t, dec_f, sM_0, sM_15, hj, p.p23, i1, i2, i3, c] <;> omega) (by simp -implicitDefEqProofs (disch := omega) [kX12_friends_1c, v_cop, v_c1, v_c2, v_c3, v_c4, v_c5, v_bin, v_bn, v_bn2, v_div, v_dv, v_dv2, v_une, v_un, v_loc, v_num, v_get, v_gt, v_ald, v_al, v_al2, v_len, v_ln, v_rl0, v_rl1, v_rl2, v_rl3, v_rl4, v_rl5, v_cmp, v_cp, v_cp2, v_zC, v_zc, v_con, v_kc, v_and, v_an1, v_an0, v_or, v_or1, v_or0, v_not, v_nt, v_boo, v_bo, v_cnd, v_cd1, v_cd0, v_cnc, v_cc1, v_cc0, v_ev0, v_ev, v_e1, v_e2, v_cve, v_cv, v_cse, v_cs, v_skip, v_seq, v_sq0, v_sq1, v_sqr, v_sts, v_st, v_inc, v_put, v_pt, v_pt2, v_fop, v_fo, v_fo2, v_ast, v_as, v_as2, v_as3, v_aop, v_ao, v_ao2, v_ao3, v_exs, v_ex, v_ifs, v_if1, v_if0, v_ret, v_rt, v_rez, v_rz, v_rev, v_brk, v_sws, v_sw, v_sw2, v_run, v_rb, v_turn, v_tu1, v_tu0, v_tu2, v_tu3, fst1, snd1, Option.map_some, Option.getD_some, enA, en, stE, okb, narV, rf_toNat, rf_nn, List.getElem?_cons_zero, List.getElem?_cons_succ, w32_id, w64_id, ite_t, ite_f, Int.toNat_add, Int.toNat_mul, dec_t, dec_f, frS])
  simpa [sumN] using this
set_option maxRecDepth 100000 in theorem r_friends {μ : Mem} {n : Nat} (p : PM μ) (th : ud μ 0 0 0 = μ) (hb : μ 6 1 = (n : Int)) (hn : n ≤ 12) {k : Int} (hk : 1 ≤ k ∧ k ≤ 9999) : fX12_friends shM [(2, rf 0), (0, k)] μ = some (sumN (frS (μ 15) k) n, μ) := by
  have eb := r_beasts p
  rw [hb] at eb
  obtain ⟨env', μ', h1, ⟨t, h2, h3, h4⟩⟩ := loop_n (kb := 2) (kc := 3) (c := kX12_friends_0c) (body := kX12_friends_0b) (upd := kX12_friends_0u) (sh := shM) (n := n) (fun j env m => ∃ t : Nat × Int, t.1 ≠ 1 ∧ env = [(2, rf 0), (0, k), (0, sumN (frS (μ 15) k) j), (0, (j : Int)), t] ∧ m = μ) (by
    rintro j env m hj ⟨⟨tk, tv⟩, h2, rfl, rfl⟩
    refine ⟨[(2, rf 0), (0, k), (0, sumN (frS (m 15) k) (j + 1)), (0, ((j + 1 : Nat) : Int)), (0, (j : Int))], m, ?_, _, by simp, rfl, rfl⟩
    have b1 := frs_b (m 15) k j
    have b2 : (j : Int) * j ≤ 144 := Int.mul_le_mul (a := (j : Int)) (b := (j : Int)) (c := 12) (d := 12) (by omega) (by omega) (by omega) (by omega)
    have e := r_friends1 p (k := k) (s := sumN (frS (m 15) k) j) (a := j) (by omega) (by omega)
    have e2 : sumN (frS (m 15) k) (j + 1) = sumN (frS (m 15) k) j + frS (m 15) k j := rfl
    rw [e2]
    have h2' : ¬ tk = 1 := h2
    simp -implicitDefEqProofs (disch := omega) [kX12_friends_0c, kX12_friends_0b, kX12_friends_0u, kX12_friends_1, v_cop, v_c1, v_c2, v_c3, v_c4, v_c5, v_bin, v_bn, v_bn2, v_div, v_dv, v_dv2, v_une, v_un, v_loc, v_num, v_get, v_gt, v_ald, v_al, v_al2, v_len, v_ln, v_rl0, v_rl1, v_rl2, v_rl3, v_rl4, v_rl5, v_cmp, v_cp, v_cp2, v_zC, v_zc, v_con, v_kc, v_and, v_an1, v_an0, v_or, v_or1, v_or0, v_not, v_nt, v_boo, v_bo, v_cnd, v_cd1, v_cd0, v_cnc, v_cc1, v_cc0, v_ev0, v_ev, v_e1, v_e2, v_cve, v_cv, v_cse, v_cs, v_skip, v_seq, v_sq0, v_sq1, v_sqr, v_sts, v_st, v_inc, v_put, v_pt, v_pt2, v_fop, v_fo, v_fo2, v_ast, v_as, v_as2, v_as3, v_aop, v_ao, v_ao2, v_ao3, v_exs, v_ex, v_ifs, v_if1, v_if0, v_ret, v_rt, v_rez, v_rz, v_rev, v_brk, v_sws, v_sw, v_sw2, v_run, v_rb, v_turn, v_tu1, v_tu0, v_tu2, v_tu3, fst1, snd1, Option.map_some, Option.getD_some, enA, en, stE, okb, narV, rf_toNat, rf_nn, List.getElem?_cons_zero, List.getElem?_cons_succ, w32_id, w64_id, ite_t, ite_f, Int.toNat_add, Int.toNat_mul, dec_t, dec_f, sM_0, eb, hj, h2', e]) (by
    rintro env m ⟨⟨tk, tv⟩, h2, rfl, rfl⟩
    simp -implicitDefEqProofs (disch := omega) [kX12_friends_0c, v_cop, v_c1, v_c2, v_c3, v_c4, v_c5, v_bin, v_bn, v_bn2, v_div, v_dv, v_dv2, v_une, v_un, v_loc, v_num, v_get, v_gt, v_ald, v_al, v_al2, v_len, v_ln, v_rl0, v_rl1, v_rl2, v_rl3, v_rl4, v_rl5, v_cmp, v_cp, v_cp2, v_zC, v_zc, v_con, v_kc, v_and, v_an1, v_an0, v_or, v_or1, v_or0, v_not, v_nt, v_boo, v_bo, v_cnd, v_cd1, v_cd0, v_cnc, v_cc1, v_cc0, v_ev0, v_ev, v_e1, v_e2, v_cve, v_cv, v_cse, v_cs, v_skip, v_seq, v_sq0, v_sq1, v_sqr, v_sts, v_st, v_inc, v_put, v_pt, v_pt2, v_fop, v_fo, v_fo2, v_ast, v_as, v_as2, v_as3, v_aop, v_ao, v_ao2, v_ao3, v_exs, v_ex, v_ifs, v_if1, v_if0, v_ret, v_rt, v_rez, v_rz, v_rev, v_brk, v_sws, v_sw, v_sw2, v_run, v_rb, v_turn, v_tu1, v_tu0, v_tu2, v_tu3, fst1, snd1, Option.map_some, Option.getD_some, enA, en, stE, okb, narV, rf_toNat, rf_nn, List.getElem?_cons_zero, List.getElem?_cons_succ, w32_id, w64_id, ite_t, ite_f, Int.toNat_add, Int.toNat_mul, dec_t, dec_f, sM_0, eb]) (env := [(2, rf 0), (0, k), (0, 0), (0, 0), (3, 0)]) (μ := μ) ⟨(3, 0), by decide, rfl, rfl⟩
  subst h3 h4
  have ew := r_within shM μ' k 1 9999
  rw [if_pos hk] at ew
  simp -implicitDefEqProofs (disch := omega) [fX12_friends, bX12_friends, kX12_friends_0, v_cop, v_c1, v_c2, v_c3, v_c4, v_c5, v_bin, v_bn, v_bn2, v_div, v_dv, v_dv2, v_une, v_un, v_loc, v_num, v_get, v_gt, v_ald, v_al, v_al2, v_len, v_ln, v_rl0, v_rl1, v_rl2, v_rl3, v_rl4, v_rl5, v_cmp, v_cp, v_cp2, v_zC, v_zc, v_con, v_kc, v_and, v_an1, v_an0, v_or, v_or1, v_or0, v_not, v_nt, v_boo, v_bo, v_cnd, v_cd1, v_cd0, v_cnc, v_cc1, v_cc0, v_ev0, v_ev, v_e1, v_e2, v_cve, v_cv, v_cse, v_cs, v_skip, v_seq, v_sq0, v_sq1, v_sqr, v_sts, v_st, v_inc, v_put, v_pt, v_pt2, v_fop, v_fo, v_fo2, v_ast, v_as, v_as2, v_as3, v_aop, v_ao, v_ao2, v_ao3, v_exs, v_ex, v_ifs, v_if1, v_if0, v_ret, v_rt, v_rez, v_rz, v_rev, v_brk, v_sws, v_sw, v_sw2, v_run, v_rb, v_turn, v_tu1, v_tu0, v_tu2, v_tu3, fst1, snd1, Option.map_some, Option.getD_some, enA, en, stE, okb, narV, rf_toNat, rf_nn, List.getElem?_cons_zero, List.getElem?_cons_succ, w32_id, w64_id, ite_t, ite_f, Int.toNat_add, Int.toNat_mul, dec_t, dec_f, sM_0, th, ew, h1]
set_option maxRecDepth 100000 in theorem st_friends (k : Int) : STP RR fX11_friends fX12_friends [(0, k)] := by
  refine STP.rd (fun μC μM h d n P M R => ?_)
  have th := ud_same R.th
  by_cases hk : 1 ≤ k ∧ k ≤ 9999
  · exact ⟨_, c_friends R.pc R.hd (R.fr.be.trans R.fb.n0) R.fb.n1 R.lr hk, r_friends R.pm th R.fb.n0 R.fb.n1 hk⟩
  · refine ⟨-1, ?_, ?_⟩
    · by_cases c : k < 1
      · simp -implicitDefEqProofs [fX11_friends, bX11_friends, v_cop, v_c1, v_c2, v_c3, v_c4, v_c5, v_bin, v_bn, v_bn2, v_div, v_dv, v_dv2, v_une, v_un, v_loc, v_num, v_get, v_gt, v_ald, v_al, v_al2, v_len, v_ln, v_rl0, v_rl1, v_rl2, v_rl3, v_rl4, v_rl5, v_cmp, v_cp, v_cp2, v_zC, v_zc, v_con, v_kc, v_and, v_an1, v_an0, v_or, v_or1, v_or0, v_not, v_nt, v_boo, v_bo, v_cnd, v_cd1, v_cd0, v_cnc, v_cc1, v_cc0, v_ev0, v_ev, v_e1, v_e2, v_cve, v_cv, v_cse, v_cs, v_skip, v_seq, v_sq0, v_sq1, v_sqr, v_sts, v_st, v_inc, v_put, v_pt, v_pt2, v_fop, v_fo, v_fo2, v_ast, v_as, v_as2, v_as3, v_aop, v_ao, v_ao2, v_ao3, v_exs, v_ex, v_ifs, v_if1, v_if0, v_ret, v_rt, v_rez, v_rz, v_rev, v_brk, v_sws, v_sw, v_sw2, v_run, v_rb, v_turn, v_tu1, v_tu0, v_tu2, v_tu3, fst1, snd1, Option.map_some, Option.getD_some, enA, en, stE, okb, narV, rf_toNat, rf_nn, List.getElem?_cons_zero, List.getElem?_cons_succ, w32_id, w64_id, ite_t, ite_f, Int.toNat_add, Int.toNat_mul, dec_t, dec_f, c]
      · have c2 : 9999 < k := by omega
        simp -implicitDefEqProofs [fX11_friends, bX11_friends, v_cop, v_c1, v_c2, v_c3, v_c4, v_c5, v_bin, v_bn, v_bn2, v_div, v_dv, v_dv2, v_une, v_un, v_loc, v_num, v_get, v_gt, v_ald, v_al, v_al2, v_len, v_ln, v_rl0, v_rl1, v_rl2, v_rl3, v_rl4, v_rl5, v_cmp, v_cp, v_cp2, v_zC, v_zc, v_con, v_kc, v_and, v_an1, v_an0, v_or, v_or1, v_or0, v_not, v_nt, v_boo, v_bo, v_cnd, v_cd1, v_cd0, v_cnc, v_cc1, v_cc0, v_ev0, v_ev, v_e1, v_e2, v_cve, v_cv, v_cse, v_cs, v_skip, v_seq, v_sq0, v_sq1, v_sqr, v_sts, v_st, v_inc, v_put, v_pt, v_pt2, v_fop, v_fo, v_fo2, v_ast, v_as, v_as2, v_as3, v_aop, v_ao, v_ao2, v_ao3, v_exs, v_ex, v_ifs, v_if1, v_if0, v_ret, v_rt, v_rez, v_rz, v_rev, v_brk, v_sws, v_sw, v_sw2, v_run, v_rb, v_turn, v_tu1, v_tu0, v_tu2, v_tu3, fst1, snd1, Option.map_some, Option.getD_some, enA, en, stE, okb, narV, rf_toNat, rf_nn, List.getElem?_cons_zero, List.getElem?_cons_succ, w32_id, w64_id, ite_t, ite_f, Int.toNat_add, Int.toNat_mul, dec_t, dec_f, c, c2]
    · have ew := r_within shM μM k 1 9999
      rw [if_neg hk] at ew
      simp -implicitDefEqProofs (disch := omega) [fX12_friends, bX12_friends, v_cop, v_c1, v_c2, v_c3, v_c4, v_c5, v_bin, v_bn, v_bn2, v_div, v_dv, v_dv2, v_une, v_un, v_loc, v_num, v_get, v_gt, v_ald, v_al, v_al2, v_len, v_ln, v_rl0, v_rl1, v_rl2, v_rl3, v_rl4, v_rl5, v_cmp, v_cp, v_cp2, v_zC, v_zc, v_con, v_kc, v_and, v_an1, v_an0, v_or, v_or1, v_or0, v_not, v_nt, v_boo, v_bo, v_cnd, v_cd1, v_cd0, v_cnc, v_cc1, v_cc0, v_ev0, v_ev, v_e1, v_e2, v_cve, v_cv, v_cse, v_cs, v_skip, v_seq, v_sq0, v_sq1, v_sqr, v_sts, v_st, v_inc, v_put, v_pt, v_pt2, v_fop, v_fo, v_fo2, v_ast, v_as, v_as2, v_as3, v_aop, v_ao, v_ao2, v_ao3, v_exs, v_ex, v_ifs, v_if1, v_if0, v_ret, v_rt, v_rez, v_rz, v_rev, v_brk, v_sws, v_sw, v_sw2, v_run, v_rb, v_turn, v_tu1, v_tu0, v_tu2, v_tu3, fst1, snd1, Option.map_some, Option.getD_some, enA, en, stE, okb, narV, rf_toNat, rf_nn, List.getElem?_cons_zero, List.getElem?_cons_succ, w32_id, w64_id, ite_t, ite_f, Int.toNat_add, Int.toNat_mul, dec_t, dec_f, sM_0, th, ew]
/-- pairs that like each other -/
noncomputable def prA (fl : Nat → Int) (a : Nat) : Int := sumN (fun b => if 0 < fl (27 + 12 * a + b) then 1 else 0) a
set_option maxRecDepth 100000 in theorem prA_b (fl : Nat → Int) (a : Nat) : 0 ≤ prA fl a ∧ prA fl a ≤ a := sum01 (fun b _ => by by_cases c : 0 < fl (27 + 12 * a + b) <;> simp [c])
set_option maxRecDepth 100000 in theorem prs_b (fl : Nat → Int) (n : Nat) : 0 ≤ sumN (prA fl) n ∧ sumN (prA fl) n ≤ (n : Int) * n := by
  refine sum_le (fun b hb => ?_)
  have := prA_b fl b
  omega
set_option maxRecDepth 100000 in theorem r_pairs1 {μ : Mem} (p : PM μ) {k s : Int} {a : Nat} (ha : a < 12) (hs : 0 ≤ s ∧ s ≤ 1000) : loopS 6 7 kX12_count_2c kX12_count_2b kX12_count_2u shM [(2, rf 0), (0, k), (0, s), (0, (a : Int)), (0, 0)] μ = some (0, 0, [(2, rf 0), (0, k), (0, s + prA (μ 6) a), (0, (a : Int)), (0, (a : Int))], μ) := by
  have := loop_run (kb := 6) (kc := 7) (c := kX12_count_2c) (body := kX12_count_2b) (upd := kX12_count_2u) (sh := shM) (fun j => [(2, rf 0), (0, k), (0, s + sumN (fun b => if 0 < μ 6 (27 + 12 * a + b) then 1 else 0) j), (0, (a : Int)), (0, (j : Int))]) (fun _ => μ) (r := (0, 0, [(2, rf 0), (0, k), (0, s + prA (μ 6) a), (0, (a : Int)), (0, (a : Int))], μ)) a (by
    intro j hj
    have b1 : 0 ≤ sumN (fun b => if 0 < μ 6 (27 + 12 * a + b) then (1 : Int) else 0) j ∧ sumN (fun b => if 0 < μ 6 (27 + 12 * a + b) then (1 : Int) else 0) j ≤ j := sum01 (fun b _ => by by_cases c : 0 < μ 6 (27 + 12 * a + b) <;> simp [c])
    have i1 : (27 + 12 * (a : Int) + (j : Int)).toNat = 27 + 12 * a + j := by omega
    have i2 : 0 ≤ 27 + 12 * (a : Int) + (j : Int) := by omega
    have i3 : 27 + 12 * (a : Int) + (j : Int) < 380 := by omega
    have e2 : sumN (fun b => if 0 < μ 6 (27 + 12 * a + b) then (1 : Int) else 0) (j + 1) = sumN (fun b => if 0 < μ 6 (27 + 12 * a + b) then (1 : Int) else 0) j + (if 0 < μ 6 (27 + 12 * a + j) then 1 else 0) := rfl
    rw [e2]
    generalize sumN (fun b => if 0 < μ 6 (27 + 12 * a + b) then (1 : Int) else 0) j = S at b1
    by_cases c : 0 < μ 6 (27 + 12 * a + j)
    · simp -implicitDefEqProofs (disch := omega) [kX12_count_2c, kX12_count_2b, kX12_count_2u, v_cop, v_c1, v_c2, v_c3, v_c4, v_c5, v_bin, v_bn, v_bn2, v_div, v_dv, v_dv2, v_une, v_un, v_loc, v_num, v_get, v_gt, v_ald, v_al, v_al2, v_len, v_ln, v_rl0, v_rl1, v_rl2, v_rl3, v_rl4, v_rl5, v_cmp, v_cp, v_cp2, v_zC, v_zc, v_con, v_kc, v_and, v_an1, v_an0, v_or, v_or1, v_or0, v_not, v_nt, v_boo, v_bo, v_cnd, v_cd1, v_cd0, v_cnc, v_cc1, v_cc0, v_ev0, v_ev, v_e1, v_e2, v_cve, v_cv, v_cse, v_cs, v_skip, v_seq, v_sq0, v_sq1, v_sqr, v_sts, v_st, v_inc, v_put, v_pt, v_pt2, v_fop, v_fo, v_fo2, v_ast, v_as, v_as2, v_as3, v_aop, v_ao, v_ao2, v_ao3, v_exs, v_ex, v_ifs, v_if1, v_if0, v_ret, v_rt, v_rez, v_rz, v_rev, v_brk, v_sws, v_sw, v_sw2, v_run, v_rb, v_turn, v_tu1, v_tu0, v_tu2, v_tu3, fst1, snd1, Option.map_some, Option.getD_some, enA, en, stE, okb, narV, rf_toNat, rf_nn, List.getElem?_cons_zero, List.getElem?_cons_succ, w32_id, w64_id, ite_t, ite_f, Int.toNat_add, Int.toNat_mul, dec_t, dec_f, sM_0, sM_6, hj, p.p10, i1, i2, i3, c] <;> omega
    · simp -implicitDefEqProofs (disch := omega) [kX12_count_2c, kX12_count_2b, kX12_count_2u, v_cop, v_c1, v_c2, v_c3, v_c4, v_c5, v_bin, v_bn, v_bn2, v_div, v_dv, v_dv2, v_une, v_un, v_loc, v_num, v_get, v_gt, v_ald, v_al, v_al2, v_len, v_ln, v_rl0, v_rl1, v_rl2, v_rl3, v_rl4, v_rl5, v_cmp, v_cp, v_cp2, v_zC, v_zc, v_con, v_kc, v_and, v_an1, v_an0, v_or, v_or1, v_or0, v_not, v_nt, v_boo, v_bo, v_cnd, v_cd1, v_cd0, v_cnc, v_cc1, v_cc0, v_ev0, v_ev, v_e1, v_e2, v_cve, v_cv, v_cse, v_cs, v_skip, v_seq, v_sq0, v_sq1, v_sqr, v_sts, v_st, v_inc, v_put, v_pt, v_pt2, v_fop, v_fo, v_fo2, v_ast, v_as, v_as2, v_as3, v_aop, v_ao, v_ao2, v_ao3, v_exs, v_ex, v_ifs, v_if1, v_if0, v_ret, v_rt, v_rez, v_rz, v_rev, v_brk, v_sws, v_sw, v_sw2, v_run, v_rb, v_turn, v_tu1, v_tu0, v_tu2, v_tu3, fst1, snd1, Option.map_some, Option.getD_some, enA, en, stE, okb, narV, rf_toNat, rf_nn, List.getElem?_cons_zero, List.getElem?_cons_succ, w32_id, w64_id, ite_t, ite_f, Int.toNat_add, Int.toNat_mul, dec_t, dec_f, sM_0, sM_6, hj, p.p10, i1, i2, i3, c] <;> omega) (by simp -implicitDefEqProofs (disch := omega) [kX12_count_2c, v_cop, v_c1, v_c2, v_c3, v_c4, v_c5, v_bin, v_bn, v_bn2, v_div, v_dv, v_dv2, v_une, v_un, v_loc, v_num, v_get, v_gt, v_ald, v_al, v_al2, v_len, v_ln, v_rl0, v_rl1, v_rl2, v_rl3, v_rl4, v_rl5, v_cmp, v_cp, v_cp2, v_zC, v_zc, v_con, v_kc, v_and, v_an1, v_an0, v_or, v_or1, v_or0, v_not, v_nt, v_boo, v_bo, v_cnd, v_cd1, v_cd0, v_cnc, v_cc1, v_cc0, v_ev0, v_ev, v_e1, v_e2, v_cve, v_cv, v_cse, v_cs, v_skip, v_seq, v_sq0, v_sq1, v_sqr, v_sts, v_st, v_inc, v_put, v_pt, v_pt2, v_fop, v_fo, v_fo2, v_ast, v_as, v_as2, v_as3, v_aop, v_ao, v_ao2, v_ao3, v_exs, v_ex, v_ifs, v_if1, v_if0, v_ret, v_rt, v_rez, v_rz, v_rev, v_brk, v_sws, v_sw, v_sw2, v_run, v_rb, v_turn, v_tu1, v_tu0, v_tu2, v_tu3, fst1, snd1, Option.map_some, Option.getD_some, enA, en, stE, okb, narV, rf_toNat, rf_nn, List.getElem?_cons_zero, List.getElem?_cons_succ, w32_id, w64_id, ite_t, ite_f, Int.toNat_add, Int.toNat_mul, dec_t, dec_f, prA])
  simpa [sumN] using this
set_option maxRecDepth 100000 in theorem r_pairs {μ : Mem} {n : Nat} (p : PM μ) (hb : μ 6 1 = (n : Int)) (hn : n ≤ 12) {k : Int} : ∃ t, loopS 4 5 kX12_count_1c kX12_count_1b kX12_count_1u shM [(2, rf 0), (0, k), (0, 0), (0, 0), (3, 0)] μ = some (0, 0, [(2, rf 0), (0, k), (0, sumN (prA (μ 6)) n), (0, (n : Int)), t], μ) := by
  have eb := r_beasts p
  rw [hb] at eb
  obtain ⟨env', μ', h1, ⟨t, h2, h3, h4⟩⟩ := loop_n (kb := 4) (kc := 5) (c := kX12_count_1c) (body := kX12_count_1b) (upd := kX12_count_1u) (sh := shM) (n := n) (fun j env m => ∃ t : Nat × Int, t.1 ≠ 1 ∧ env = [(2, rf 0), (0, k), (0, sumN (prA (μ 6)) j), (0, (j : Int)), t] ∧ m = μ) (by
    rintro j env m hj ⟨⟨tk, tv⟩, h2, rfl, rfl⟩
    refine ⟨[(2, rf 0), (0, k), (0, sumN (prA (m 6)) (j + 1)), (0, ((j + 1 : Nat) : Int)), (0, (j : Int))], m, ?_, _, by simp, rfl, rfl⟩
    have b1 := prs_b (m 6) j
    have b2 : (j : Int) * j ≤ 144 := Int.mul_le_mul (a := (j : Int)) (b := (j : Int)) (c := 12) (d := 12) (by omega) (by omega) (by omega) (by omega)
    have e := r_pairs1 p (k := k) (s := sumN (prA (m 6)) j) (a := j) (by omega) (by omega)
    have e2 : sumN (prA (m 6)) (j + 1) = sumN (prA (m 6)) j + prA (m 6) j := rfl
    rw [e2]
    have h2' : ¬ tk = 1 := h2
    simp -implicitDefEqProofs (disch := omega) [kX12_count_1c, kX12_count_1b, kX12_count_1u, kX12_count_2, v_cop, v_c1, v_c2, v_c3, v_c4, v_c5, v_bin, v_bn, v_bn2, v_div, v_dv, v_dv2, v_une, v_un, v_loc, v_num, v_get, v_gt, v_ald, v_al, v_al2, v_len, v_ln, v_rl0, v_rl1, v_rl2, v_rl3, v_rl4, v_rl5, v_cmp, v_cp, v_cp2, v_zC, v_zc, v_con, v_kc, v_and, v_an1, v_an0, v_or, v_or1, v_or0, v_not, v_nt, v_boo, v_bo, v_cnd, v_cd1, v_cd0, v_cnc, v_cc1, v_cc0, v_ev0, v_ev, v_e1, v_e2, v_cve, v_cv, v_cse, v_cs, v_skip, v_seq, v_sq0, v_sq1, v_sqr, v_sts, v_st, v_inc, v_put, v_pt, v_pt2, v_fop, v_fo, v_fo2, v_ast, v_as, v_as2, v_as3, v_aop, v_ao, v_ao2, v_ao3, v_exs, v_ex, v_ifs, v_if1, v_if0, v_ret, v_rt, v_rez, v_rz, v_rev, v_brk, v_sws, v_sw, v_sw2, v_run, v_rb, v_turn, v_tu1, v_tu0, v_tu2, v_tu3, fst1, snd1, Option.map_some, Option.getD_some, enA, en, stE, okb, narV, rf_toNat, rf_nn, List.getElem?_cons_zero, List.getElem?_cons_succ, w32_id, w64_id, ite_t, ite_f, Int.toNat_add, Int.toNat_mul, dec_t, dec_f, sM_0, eb, hj, h2', e]) (by
    rintro env m ⟨⟨tk, tv⟩, h2, rfl, rfl⟩
    simp -implicitDefEqProofs (disch := omega) [kX12_count_1c, v_cop, v_c1, v_c2, v_c3, v_c4, v_c5, v_bin, v_bn, v_bn2, v_div, v_dv, v_dv2, v_une, v_un, v_loc, v_num, v_get, v_gt, v_ald, v_al, v_al2, v_len, v_ln, v_rl0, v_rl1, v_rl2, v_rl3, v_rl4, v_rl5, v_cmp, v_cp, v_cp2, v_zC, v_zc, v_con, v_kc, v_and, v_an1, v_an0, v_or, v_or1, v_or0, v_not, v_nt, v_boo, v_bo, v_cnd, v_cd1, v_cd0, v_cnc, v_cc1, v_cc0, v_ev0, v_ev, v_e1, v_e2, v_cve, v_cv, v_cse, v_cs, v_skip, v_seq, v_sq0, v_sq1, v_sqr, v_sts, v_st, v_inc, v_put, v_pt, v_pt2, v_fop, v_fo, v_fo2, v_ast, v_as, v_as2, v_as3, v_aop, v_ao, v_ao2, v_ao3, v_exs, v_ex, v_ifs, v_if1, v_if0, v_ret, v_rt, v_rez, v_rz, v_rev, v_brk, v_sws, v_sw, v_sw2, v_run, v_rb, v_turn, v_tu1, v_tu0, v_tu2, v_tu3, fst1, snd1, Option.map_some, Option.getD_some, enA, en, stE, okb, narV, rf_toNat, rf_nn, List.getElem?_cons_zero, List.getElem?_cons_succ, w32_id, w64_id, ite_t, ite_f, Int.toNat_add, Int.toNat_mul, dec_t, dec_f, sM_0, eb]) (env := [(2, rf 0), (0, k), (0, 0), (0, 0), (3, 0)]) (μ := μ) ⟨(3, 0), by decide, rfl, rfl⟩
  subst h3 h4
  exact ⟨t, h1⟩
set_option maxRecDepth 100000 in theorem iushr_nat {a b : Nat} (ha : a < 2147483648) (hb : b < 32) : o_iushr (a : Int) (b : Int) = ((a >>> b : Nat) : Int) := by
  unfold o_iushr
  rw [opq_eq]
  have e1 : ((Int32.ofInt (b : Int)).toUInt32 &&& Int32.toUInt32 31).toNat = b := by
    have h : ∀ b : Fin 32, ((Int32.ofInt ((b : Nat) : Int)).toUInt32 &&& Int32.toUInt32 31).toNat = (b : Nat) := by decide +kernel
    exact h ⟨b, hb⟩
  have e2 : (Int32.ofInt (a : Int)).toUInt32.toNat = a := bv_nat ha
  refine int_of_bv ?_ (Nat.lt_of_le_of_lt (Nat.shiftRight_le a b) ha)
  show ((Int32.ofInt (a : Int)).toUInt32 >>> ((Int32.ofInt (b : Int)).toUInt32 &&& Int32.toUInt32 31)).toNat = a >>> b
  rw [UInt32.toNat_shiftRight, e1, e2, Nat.mod_eq_of_lt hb]
def bcN (x : Nat) : Nat :=
  let i1 := x - ((x >>> 1) &&& 1431655765)
  let i2 := (i1 &&& 858993459) + ((i1 >>> 2) &&& 858993459)
  let i3 := (i2 + (i2 >>> 4)) &&& 252645135
  let i4 := i3 + (i3 >>> 8)
  let i5 := i4 + (i4 >>> 16)
  i5 &&& 63
set_option maxRecDepth 100000 in theorem sum_front (f : Nat → Int) : ∀ n, sumN f (n + 1) = f 0 + sumN (fun k => f (k + 1)) n
  | 0 => by show (0 : Int) + f 0 = f 0 + 0; omega
  | n + 1 => by
    have := sum_front f n
    show sumN f (n + 1) + f (n + 1) = f 0 + (sumN (fun k => f (k + 1)) n + f (n + 1))
    rw [this]
    omega
def btI (x k : Nat) : Int := if x.testBit k then 1 else 0
set_option maxRecDepth 100000 in theorem bt_s (x k : Nat) : btI x (k + 1) = btI (x / 2) k := by
  unfold btI
  rw [Nat.testBit_succ]
set_option maxRecDepth 100000 in theorem bt_0 (x : Nat) : btI x 0 = ((x % 2 : Nat) : Int) := by
  unfold btI
  rw [Nat.testBit_zero]
  rcases Nat.mod_two_eq_zero_or_one x with h | h <;> simp [h]
set_option maxRecDepth 100000 in theorem pc_sum : ∀ n x : Nat, ((pcN n x : Nat) : Int) = sumN (btI x) n
  | 0, x => rfl
  | n + 1, x => by
    rw [sum_front, pcN_s, bt_0]
    have : (fun k => btI x (k + 1)) = btI (x / 2) := by funext k; exact bt_s x k
    rw [this, ← pc_sum n (x / 2)]
    omega
set_option maxRecDepth 100000 in theorem pc_ge : ∀ n k x : Nat, x < 2 ^ n → pcN (n + k) x = pcN n x
  | 0, 0, x, h => rfl
  | 0, k + 1, x, h => by
    have h0 : x = 0 := by simpa using h
    subst h0
    show 0 % 2 + pcN (0 + k) (0 / 2) = 0
    have := pc_ge 0 k 0 (by decide)
    rw [show 0 / 2 = 0 from rfl, this]
    rfl
  | n + 1, k, x, h => by
    rw [show n + 1 + k = (n + k) + 1 by omega, pcN_s, pcN_s, pc_ge n k (x / 2) (by rw [Nat.pow_succ] at h; omega)]
def pc16 (x : Nat) : Nat := ((x &&& 1) + ((x >>> 1) &&& 1) + ((x >>> 2) &&& 1) + ((x >>> 3) &&& 1)) + (((x >>> 4) &&& 1) + ((x >>> 5) &&& 1) + ((x >>> 6) &&& 1) + ((x >>> 7) &&& 1)) + ((((x >>> 8) &&& 1) + ((x >>> 9) &&& 1) + ((x >>> 10) &&& 1) + ((x >>> 11) &&& 1)) + (((x >>> 12) &&& 1) + ((x >>> 13) &&& 1) + ((x >>> 14) &&& 1) + ((x >>> 15) &&& 1)))
set_option maxRecDepth 100000 in theorem bc_ok : ∀ a : Fin 64, ∀ b : Fin 64, Nat.beq (bcN (64 * a + b)) (pc16 (64 * a + b)) = true := by decide +kernel
set_option maxRecDepth 100000 in theorem bt_and (x k : Nat) : btI x k = (((x >>> k) &&& 1 : Nat) : Int) := by
  unfold btI
  rw [Nat.testBit, Nat.and_comm, Nat.and_one_is_mod]
  rcases Nat.mod_two_eq_zero_or_one (x >>> k) with h | h <;> simp [h]
set_option maxRecDepth 100000 in theorem pc_16 (x : Nat) : pc16 x = pcN 16 x := by
  have h := pc_sum 16 x
  simp only [sumN, bt_and, Nat.shiftRight_zero] at h
  unfold pc16
  omega
set_option maxRecDepth 100000 in theorem bc_pc {x : Nat} (h : x < 4096) : bcN x = pcN 16 x := by
  have := Nat.eq_of_beq_eq_true (bc_ok ⟨x / 64, by omega⟩ ⟨x % 64, by omega⟩)
  simp only at this
  rw [show 64 * (x / 64) + x % 64 = x by omega] at this
  rw [this, pc_16]
set_option maxRecDepth 100000 in theorem f_bitCount {sh : Shp} {μ : Mem} {x : Nat} (h : x < 4096) : fJ6_bitCount_0f7a4 sh [(0, (x : Int))] μ = some ((pcN 16 x : Int), μ) := by
  rw [← bc_pc h]
  unfold bcN
  dsimp only
  have u1 : o_iushr (x : Int) 1 = ((x >>> 1 : Nat) : Int) := iushr_nat (b := 1) (by omega) (by omega)
  have k1 : x >>> 1 ≤ x := Nat.shiftRight_le x 1
  generalize x >>> 1 = z1 at *
  have a1 : o_iand (z1 : Int) 1431655765 = ((z1 &&& 1431655765 : Nat) : Int) := iand_nat (b := 1431655765) (by omega) (by decide)
  have l1 : z1 &&& 1431655765 ≤ z1 := Nat.and_le_left
  generalize z1 &&& 1431655765 = y1 at *
  have b1 : w32 ((x : Int) - (y1 : Int)) = ((x - y1 : Nat) : Int) := by rw [w32_id ⟨by omega, by omega⟩]; omega
  have l2 : x - y1 < 65536 := by omega
  generalize x - y1 = i1 at *
  have a2 : o_iand (i1 : Int) 858993459 = ((i1 &&& 858993459 : Nat) : Int) := iand_nat (b := 858993459) (by omega) (by decide)
  have u2 : o_iushr (i1 : Int) 2 = ((i1 >>> 2 : Nat) : Int) := iushr_nat (b := 2) (by omega) (by omega)
  have k2 : i1 >>> 2 ≤ i1 := Nat.shiftRight_le i1 2
  generalize i1 >>> 2 = z2 at *
  have a3 : o_iand (z2 : Int) 858993459 = ((z2 &&& 858993459 : Nat) : Int) := iand_nat (b := 858993459) (by omega) (by decide)
  have l3 : i1 &&& 858993459 ≤ i1 := Nat.and_le_left
  have l4 : z2 &&& 858993459 ≤ z2 := Nat.and_le_left
  generalize i1 &&& 858993459 = y2 at *
  generalize z2 &&& 858993459 = y3 at *
  have b2 : w32 ((y2 : Int) + (y3 : Int)) = ((y2 + y3 : Nat) : Int) := by rw [w32_id ⟨by omega, by omega⟩]; omega
  have l5 : y2 + y3 < 131072 := by omega
  generalize y2 + y3 = i2 at *
  have u4 : o_iushr (i2 : Int) 4 = ((i2 >>> 4 : Nat) : Int) := iushr_nat (b := 4) (by omega) (by omega)
  have k4 : i2 >>> 4 ≤ i2 := Nat.shiftRight_le i2 4
  generalize i2 >>> 4 = z4 at *
  have b3 : w32 ((i2 : Int) + (z4 : Int)) = ((i2 + z4 : Nat) : Int) := by rw [w32_id ⟨by omega, by omega⟩]; omega
  have l6 : i2 + z4 < 300000 := by omega
  generalize i2 + z4 = j3 at *
  have a5 : o_iand (j3 : Int) 252645135 = ((j3 &&& 252645135 : Nat) : Int) := iand_nat (b := 252645135) (by omega) (by decide)
  have l7 : j3 &&& 252645135 ≤ j3 := Nat.and_le_left
  generalize j3 &&& 252645135 = i3 at *
  have u6 : o_iushr (i3 : Int) 8 = ((i3 >>> 8 : Nat) : Int) := iushr_nat (b := 8) (by omega) (by omega)
  have k6 : i3 >>> 8 ≤ i3 := Nat.shiftRight_le i3 8
  generalize i3 >>> 8 = z6 at *
  have b4 : w32 ((i3 : Int) + (z6 : Int)) = ((i3 + z6 : Nat) : Int) := by rw [w32_id ⟨by omega, by omega⟩]; omega
  have l8 : i3 + z6 < 700000 := by omega
  generalize i3 + z6 = i4 at *
  have u7 : o_iushr (i4 : Int) 16 = ((i4 >>> 16 : Nat) : Int) := iushr_nat (b := 16) (by omega) (by omega)
  have k7 : i4 >>> 16 ≤ i4 := Nat.shiftRight_le i4 16
  generalize i4 >>> 16 = z7 at *
  have b5 : w32 ((i4 : Int) + (z7 : Int)) = ((i4 + z7 : Nat) : Int) := by rw [w32_id ⟨by omega, by omega⟩]; omega
  have l9 : i4 + z7 < 1400000 := by omega
  generalize i4 + z7 = i5 at *
  have a8 : o_iand (i5 : Int) 63 = ((i5 &&& 63 : Nat) : Int) := iand_nat (b := 63) (by omega) (by decide)
  generalize i5 &&& 63 = i6 at *
  simp -implicitDefEqProofs [fJ6_bitCount_0f7a4, bJ6_bitCount_0f7a4, v_cop, v_c1, v_c2, v_c3, v_c4, v_c5, v_bin, v_bn, v_bn2, v_div, v_dv, v_dv2, v_une, v_un, v_loc, v_num, v_get, v_gt, v_ald, v_al, v_al2, v_len, v_ln, v_rl0, v_rl1, v_rl2, v_rl3, v_rl4, v_rl5, v_cmp, v_cp, v_cp2, v_zC, v_zc, v_con, v_kc, v_and, v_an1, v_an0, v_or, v_or1, v_or0, v_not, v_nt, v_boo, v_bo, v_cnd, v_cd1, v_cd0, v_cnc, v_cc1, v_cc0, v_ev0, v_ev, v_e1, v_e2, v_cve, v_cv, v_cse, v_cs, v_skip, v_seq, v_sq0, v_sq1, v_sqr, v_sts, v_st, v_inc, v_put, v_pt, v_pt2, v_fop, v_fo, v_fo2, v_ast, v_as, v_as2, v_as3, v_aop, v_ao, v_ao2, v_ao3, v_exs, v_ex, v_ifs, v_if1, v_if0, v_ret, v_rt, v_rez, v_rz, v_rev, v_brk, v_sws, v_sw, v_sw2, v_run, v_rb, v_turn, v_tu1, v_tu0, v_tu2, v_tu3, fst1, snd1, Option.map_some, Option.getD_some, enA, en, stE, okb, narV, rf_toNat, rf_nn, List.getElem?_cons_zero, List.getElem?_cons_succ, w32_id, w64_id, ite_t, ite_f, Int.toNat_add, Int.toNat_mul, dec_t, dec_f, u1, a1, b1, a2, u2, a3, b2, u4, b3, a5, u6, b4, u7, b5, a8]
set_option maxRecDepth 100000 in theorem r_bits {sh : Shp} {μ : Mem} {x : Nat} (h : x < 4096) : fX12_bits sh [(0, (x : Int))] μ = some (((pcN 12 x : Nat) : Int), μ) := by
  rw [pc_sum]
  have := loop_run (kb := 2) (kc := 3) (c := kX12_bits_0c) (body := kX12_bits_0b) (upd := kX12_bits_0u) (sh := sh) (fun j => [(0, (x : Int)), (0, sumN (btI x) j), (0, (j : Int))]) (fun _ => μ) (r := (0, 0, [(0, (x : Int)), (0, sumN (btI x) 12), (0, 12)], μ)) 12 (by
    intro j hj
    have b1 : 0 ≤ sumN (btI x) j ∧ sumN (btI x) j ≤ j := sum01 (fun b _ => by unfold btI; split <;> simp)
    have e2 : sumN (btI x) (j + 1) = sumN (btI x) j + btI x j := rfl
    have e3 := bit_nat (w := x) (b := j) (by omega) (by omega)
    have e4 : (if x.testBit j = true then (1 : Int) else 0) = btI x j := rfl
    rw [e4] at e3
    have b2 : btI x j = 0 ∨ btI x j = 1 := by unfold btI; split <;> simp
    have hj' : (j : Int) < 12 := by omega
    rw [e2]
    generalize sumN (btI x) j = S at *
    generalize btI x j = T at *
    simp -implicitDefEqProofs (disch := omega) [kX12_bits_0c, kX12_bits_0b, kX12_bits_0u, v_cop, v_c1, v_c2, v_c3, v_c4, v_c5, v_bin, v_bn, v_bn2, v_div, v_dv, v_dv2, v_une, v_un, v_loc, v_num, v_get, v_gt, v_ald, v_al, v_al2, v_len, v_ln, v_rl0, v_rl1, v_rl2, v_rl3, v_rl4, v_rl5, v_cmp, v_cp, v_cp2, v_zC, v_zc, v_con, v_kc, v_and, v_an1, v_an0, v_or, v_or1, v_or0, v_not, v_nt, v_boo, v_bo, v_cnd, v_cd1, v_cd0, v_cnc, v_cc1, v_cc0, v_ev0, v_ev, v_e1, v_e2, v_cve, v_cv, v_cse, v_cs, v_skip, v_seq, v_sq0, v_sq1, v_sqr, v_sts, v_st, v_inc, v_put, v_pt, v_pt2, v_fop, v_fo, v_fo2, v_ast, v_as, v_as2, v_as3, v_aop, v_ao, v_ao2, v_ao3, v_exs, v_ex, v_ifs, v_if1, v_if0, v_ret, v_rt, v_rez, v_rz, v_rev, v_brk, v_sws, v_sw, v_sw2, v_run, v_rb, v_turn, v_tu1, v_tu0, v_tu2, v_tu3, fst1, snd1, Option.map_some, Option.getD_some, enA, en, stE, okb, narV, rf_toNat, rf_nn, List.getElem?_cons_zero, List.getElem?_cons_succ, w32_id, w64_id, ite_t, ite_f, Int.toNat_add, Int.toNat_mul, dec_t, dec_f, hj, hj', e3]) (by simp -implicitDefEqProofs (disch := omega) [kX12_bits_0c, v_cop, v_c1, v_c2, v_c3, v_c4, v_c5, v_bin, v_bn, v_bn2, v_div, v_dv, v_dv2, v_une, v_un, v_loc, v_num, v_get, v_gt, v_ald, v_al, v_al2, v_len, v_ln, v_rl0, v_rl1, v_rl2, v_rl3, v_rl4, v_rl5, v_cmp, v_cp, v_cp2, v_zC, v_zc, v_con, v_kc, v_and, v_an1, v_an0, v_or, v_or1, v_or0, v_not, v_nt, v_boo, v_bo, v_cnd, v_cd1, v_cd0, v_cnc, v_cc1, v_cc0, v_ev0, v_ev, v_e1, v_e2, v_cve, v_cv, v_cse, v_cs, v_skip, v_seq, v_sq0, v_sq1, v_sqr, v_sts, v_st, v_inc, v_put, v_pt, v_pt2, v_fop, v_fo, v_fo2, v_ast, v_as, v_as2, v_as3, v_aop, v_ao, v_ao2, v_ao3, v_exs, v_ex, v_ifs, v_if1, v_if0, v_ret, v_rt, v_rez, v_rz, v_rev, v_brk, v_sws, v_sw, v_sw2, v_run, v_rb, v_turn, v_tu1, v_tu0, v_tu2, v_tu3, fst1, snd1, Option.map_some, Option.getD_some, enA, en, stE, okb, narV, rf_toNat, rf_nn, List.getElem?_cons_zero, List.getElem?_cons_succ, w32_id, w64_id, ite_t, ite_f, Int.toNat_add, Int.toNat_mul, dec_t, dec_f])
  have e0 : sumN (btI x) 0 = 0 := rfl
  simp only [e0] at this
  rw [show ((0 : Nat) : Int) = 0 from rfl] at this
  simp -implicitDefEqProofs (disch := omega) [fX12_bits, bX12_bits, kX12_bits_0, v_cop, v_c1, v_c2, v_c3, v_c4, v_c5, v_bin, v_bn, v_bn2, v_div, v_dv, v_dv2, v_une, v_un, v_loc, v_num, v_get, v_gt, v_ald, v_al, v_al2, v_len, v_ln, v_rl0, v_rl1, v_rl2, v_rl3, v_rl4, v_rl5, v_cmp, v_cp, v_cp2, v_zC, v_zc, v_con, v_kc, v_and, v_an1, v_an0, v_or, v_or1, v_or0, v_not, v_nt, v_boo, v_bo, v_cnd, v_cd1, v_cd0, v_cnc, v_cc1, v_cc0, v_ev0, v_ev, v_e1, v_e2, v_cve, v_cv, v_cse, v_cs, v_skip, v_seq, v_sq0, v_sq1, v_sqr, v_sts, v_st, v_inc, v_put, v_pt, v_pt2, v_fop, v_fo, v_fo2, v_ast, v_as, v_as2, v_as3, v_aop, v_ao, v_ao2, v_ao3, v_exs, v_ex, v_ifs, v_if1, v_if0, v_ret, v_rt, v_rez, v_rz, v_rev, v_brk, v_sws, v_sw, v_sw2, v_run, v_rb, v_turn, v_tu1, v_tu0, v_tu2, v_tu3, fst1, snd1, Option.map_some, Option.getD_some, enA, en, stE, okb, narV, rf_toNat, rf_nn, List.getElem?_cons_zero, List.getElem?_cons_succ, w32_id, w64_id, ite_t, ite_f, Int.toNat_add, Int.toNat_mul, dec_t, dec_f, this]
set_option maxRecDepth 100000 in theorem st_count (k : Int) : STP RR fX11_count fX12_count [(0, k)] := by
  refine STP.rd (fun μC μM h d n P M R => ?_)
  have th := ud_same R.th
  have o := (R.pc.fl R.hd).1
  have g := R.hd.2.1
  have hn := R.fb.n1
  by_cases c0 : k = 0
  · subst c0
    have e := r_beasts R.pm
    refine ⟨μM 6 1, ?_, ?_⟩
    · simp -implicitDefEqProofs [fX11_count, bX11_count, wX11_count_1_sel, v_cop, v_c1, v_c2, v_c3, v_c4, v_c5, v_bin, v_bn, v_bn2, v_div, v_dv, v_dv2, v_une, v_un, v_loc, v_num, v_get, v_gt, v_ald, v_al, v_al2, v_len, v_ln, v_rl0, v_rl1, v_rl2, v_rl3, v_rl4, v_rl5, v_cmp, v_cp, v_cp2, v_zC, v_zc, v_con, v_kc, v_and, v_an1, v_an0, v_or, v_or1, v_or0, v_not, v_nt, v_boo, v_bo, v_cnd, v_cd1, v_cd0, v_cnc, v_cc1, v_cc0, v_ev0, v_ev, v_e1, v_e2, v_cve, v_cv, v_cse, v_cs, v_skip, v_seq, v_sq0, v_sq1, v_sqr, v_sts, v_st, v_inc, v_put, v_pt, v_pt2, v_fop, v_fo, v_fo2, v_ast, v_as, v_as2, v_as3, v_aop, v_ao, v_ao2, v_ao3, v_exs, v_ex, v_ifs, v_if1, v_if0, v_ret, v_rt, v_rez, v_rz, v_rev, v_brk, v_sws, v_sw, v_sw2, v_run, v_rb, v_turn, v_tu1, v_tu0, v_tu2, v_tu3, fst1, snd1, Option.map_some, Option.getD_some, enA, en, stE, okb, narV, rf_toNat, rf_nn, List.getElem?_cons_zero, List.getElem?_cons_succ, w32_id, w64_id, ite_t, ite_f, Int.toNat_add, Int.toNat_mul, dec_t, dec_f, sC_0, g, o, R.fr.be]
    · simp -implicitDefEqProofs [fX12_count, bX12_count, wX12_count_8_sel, v_cop, v_c1, v_c2, v_c3, v_c4, v_c5, v_bin, v_bn, v_bn2, v_div, v_dv, v_dv2, v_une, v_un, v_loc, v_num, v_get, v_gt, v_ald, v_al, v_al2, v_len, v_ln, v_rl0, v_rl1, v_rl2, v_rl3, v_rl4, v_rl5, v_cmp, v_cp, v_cp2, v_zC, v_zc, v_con, v_kc, v_and, v_an1, v_an0, v_or, v_or1, v_or0, v_not, v_nt, v_boo, v_bo, v_cnd, v_cd1, v_cd0, v_cnc, v_cc1, v_cc0, v_ev0, v_ev, v_e1, v_e2, v_cve, v_cv, v_cse, v_cs, v_skip, v_seq, v_sq0, v_sq1, v_sqr, v_sts, v_st, v_inc, v_put, v_pt, v_pt2, v_fop, v_fo, v_fo2, v_ast, v_as, v_as2, v_as3, v_aop, v_ao, v_ao2, v_ao3, v_exs, v_ex, v_ifs, v_if1, v_if0, v_ret, v_rt, v_rez, v_rz, v_rev, v_brk, v_sws, v_sw, v_sw2, v_run, v_rb, v_turn, v_tu1, v_tu0, v_tu2, v_tu3, fst1, snd1, Option.map_some, Option.getD_some, enA, en, stE, okb, narV, rf_toNat, rf_nn, List.getElem?_cons_zero, List.getElem?_cons_succ, w32_id, w64_id, ite_t, ite_f, Int.toNat_add, Int.toNat_mul, dec_t, dec_f, sM_0, th, e]
  by_cases c1 : k = 1
  · subst c1
    have e := r_places R.pm
    refine ⟨μM 6 0, ?_, ?_⟩
    · simp -implicitDefEqProofs [fX11_count, bX11_count, wX11_count_1_sel, v_cop, v_c1, v_c2, v_c3, v_c4, v_c5, v_bin, v_bn, v_bn2, v_div, v_dv, v_dv2, v_une, v_un, v_loc, v_num, v_get, v_gt, v_ald, v_al, v_al2, v_len, v_ln, v_rl0, v_rl1, v_rl2, v_rl3, v_rl4, v_rl5, v_cmp, v_cp, v_cp2, v_zC, v_zc, v_con, v_kc, v_and, v_an1, v_an0, v_or, v_or1, v_or0, v_not, v_nt, v_boo, v_bo, v_cnd, v_cd1, v_cd0, v_cnc, v_cc1, v_cc0, v_ev0, v_ev, v_e1, v_e2, v_cve, v_cv, v_cse, v_cs, v_skip, v_seq, v_sq0, v_sq1, v_sqr, v_sts, v_st, v_inc, v_put, v_pt, v_pt2, v_fop, v_fo, v_fo2, v_ast, v_as, v_as2, v_as3, v_aop, v_ao, v_ao2, v_ao3, v_exs, v_ex, v_ifs, v_if1, v_if0, v_ret, v_rt, v_rez, v_rz, v_rev, v_brk, v_sws, v_sw, v_sw2, v_run, v_rb, v_turn, v_tu1, v_tu0, v_tu2, v_tu3, fst1, snd1, Option.map_some, Option.getD_some, enA, en, stE, okb, narV, rf_toNat, rf_nn, List.getElem?_cons_zero, List.getElem?_cons_succ, w32_id, w64_id, ite_t, ite_f, Int.toNat_add, Int.toNat_mul, dec_t, dec_f, sC_0, g, o, R.fr.pl]
    · simp -implicitDefEqProofs [fX12_count, bX12_count, wX12_count_8_sel, v_cop, v_c1, v_c2, v_c3, v_c4, v_c5, v_bin, v_bn, v_bn2, v_div, v_dv, v_dv2, v_une, v_un, v_loc, v_num, v_get, v_gt, v_ald, v_al, v_al2, v_len, v_ln, v_rl0, v_rl1, v_rl2, v_rl3, v_rl4, v_rl5, v_cmp, v_cp, v_cp2, v_zC, v_zc, v_con, v_kc, v_and, v_an1, v_an0, v_or, v_or1, v_or0, v_not, v_nt, v_boo, v_bo, v_cnd, v_cd1, v_cd0, v_cnc, v_cc1, v_cc0, v_ev0, v_ev, v_e1, v_e2, v_cve, v_cv, v_cse, v_cs, v_skip, v_seq, v_sq0, v_sq1, v_sqr, v_sts, v_st, v_inc, v_put, v_pt, v_pt2, v_fop, v_fo, v_fo2, v_ast, v_as, v_as2, v_as3, v_aop, v_ao, v_ao2, v_ao3, v_exs, v_ex, v_ifs, v_if1, v_if0, v_ret, v_rt, v_rez, v_rz, v_rev, v_brk, v_sws, v_sw, v_sw2, v_run, v_rb, v_turn, v_tu1, v_tu0, v_tu2, v_tu3, fst1, snd1, Option.map_some, Option.getD_some, enA, en, stE, okb, narV, rf_toNat, rf_nn, List.getElem?_cons_zero, List.getElem?_cons_succ, w32_id, w64_id, ite_t, ite_f, Int.toNat_add, Int.toNat_mul, dec_t, dec_f, sM_0, th, e]
  by_cases c2 : k = 2
  · subst c2
    obtain ⟨t, e⟩ := r_pairs R.pm R.fb.n0 hn (k := 2)
    refine ⟨sumN (prA (μM 6)) n, ?_, ?_⟩
    · have e1 : μC h 2 = sumN (prA (μM 6)) n := R.fr.pa
      simp -implicitDefEqProofs [fX11_count, bX11_count, wX11_count_1_sel, v_cop, v_c1, v_c2, v_c3, v_c4, v_c5, v_bin, v_bn, v_bn2, v_div, v_dv, v_dv2, v_une, v_un, v_loc, v_num, v_get, v_gt, v_ald, v_al, v_al2, v_len, v_ln, v_rl0, v_rl1, v_rl2, v_rl3, v_rl4, v_rl5, v_cmp, v_cp, v_cp2, v_zC, v_zc, v_con, v_kc, v_and, v_an1, v_an0, v_or, v_or1, v_or0, v_not, v_nt, v_boo, v_bo, v_cnd, v_cd1, v_cd0, v_cnc, v_cc1, v_cc0, v_ev0, v_ev, v_e1, v_e2, v_cve, v_cv, v_cse, v_cs, v_skip, v_seq, v_sq0, v_sq1, v_sqr, v_sts, v_st, v_inc, v_put, v_pt, v_pt2, v_fop, v_fo, v_fo2, v_ast, v_as, v_as2, v_as3, v_aop, v_ao, v_ao2, v_ao3, v_exs, v_ex, v_ifs, v_if1, v_if0, v_ret, v_rt, v_rez, v_rz, v_rev, v_brk, v_sws, v_sw, v_sw2, v_run, v_rb, v_turn, v_tu1, v_tu0, v_tu2, v_tu3, fst1, snd1, Option.map_some, Option.getD_some, enA, en, stE, okb, narV, rf_toNat, rf_nn, List.getElem?_cons_zero, List.getElem?_cons_succ, w32_id, w64_id, ite_t, ite_f, Int.toNat_add, Int.toNat_mul, dec_t, dec_f, sC_0, g, o, e1]
    · simp -implicitDefEqProofs [fX12_count, bX12_count, wX12_count_8_sel, kX12_count_1, v_cop, v_c1, v_c2, v_c3, v_c4, v_c5, v_bin, v_bn, v_bn2, v_div, v_dv, v_dv2, v_une, v_un, v_loc, v_num, v_get, v_gt, v_ald, v_al, v_al2, v_len, v_ln, v_rl0, v_rl1, v_rl2, v_rl3, v_rl4, v_rl5, v_cmp, v_cp, v_cp2, v_zC, v_zc, v_con, v_kc, v_and, v_an1, v_an0, v_or, v_or1, v_or0, v_not, v_nt, v_boo, v_bo, v_cnd, v_cd1, v_cd0, v_cnc, v_cc1, v_cc0, v_ev0, v_ev, v_e1, v_e2, v_cve, v_cv, v_cse, v_cs, v_skip, v_seq, v_sq0, v_sq1, v_sqr, v_sts, v_st, v_inc, v_put, v_pt, v_pt2, v_fop, v_fo, v_fo2, v_ast, v_as, v_as2, v_as3, v_aop, v_ao, v_ao2, v_ao3, v_exs, v_ex, v_ifs, v_if1, v_if0, v_ret, v_rt, v_rez, v_rz, v_rev, v_brk, v_sws, v_sw, v_sw2, v_run, v_rb, v_turn, v_tu1, v_tu0, v_tu2, v_tu3, fst1, snd1, Option.map_some, Option.getD_some, enA, en, stE, okb, narV, rf_toNat, rf_nn, List.getElem?_cons_zero, List.getElem?_cons_succ, w32_id, w64_id, ite_t, ite_f, Int.toNat_add, Int.toNat_mul, dec_t, dec_f, sM_0, th, e]
  by_cases c3 : k = 3
  · subst c3
    have e := r_meadows R.pm
    refine ⟨μM 6 2, ?_, ?_⟩
    · simp -implicitDefEqProofs [fX11_count, bX11_count, wX11_count_1_sel, v_cop, v_c1, v_c2, v_c3, v_c4, v_c5, v_bin, v_bn, v_bn2, v_div, v_dv, v_dv2, v_une, v_un, v_loc, v_num, v_get, v_gt, v_ald, v_al, v_al2, v_len, v_ln, v_rl0, v_rl1, v_rl2, v_rl3, v_rl4, v_rl5, v_cmp, v_cp, v_cp2, v_zC, v_zc, v_con, v_kc, v_and, v_an1, v_an0, v_or, v_or1, v_or0, v_not, v_nt, v_boo, v_bo, v_cnd, v_cd1, v_cd0, v_cnc, v_cc1, v_cc0, v_ev0, v_ev, v_e1, v_e2, v_cve, v_cv, v_cse, v_cs, v_skip, v_seq, v_sq0, v_sq1, v_sqr, v_sts, v_st, v_inc, v_put, v_pt, v_pt2, v_fop, v_fo, v_fo2, v_ast, v_as, v_as2, v_as3, v_aop, v_ao, v_ao2, v_ao3, v_exs, v_ex, v_ifs, v_if1, v_if0, v_ret, v_rt, v_rez, v_rz, v_rev, v_brk, v_sws, v_sw, v_sw2, v_run, v_rb, v_turn, v_tu1, v_tu0, v_tu2, v_tu3, fst1, snd1, Option.map_some, Option.getD_some, enA, en, stE, okb, narV, rf_toNat, rf_nn, List.getElem?_cons_zero, List.getElem?_cons_succ, w32_id, w64_id, ite_t, ite_f, Int.toNat_add, Int.toNat_mul, dec_t, dec_f, sC_0, g, o, R.fr.me]
    · simp -implicitDefEqProofs [fX12_count, bX12_count, wX12_count_8_sel, v_cop, v_c1, v_c2, v_c3, v_c4, v_c5, v_bin, v_bn, v_bn2, v_div, v_dv, v_dv2, v_une, v_un, v_loc, v_num, v_get, v_gt, v_ald, v_al, v_al2, v_len, v_ln, v_rl0, v_rl1, v_rl2, v_rl3, v_rl4, v_rl5, v_cmp, v_cp, v_cp2, v_zC, v_zc, v_con, v_kc, v_and, v_an1, v_an0, v_or, v_or1, v_or0, v_not, v_nt, v_boo, v_bo, v_cnd, v_cd1, v_cd0, v_cnc, v_cc1, v_cc0, v_ev0, v_ev, v_e1, v_e2, v_cve, v_cv, v_cse, v_cs, v_skip, v_seq, v_sq0, v_sq1, v_sqr, v_sts, v_st, v_inc, v_put, v_pt, v_pt2, v_fop, v_fo, v_fo2, v_ast, v_as, v_as2, v_as3, v_aop, v_ao, v_ao2, v_ao3, v_exs, v_ex, v_ifs, v_if1, v_if0, v_ret, v_rt, v_rez, v_rz, v_rev, v_brk, v_sws, v_sw, v_sw2, v_run, v_rb, v_turn, v_tu1, v_tu0, v_tu2, v_tu3, fst1, snd1, Option.map_some, Option.getD_some, enA, en, stE, okb, narV, rf_toNat, rf_nn, List.getElem?_cons_zero, List.getElem?_cons_succ, w32_id, w64_id, ite_t, ite_f, Int.toNat_add, Int.toNat_mul, dec_t, dec_f, sM_0, th, e]
  by_cases c4 : k = 4
  · subst c4
    refine ⟨μM 15 1, ?_, ?_⟩
    · simp -implicitDefEqProofs [fX11_count, bX11_count, wX11_count_1_sel, v_cop, v_c1, v_c2, v_c3, v_c4, v_c5, v_bin, v_bn, v_bn2, v_div, v_dv, v_dv2, v_une, v_un, v_loc, v_num, v_get, v_gt, v_ald, v_al, v_al2, v_len, v_ln, v_rl0, v_rl1, v_rl2, v_rl3, v_rl4, v_rl5, v_cmp, v_cp, v_cp2, v_zC, v_zc, v_con, v_kc, v_and, v_an1, v_an0, v_or, v_or1, v_or0, v_not, v_nt, v_boo, v_bo, v_cnd, v_cd1, v_cd0, v_cnc, v_cc1, v_cc0, v_ev0, v_ev, v_e1, v_e2, v_cve, v_cv, v_cse, v_cs, v_skip, v_seq, v_sq0, v_sq1, v_sqr, v_sts, v_st, v_inc, v_put, v_pt, v_pt2, v_fop, v_fo, v_fo2, v_ast, v_as, v_as2, v_as3, v_aop, v_ao, v_ao2, v_ao3, v_exs, v_ex, v_ifs, v_if1, v_if0, v_ret, v_rt, v_rez, v_rz, v_rev, v_brk, v_sws, v_sw, v_sw2, v_run, v_rb, v_turn, v_tu1, v_tu0, v_tu2, v_tu3, fst1, snd1, Option.map_some, Option.getD_some, enA, en, stE, okb, narV, rf_toNat, rf_nn, List.getElem?_cons_zero, List.getElem?_cons_succ, w32_id, w64_id, ite_t, ite_f, Int.toNat_add, Int.toNat_mul, dec_t, dec_f, sC_0, sC_30, R.pc.p0_4, R.lr.ev]
    · simp -implicitDefEqProofs [fX12_count, bX12_count, wX12_count_8_sel, v_cop, v_c1, v_c2, v_c3, v_c4, v_c5, v_bin, v_bn, v_bn2, v_div, v_dv, v_dv2, v_une, v_un, v_loc, v_num, v_get, v_gt, v_ald, v_al, v_al2, v_len, v_ln, v_rl0, v_rl1, v_rl2, v_rl3, v_rl4, v_rl5, v_cmp, v_cp, v_cp2, v_zC, v_zc, v_con, v_kc, v_and, v_an1, v_an0, v_or, v_or1, v_or0, v_not, v_nt, v_boo, v_bo, v_cnd, v_cd1, v_cd0, v_cnc, v_cc1, v_cc0, v_ev0, v_ev, v_e1, v_e2, v_cve, v_cv, v_cse, v_cs, v_skip, v_seq, v_sq0, v_sq1, v_sqr, v_sts, v_st, v_inc, v_put, v_pt, v_pt2, v_fop, v_fo, v_fo2, v_ast, v_as, v_as2, v_as3, v_aop, v_ao, v_ao2, v_ao3, v_exs, v_ex, v_ifs, v_if1, v_if0, v_ret, v_rt, v_rez, v_rz, v_rev, v_brk, v_sws, v_sw, v_sw2, v_run, v_rb, v_turn, v_tu1, v_tu0, v_tu2, v_tu3, fst1, snd1, Option.map_some, Option.getD_some, enA, en, stE, okb, narV, rf_toNat, rf_nn, List.getElem?_cons_zero, List.getElem?_cons_succ, w32_id, w64_id, ite_t, ite_f, Int.toNat_add, Int.toNat_mul, dec_t, dec_f, sM_0, sM_15, R.pm.p23, th]
  by_cases c5 : k = 5
  · subst c5
    obtain ⟨w, hw, hw1⟩ := R.sl.aw
    have hw2 : w < 4096 := Nat.lt_of_lt_of_le hw1 (Nat.pow_le_pow_right (n := 2) (by decide) hn)
    have e1 := f_bitCount (sh := shC) (μ := μC) (x := w) (by omega)
    have e2 := r_bits (sh := shM) (μ := μM) hw2
    rw [pc_ge 12 4 w hw2] at e1
    have e3 : μC 30 0 = (w : Int) := R.lr.aw.trans hw
    refine ⟨((pcN 12 w : Nat) : Int), ?_, ?_⟩
    · simp -implicitDefEqProofs [fX11_count, bX11_count, wX11_count_1_sel, v_cop, v_c1, v_c2, v_c3, v_c4, v_c5, v_bin, v_bn, v_bn2, v_div, v_dv, v_dv2, v_une, v_un, v_loc, v_num, v_get, v_gt, v_ald, v_al, v_al2, v_len, v_ln, v_rl0, v_rl1, v_rl2, v_rl3, v_rl4, v_rl5, v_cmp, v_cp, v_cp2, v_zC, v_zc, v_con, v_kc, v_and, v_an1, v_an0, v_or, v_or1, v_or0, v_not, v_nt, v_boo, v_bo, v_cnd, v_cd1, v_cd0, v_cnc, v_cc1, v_cc0, v_ev0, v_ev, v_e1, v_e2, v_cve, v_cv, v_cse, v_cs, v_skip, v_seq, v_sq0, v_sq1, v_sqr, v_sts, v_st, v_inc, v_put, v_pt, v_pt2, v_fop, v_fo, v_fo2, v_ast, v_as, v_as2, v_as3, v_aop, v_ao, v_ao2, v_ao3, v_exs, v_ex, v_ifs, v_if1, v_if0, v_ret, v_rt, v_rez, v_rz, v_rev, v_brk, v_sws, v_sw, v_sw2, v_run, v_rb, v_turn, v_tu1, v_tu0, v_tu2, v_tu3, fst1, snd1, Option.map_some, Option.getD_some, enA, en, stE, okb, narV, rf_toNat, rf_nn, List.getElem?_cons_zero, List.getElem?_cons_succ, w32_id, w64_id, ite_t, ite_f, Int.toNat_add, Int.toNat_mul, dec_t, dec_f, sC_0, sC_30, R.pc.p0_4, e3, e1]
    · simp -implicitDefEqProofs [fX12_count, bX12_count, wX12_count_8_sel, v_cop, v_c1, v_c2, v_c3, v_c4, v_c5, v_bin, v_bn, v_bn2, v_div, v_dv, v_dv2, v_une, v_un, v_loc, v_num, v_get, v_gt, v_ald, v_al, v_al2, v_len, v_ln, v_rl0, v_rl1, v_rl2, v_rl3, v_rl4, v_rl5, v_cmp, v_cp, v_cp2, v_zC, v_zc, v_con, v_kc, v_and, v_an1, v_an0, v_or, v_or1, v_or0, v_not, v_nt, v_boo, v_bo, v_cnd, v_cd1, v_cd0, v_cnc, v_cc1, v_cc0, v_ev0, v_ev, v_e1, v_e2, v_cve, v_cv, v_cse, v_cs, v_skip, v_seq, v_sq0, v_sq1, v_sqr, v_sts, v_st, v_inc, v_put, v_pt, v_pt2, v_fop, v_fo, v_fo2, v_ast, v_as, v_as2, v_as3, v_aop, v_ao, v_ao2, v_ao3, v_exs, v_ex, v_ifs, v_if1, v_if0, v_ret, v_rt, v_rez, v_rz, v_rev, v_brk, v_sws, v_sw, v_sw2, v_run, v_rb, v_turn, v_tu1, v_tu0, v_tu2, v_tu3, fst1, snd1, Option.map_some, Option.getD_some, enA, en, stE, okb, narV, rf_toNat, rf_nn, List.getElem?_cons_zero, List.getElem?_cons_succ, w32_id, w64_id, ite_t, ite_f, Int.toNat_add, Int.toNat_mul, dec_t, dec_f, sM_0, sM_15, R.pm.p23, th, hw, e2]
  by_cases c6 : k = 6
  · subst c6
    have e := r_fogs R.pm
    refine ⟨μM 15 182, ?_, ?_⟩
    · simp -implicitDefEqProofs [fX11_count, bX11_count, wX11_count_1_sel, v_cop, v_c1, v_c2, v_c3, v_c4, v_c5, v_bin, v_bn, v_bn2, v_div, v_dv, v_dv2, v_une, v_un, v_loc, v_num, v_get, v_gt, v_ald, v_al, v_al2, v_len, v_ln, v_rl0, v_rl1, v_rl2, v_rl3, v_rl4, v_rl5, v_cmp, v_cp, v_cp2, v_zC, v_zc, v_con, v_kc, v_and, v_an1, v_an0, v_or, v_or1, v_or0, v_not, v_nt, v_boo, v_bo, v_cnd, v_cd1, v_cd0, v_cnc, v_cc1, v_cc0, v_ev0, v_ev, v_e1, v_e2, v_cve, v_cv, v_cse, v_cs, v_skip, v_seq, v_sq0, v_sq1, v_sqr, v_sts, v_st, v_inc, v_put, v_pt, v_pt2, v_fop, v_fo, v_fo2, v_ast, v_as, v_as2, v_as3, v_aop, v_ao, v_ao2, v_ao3, v_exs, v_ex, v_ifs, v_if1, v_if0, v_ret, v_rt, v_rez, v_rz, v_rev, v_brk, v_sws, v_sw, v_sw2, v_run, v_rb, v_turn, v_tu1, v_tu0, v_tu2, v_tu3, fst1, snd1, Option.map_some, Option.getD_some, enA, en, stE, okb, narV, rf_toNat, rf_nn, List.getElem?_cons_zero, List.getElem?_cons_succ, w32_id, w64_id, ite_t, ite_f, Int.toNat_add, Int.toNat_mul, dec_t, dec_f, sC_0, sC_40, R.pc.p0_6, R.gr.ma]
    · simp -implicitDefEqProofs [fX12_count, bX12_count, wX12_count_8_sel, v_cop, v_c1, v_c2, v_c3, v_c4, v_c5, v_bin, v_bn, v_bn2, v_div, v_dv, v_dv2, v_une, v_un, v_loc, v_num, v_get, v_gt, v_ald, v_al, v_al2, v_len, v_ln, v_rl0, v_rl1, v_rl2, v_rl3, v_rl4, v_rl5, v_cmp, v_cp, v_cp2, v_zC, v_zc, v_con, v_kc, v_and, v_an1, v_an0, v_or, v_or1, v_or0, v_not, v_nt, v_boo, v_bo, v_cnd, v_cd1, v_cd0, v_cnc, v_cc1, v_cc0, v_ev0, v_ev, v_e1, v_e2, v_cve, v_cv, v_cse, v_cs, v_skip, v_seq, v_sq0, v_sq1, v_sqr, v_sts, v_st, v_inc, v_put, v_pt, v_pt2, v_fop, v_fo, v_fo2, v_ast, v_as, v_as2, v_as3, v_aop, v_ao, v_ao2, v_ao3, v_exs, v_ex, v_ifs, v_if1, v_if0, v_ret, v_rt, v_rez, v_rz, v_rev, v_brk, v_sws, v_sw, v_sw2, v_run, v_rb, v_turn, v_tu1, v_tu0, v_tu2, v_tu3, fst1, snd1, Option.map_some, Option.getD_some, enA, en, stE, okb, narV, rf_toNat, rf_nn, List.getElem?_cons_zero, List.getElem?_cons_succ, w32_id, w64_id, ite_t, ite_f, Int.toNat_add, Int.toNat_mul, dec_t, dec_f, sM_0, th, e]
  by_cases c7 : k = 7
  · subst c7
    refine ⟨μM 0 24, ?_, ?_⟩
    · simp -implicitDefEqProofs [fX11_count, bX11_count, wX11_count_1_sel, v_cop, v_c1, v_c2, v_c3, v_c4, v_c5, v_bin, v_bn, v_bn2, v_div, v_dv, v_dv2, v_une, v_un, v_loc, v_num, v_get, v_gt, v_ald, v_al, v_al2, v_len, v_ln, v_rl0, v_rl1, v_rl2, v_rl3, v_rl4, v_rl5, v_cmp, v_cp, v_cp2, v_zC, v_zc, v_con, v_kc, v_and, v_an1, v_an0, v_or, v_or1, v_or0, v_not, v_nt, v_boo, v_bo, v_cnd, v_cd1, v_cd0, v_cnc, v_cc1, v_cc0, v_ev0, v_ev, v_e1, v_e2, v_cve, v_cv, v_cse, v_cs, v_skip, v_seq, v_sq0, v_sq1, v_sqr, v_sts, v_st, v_inc, v_put, v_pt, v_pt2, v_fop, v_fo, v_fo2, v_ast, v_as, v_as2, v_as3, v_aop, v_ao, v_ao2, v_ao3, v_exs, v_ex, v_ifs, v_if1, v_if0, v_ret, v_rt, v_rez, v_rz, v_rev, v_brk, v_sws, v_sw, v_sw2, v_run, v_rb, v_turn, v_tu1, v_tu0, v_tu2, v_tu3, fst1, snd1, Option.map_some, Option.getD_some, enA, en, stE, okb, narV, rf_toNat, rf_nn, List.getElem?_cons_zero, List.getElem?_cons_succ, w32_id, w64_id, ite_t, ite_f, Int.toNat_add, Int.toNat_mul, dec_t, dec_f, sC_0, sC_44, R.pc.p0_7, R.pr.ma]
    · simp -implicitDefEqProofs [fX12_count, bX12_count, wX12_count_8_sel, v_cop, v_c1, v_c2, v_c3, v_c4, v_c5, v_bin, v_bn, v_bn2, v_div, v_dv, v_dv2, v_une, v_un, v_loc, v_num, v_get, v_gt, v_ald, v_al, v_al2, v_len, v_ln, v_rl0, v_rl1, v_rl2, v_rl3, v_rl4, v_rl5, v_cmp, v_cp, v_cp2, v_zC, v_zc, v_con, v_kc, v_and, v_an1, v_an0, v_or, v_or1, v_or0, v_not, v_nt, v_boo, v_bo, v_cnd, v_cd1, v_cd0, v_cnc, v_cc1, v_cc0, v_ev0, v_ev, v_e1, v_e2, v_cve, v_cv, v_cse, v_cs, v_skip, v_seq, v_sq0, v_sq1, v_sqr, v_sts, v_st, v_inc, v_put, v_pt, v_pt2, v_fop, v_fo, v_fo2, v_ast, v_as, v_as2, v_as3, v_aop, v_ao, v_ao2, v_ao3, v_exs, v_ex, v_ifs, v_if1, v_if0, v_ret, v_rt, v_rez, v_rz, v_rev, v_brk, v_sws, v_sw, v_sw2, v_run, v_rb, v_turn, v_tu1, v_tu0, v_tu2, v_tu3, fst1, snd1, Option.map_some, Option.getD_some, enA, en, stE, okb, narV, rf_toNat, rf_nn, List.getElem?_cons_zero, List.getElem?_cons_succ, w32_id, w64_id, ite_t, ite_f, Int.toNat_add, Int.toNat_mul, dec_t, dec_f, sM_0, th]
  by_cases c8 : k = 8
  · subst c8
    refine ⟨μM 0 2, ?_, ?_⟩
    · simp -implicitDefEqProofs [fX11_count, bX11_count, wX11_count_1_sel, v_cop, v_c1, v_c2, v_c3, v_c4, v_c5, v_bin, v_bn, v_bn2, v_div, v_dv, v_dv2, v_une, v_un, v_loc, v_num, v_get, v_gt, v_ald, v_al, v_al2, v_len, v_ln, v_rl0, v_rl1, v_rl2, v_rl3, v_rl4, v_rl5, v_cmp, v_cp, v_cp2, v_zC, v_zc, v_con, v_kc, v_and, v_an1, v_an0, v_or, v_or1, v_or0, v_not, v_nt, v_boo, v_bo, v_cnd, v_cd1, v_cd0, v_cnc, v_cc1, v_cc0, v_ev0, v_ev, v_e1, v_e2, v_cve, v_cv, v_cse, v_cs, v_skip, v_seq, v_sq0, v_sq1, v_sqr, v_sts, v_st, v_inc, v_put, v_pt, v_pt2, v_fop, v_fo, v_fo2, v_ast, v_as, v_as2, v_as3, v_aop, v_ao, v_ao2, v_ao3, v_exs, v_ex, v_ifs, v_if1, v_if0, v_ret, v_rt, v_rez, v_rz, v_rev, v_brk, v_sws, v_sw, v_sw2, v_run, v_rb, v_turn, v_tu1, v_tu0, v_tu2, v_tu3, fst1, snd1, Option.map_some, Option.getD_some, enA, en, stE, okb, narV, rf_toNat, rf_nn, List.getElem?_cons_zero, List.getElem?_cons_succ, w32_id, w64_id, ite_t, ite_f, Int.toNat_add, Int.toNat_mul, dec_t, dec_f, sC_0, sC_1, R.pc.p0_0, R.tr.le]
    · simp -implicitDefEqProofs [fX12_count, bX12_count, wX12_count_8_sel, v_cop, v_c1, v_c2, v_c3, v_c4, v_c5, v_bin, v_bn, v_bn2, v_div, v_dv, v_dv2, v_une, v_un, v_loc, v_num, v_get, v_gt, v_ald, v_al, v_al2, v_len, v_ln, v_rl0, v_rl1, v_rl2, v_rl3, v_rl4, v_rl5, v_cmp, v_cp, v_cp2, v_zC, v_zc, v_con, v_kc, v_and, v_an1, v_an0, v_or, v_or1, v_or0, v_not, v_nt, v_boo, v_bo, v_cnd, v_cd1, v_cd0, v_cnc, v_cc1, v_cc0, v_ev0, v_ev, v_e1, v_e2, v_cve, v_cv, v_cse, v_cs, v_skip, v_seq, v_sq0, v_sq1, v_sqr, v_sts, v_st, v_inc, v_put, v_pt, v_pt2, v_fop, v_fo, v_fo2, v_ast, v_as, v_as2, v_as3, v_aop, v_ao, v_ao2, v_ao3, v_exs, v_ex, v_ifs, v_if1, v_if0, v_ret, v_rt, v_rez, v_rz, v_rev, v_brk, v_sws, v_sw, v_sw2, v_run, v_rb, v_turn, v_tu1, v_tu0, v_tu2, v_tu3, fst1, snd1, Option.map_some, Option.getD_some, enA, en, stE, okb, narV, rf_toNat, rf_nn, List.getElem?_cons_zero, List.getElem?_cons_succ, w32_id, w64_id, ite_t, ite_f, Int.toNat_add, Int.toNat_mul, dec_t, dec_f, sM_0, th]
  refine ⟨-1, ?_, ?_⟩
  · simp -implicitDefEqProofs [fX11_count, bX11_count, wX11_count_1_sel, v_cop, v_c1, v_c2, v_c3, v_c4, v_c5, v_bin, v_bn, v_bn2, v_div, v_dv, v_dv2, v_une, v_un, v_loc, v_num, v_get, v_gt, v_ald, v_al, v_al2, v_len, v_ln, v_rl0, v_rl1, v_rl2, v_rl3, v_rl4, v_rl5, v_cmp, v_cp, v_cp2, v_zC, v_zc, v_con, v_kc, v_and, v_an1, v_an0, v_or, v_or1, v_or0, v_not, v_nt, v_boo, v_bo, v_cnd, v_cd1, v_cd0, v_cnc, v_cc1, v_cc0, v_ev0, v_ev, v_e1, v_e2, v_cve, v_cv, v_cse, v_cs, v_skip, v_seq, v_sq0, v_sq1, v_sqr, v_sts, v_st, v_inc, v_put, v_pt, v_pt2, v_fop, v_fo, v_fo2, v_ast, v_as, v_as2, v_as3, v_aop, v_ao, v_ao2, v_ao3, v_exs, v_ex, v_ifs, v_if1, v_if0, v_ret, v_rt, v_rez, v_rz, v_rev, v_brk, v_sws, v_sw, v_sw2, v_run, v_rb, v_turn, v_tu1, v_tu0, v_tu2, v_tu3, fst1, snd1, Option.map_some, Option.getD_some, enA, en, stE, okb, narV, rf_toNat, rf_nn, List.getElem?_cons_zero, List.getElem?_cons_succ, w32_id, w64_id, ite_t, ite_f, Int.toNat_add, Int.toNat_mul, dec_t, dec_f, c0, c1, c2, c3, c4, c5, c6, c7, c8]
  · simp -implicitDefEqProofs [fX12_count, bX12_count, wX12_count_8_sel, v_cop, v_c1, v_c2, v_c3, v_c4, v_c5, v_bin, v_bn, v_bn2, v_div, v_dv, v_dv2, v_une, v_un, v_loc, v_num, v_get, v_gt, v_ald, v_al, v_al2, v_len, v_ln, v_rl0, v_rl1, v_rl2, v_rl3, v_rl4, v_rl5, v_cmp, v_cp, v_cp2, v_zC, v_zc, v_con, v_kc, v_and, v_an1, v_an0, v_or, v_or1, v_or0, v_not, v_nt, v_boo, v_bo, v_cnd, v_cd1, v_cd0, v_cnc, v_cc1, v_cc0, v_ev0, v_ev, v_e1, v_e2, v_cve, v_cv, v_cse, v_cs, v_skip, v_seq, v_sq0, v_sq1, v_sqr, v_sts, v_st, v_inc, v_put, v_pt, v_pt2, v_fop, v_fo, v_fo2, v_ast, v_as, v_as2, v_as3, v_aop, v_ao, v_ao2, v_ao3, v_exs, v_ex, v_ifs, v_if1, v_if0, v_ret, v_rt, v_rez, v_rz, v_rev, v_brk, v_sws, v_sw, v_sw2, v_run, v_rb, v_turn, v_tu1, v_tu0, v_tu2, v_tu3, fst1, snd1, Option.map_some, Option.getD_some, enA, en, stE, okb, narV, rf_toNat, rf_nn, List.getElem?_cons_zero, List.getElem?_cons_succ, w32_id, w64_id, ite_t, ite_f, Int.toNat_add, Int.toNat_mul, dec_t, dec_f, sM_0, th, c0, c1, c2, c3, c4, c5, c6, c7, c8]
