/-! flock: what stands before and behind the lines -/
set_option maxRecDepth 100000 in theorem beM_n {μ : Mem} {q w x y : Nat} (h1 : ¬ (x = q ∧ (y = 2 ∨ y = 3))) (h2 : ¬ (x = q + 1 ∧ y = 0)) : beM μ q w x y = μ x y := by
  unfold beM
  rw [ud_n (by omega), ud_n (by omega), ud_n (by omega), ud_n (by omega)]
set_option maxRecDepth 100000 in theorem beM_2 {μ : Mem} {q w : Nat} : beM μ q w q 2 = 1 := by unfold beM; rw [ud_s]
set_option maxRecDepth 100000 in theorem beM_3 {μ : Mem} {q w : Nat} : beM μ q w q 3 = 0 := by unfold beM; rw [ud_n (by omega), ud_n (by omega), ud_s]
set_option maxRecDepth 100000 in theorem beM_c {μ : Mem} {q w : Nat} : beM μ q w (q + 1) 0 = -1 - (w : Int) := by unfold beM; rw [ud_n (by omega), ud_s]
set_option maxRecDepth 100000 in theorem c_freset {μ : Mem} {d : Nat} (hd : d = 3 ∨ d = 15) (ob : ObFl shC μ d) : ∃ m, fX1_reset shC [(2, rf d)] μ = some (0, m) ∧ m d 0 = 12 ∧ m d 1 = 0 ∧ m d 2 = 0 ∧ m d 3 = 0 ∧ (∀ i, i < 144 → m (d + 3) i = 0) ∧ m (d + 6) 3 = 0 ∧ m (d + 6) 2 = 1 ∧ m (d + 7) 0 = -19 ∧ m (d + 9) 3 = 0 ∧ m (d + 9) 2 = 1 ∧ m (d + 10) 0 = -7 ∧ ∀ x y, ¬ ((x = d ∧ y < 4) ∨ x = d + 3 ∨ (x = d + 6 ∧ (y = 2 ∨ y = 3)) ∨ (x = d + 7 ∧ y = 0) ∨ (x = d + 9 ∧ (y = 2 ∨ y = 3)) ∨ (x = d + 10 ∧ y = 0)) → m x y = μ x y := by
  obtain ⟨o0, o1, o2, o3, o4, o5, o6, o7, o8, o9, o10, o11, o12, o13, o14, o15, o16, o17, o18, o19, o20, o21, o22⟩ := ob
  generalize hm1 : ud (ud (ud (ud μ d 0 12) d 1 0) d 2 0) d 3 0 = m1
  have E1 : ∀ x y, ¬ (x = d ∧ y < 4) → m1 x y = μ x y := fun x y h => by rw [← hm1, ud_n (by omega), ud_n (by omega), ud_n (by omega), ud_n (by omega)]
  have ff := f_fill (sh := shC) (μ := m1) (a := d + 3) (v := 0) o3 (by decide)
  generalize hm2 : fillM m1 (d + 3) 144 0 = m2 at *
  have E2 : ∀ x y, x ≠ d + 3 → m2 x y = m1 x y := fun x y h => by rw [← hm2, fillM_o h]
  have b1 := f_beFact (sh := shC) (μ := m2) (q := d + 6) (w := 18) ⟨o6, o7, o8, by rw [E2 _ _ (by omega), E1 _ _ (by omega)]; exact o19, by rw [E2 _ _ (by omega), E1 _ _ (by omega)]; exact o20⟩ (by decide)
  rw [show ((18 : Nat) : Int) = 18 from rfl] at b1
  have b2 := f_beFact (sh := shC) (μ := beM m2 (d + 6) 18) (q := d + 9) (w := 6) ⟨o9, o10, o11, by rw [beM_n (by omega) (by omega), E2 _ _ (by omega), E1 _ _ (by omega)]; exact o21, by rw [beM_n (by omega) (by omega), E2 _ _ (by omega), E1 _ _ (by omega)]; exact o22⟩ (by decide)
  rw [show ((6 : Nat) : Int) = 6 from rfl] at b2
  refine ⟨beM (beM m2 (d + 6) 18) (d + 9) 6, ?_, ?_, ?_, ?_, ?_, fun i hi => ?_, ?_, ?_, ?_, ?_, ?_, ?_, fun x y h => ?_⟩
  · have q6 : m1 d 6 = rf (d + 3) := by rw [E1 _ _ (by omega)]; exact o14
    have q9 : m2 d 9 = rf (d + 6) := by rw [E2 _ _ (by omega), E1 _ _ (by omega)]; exact o17
    have q10 : beM m2 (d + 6) 18 d 10 = rf (d + 9) := by rw [beM_n (by omega) (by omega), E2 _ _ (by omega), E1 _ _ (by omega)]; exact o18
    clear E1 E2 hm2
    generalize beM (beM m2 (d + 6) 18) (d + 9) 6 = m4 at *
    generalize beM m2 (d + 6) 18 = m3 at *
    simp -implicitDefEqProofs (disch := omega) [fX1_reset, bX1_reset, v_cop, v_c1, v_c2, v_c3, v_c4, v_c5, v_bin, v_bn, v_bn2, v_div, v_dv, v_dv2, v_une, v_un, v_loc, v_num, v_get, v_gt, v_ald, v_al, v_al2, v_len, v_ln, v_rl0, v_rl1, v_rl2, v_rl3, v_rl4, v_rl5, v_cmp, v_cp, v_cp2, v_zC, v_zc, v_con, v_kc, v_and, v_an1, v_an0, v_or, v_or1, v_or0, v_not, v_nt, v_boo, v_bo, v_cnd, v_cd1, v_cd0, v_cnc, v_cc1, v_cc0, v_ev0, v_ev, v_e1, v_e2, v_cve, v_cv, v_cse, v_cs, v_skip, v_seq, v_sq0, v_sq1, v_sqr, v_sts, v_st, v_inc, v_put, v_pt, v_pt2, v_fop, v_fo, v_fo2, v_ast, v_as, v_as2, v_as3, v_aop, v_ao, v_ao2, v_ao3, v_exs, v_ex, v_ifs, v_if1, v_if0, v_ret, v_rt, v_rez, v_rz, v_rev, v_brk, v_sws, v_sw, v_sw2, v_run, v_rb, v_turn, v_tu1, v_tu0, v_tu2, v_tu3, fst1, snd1, Option.map_some, Option.getD_some, enA, en, stE, okb, narV, rf_toNat, rf_nn, List.getElem?_cons_zero, List.getElem?_cons_succ, w32_id, w64_id, ite_t, ite_f, Int.toNat_add, Int.toNat_mul, dec_t, dec_f, o0, o6, o9, hm1, q6, ff, q9, b1, q10, b2]
  · rw [beM_n (by omega) (by omega), beM_n (by omega) (by omega), E2 _ _ (by omega), ← hm1, ud_n (by omega), ud_n (by omega), ud_n (by omega), ud_s]
  · rw [beM_n (by omega) (by omega), beM_n (by omega) (by omega), E2 _ _ (by omega), ← hm1, ud_n (by omega), ud_n (by omega), ud_s]
  · rw [beM_n (by omega) (by omega), beM_n (by omega) (by omega), E2 _ _ (by omega), ← hm1, ud_n (by omega), ud_s]
  · rw [beM_n (by omega) (by omega), beM_n (by omega) (by omega), E2 _ _ (by omega), ← hm1, ud_s]
  · rw [beM_n (by omega) (by omega), beM_n (by omega) (by omega), ← hm2, fillM_in hi]
  · rw [beM_n (by omega) (by omega)]; exact beM_3
  · rw [beM_n (by omega) (by omega)]; exact beM_2
  · rw [beM_n (by omega) (by omega), show d + 7 = d + 6 + 1 from rfl, beM_c]; decide
  · exact beM_3
  · exact beM_2
  · rw [show d + 10 = d + 9 + 1 from rfl, beM_c]; decide
  · rw [beM_n (by omega) (by omega), beM_n (by omega) (by omega), E2 _ _ (by omega), E1 _ _ (by omega)]
set_option maxRecDepth 100000 in theorem c_pre {μ : Mem} {c : Nat → Int} {N d : Nat} (hd : d = 3 ∨ d = 15) (tq : TQ μ c N) (ob : ObFl shC μ d) (r0 : μ 27 0 = rf 1) (r1 : μ 27 1 = rf 28) (r2 : μ 27 2 = rf 29) : ∃ m, (∀ e m', loopS 2 3 kX8_read_0c kX8_read_0b kX8_read_0u shC [(2, rf 27), (2, rf d), (0, 0), (3, 0)] m = some (0, 0, e, m') → fX8_read shC [(2, rf 27), (2, rf d)] μ = some (0, m')) ∧ (∀ F e m', loopS 2 3 kX8_read_0c kX8_read_0b kX8_read_0u shC [(2, rf 27), (2, rf d), (0, 0), (3, 0)] m = some (1, F, e, m') → fX8_read shC [(2, rf 27), (2, rf d)] μ = some (F, m')) ∧ RDq m c N d 0 ∧ m 27 6 = 0 ∧ m d 0 = 12 ∧ m d 1 = 0 ∧ m d 2 = 0 ∧ m d 3 = 0 ∧ (∀ i, i < 144 → m (d + 3) i = 0) ∧ m (d + 6) 3 = 0 ∧ m (d + 6) 2 = 1 ∧ m (d + 7) 0 = -19 ∧ m (d + 9) 3 = 0 ∧ m (d + 9) 2 = 1 ∧ m (d + 10) 0 = -7 ∧ ∀ x y, ¬ ZC d x y → m x y = μ x y := by
  obtain ⟨m1, e1, a0, a1, a2, a3, a4, a5, a6, a7, a8, a9, a10, E1⟩ := c_freset hd ob
  have o0 := ob.1
  have q0 : m1 27 0 = rf 1 := by rw [E1 _ _ (by omega)]; exact r0
  generalize hm2 : ud (ud (ud m1 27 3 (rf d)) 27 5 0) 27 6 0 = m2
  have E2 : ∀ x y, ¬ (x = 27 ∧ 3 ≤ y) → m2 x y = m1 x y := fun x y h => by rw [← hm2, ud_n (by omega), ud_n (by omega), ud_n (by omega)]
  have q02 : m2 27 0 = rf 1 := by rw [E2 _ _ (by omega)]; exact q0
  have q3 : m2 27 3 = rf d := by rw [← hm2, ud_n (by omega), ud_n (by omega), ud_s]
  have q6 : m2 27 6 = 0 := by rw [← hm2, ud_s]
  have tq2 : TQ m2 c N := tq.of (fun x y h1 h2 => by rw [E2 _ _ (by omega), E1 _ _ (by omega)])
  obtain ⟨m3, e3, ct, D3⟩ := c_rewind tq2
  have E3 : ∀ x y, ¬ (x = 1 ∧ 2 ≤ y) → ¬ (x = 27 ∧ 3 ≤ y) → m3 x y = m1 x y := fun x y h1 h2 => by rw [D3 x y h1, E2 x y h2]
  refine ⟨m3, fun e m' lp => ?_, fun F e m' lp => ?_, ⟨hd, tq.of (fun x y h1 h2 => by rw [E3 _ _ (by omega) (by omega), E1 _ _ (by omega)]), ct, by rw [D3 _ _ (by omega)]; exact q02, by rw [E3 _ _ (by omega) (by omega), E1 _ _ (by omega)]; exact r1, by rw [E3 _ _ (by omega) (by omega), E1 _ _ (by omega)]; exact r2, by rw [D3 _ _ (by omega)]; exact q3, ?_⟩, by rw [D3 _ _ (by omega)]; exact q6, by rw [E3 _ _ (by omega) (by omega)]; exact a0, by rw [E3 _ _ (by omega) (by omega)]; exact a1, by rw [E3 _ _ (by omega) (by omega)]; exact a2, by rw [E3 _ _ (by omega) (by omega)]; exact a3, fun i hi => by rw [E3 _ _ (by omega) (by omega)]; exact a4 i hi, by rw [E3 _ _ (by omega) (by omega)]; exact a5, by rw [E3 _ _ (by omega) (by omega)]; exact a6, by rw [E3 _ _ (by omega) (by omega)]; exact a7, by rw [E3 _ _ (by omega) (by omega)]; exact a8, by rw [E3 _ _ (by omega) (by omega)]; exact a9, by rw [E3 _ _ (by omega) (by omega)]; exact a10, fun x y h => ?_⟩
  · clear ct E1 E2 E3 D3 tq tq2
    simp -implicitDefEqProofs (disch := omega) [fX8_read, bX8_read, kX8_read_0, v_cop, v_c1, v_c2, v_c3, v_c4, v_c5, v_bin, v_bn, v_bn2, v_div, v_dv, v_dv2, v_une, v_un, v_loc, v_num, v_get, v_gt, v_ald, v_al, v_al2, v_len, v_ln, v_rl0, v_rl1, v_rl2, v_rl3, v_rl4, v_rl5, v_cmp, v_cp, v_cp2, v_zC, v_zc, v_con, v_kc, v_and, v_an1, v_an0, v_or, v_or1, v_or0, v_not, v_nt, v_boo, v_bo, v_cnd, v_cd1, v_cd0, v_cnc, v_cc1, v_cc0, v_ev0, v_ev, v_e1, v_e2, v_cve, v_cv, v_cse, v_cs, v_skip, v_seq, v_sq0, v_sq1, v_sqr, v_sts, v_st, v_inc, v_put, v_pt, v_pt2, v_fop, v_fo, v_fo2, v_ast, v_as, v_as2, v_as3, v_aop, v_ao, v_ao2, v_ao3, v_exs, v_ex, v_ifs, v_if1, v_if0, v_ret, v_rt, v_rez, v_rz, v_rev, v_brk, v_sws, v_sw, v_sw2, v_run, v_rb, v_turn, v_tu1, v_tu0, v_tu2, v_tu3, fst1, snd1, Option.map_some, Option.getD_some, enA, en, stE, okb, narV, rf_toNat, rf_nn, List.getElem?_cons_zero, List.getElem?_cons_succ, w32_id, w64_id, ite_t, ite_f, Int.toNat_add, Int.toNat_mul, dec_t, dec_f, sC_27, sC_1, o0, e1, hm2, q02, e3, lp]
  · clear ct E1 E2 E3 D3 tq tq2
    simp -implicitDefEqProofs (disch := omega) [fX8_read, bX8_read, kX8_read_0, v_cop, v_c1, v_c2, v_c3, v_c4, v_c5, v_bin, v_bn, v_bn2, v_div, v_dv, v_dv2, v_une, v_un, v_loc, v_num, v_get, v_gt, v_ald, v_al, v_al2, v_len, v_ln, v_rl0, v_rl1, v_rl2, v_rl3, v_rl4, v_rl5, v_cmp, v_cp, v_cp2, v_zC, v_zc, v_con, v_kc, v_and, v_an1, v_an0, v_or, v_or1, v_or0, v_not, v_nt, v_boo, v_bo, v_cnd, v_cd1, v_cd0, v_cnc, v_cc1, v_cc0, v_ev0, v_ev, v_e1, v_e2, v_cve, v_cv, v_cse, v_cs, v_skip, v_seq, v_sq0, v_sq1, v_sqr, v_sts, v_st, v_inc, v_put, v_pt, v_pt2, v_fop, v_fo, v_fo2, v_ast, v_as, v_as2, v_as3, v_aop, v_ao, v_ao2, v_ao3, v_exs, v_ex, v_ifs, v_if1, v_if0, v_ret, v_rt, v_rez, v_rz, v_rev, v_brk, v_sws, v_sw, v_sw2, v_run, v_rb, v_turn, v_tu1, v_tu0, v_tu2, v_tu3, fst1, snd1, Option.map_some, Option.getD_some, enA, en, stE, okb, narV, rf_toNat, rf_nn, List.getElem?_cons_zero, List.getElem?_cons_succ, w32_id, w64_id, ite_t, ite_f, Int.toNat_add, Int.toNat_mul, dec_t, dec_f, sC_27, sC_1, o0, e1, hm2, q02, e3, lp]
  · obtain ⟨o0, o1, o2, o3, o4, o5, o6, o7, o8, o9, o10, o11, o12, o13, o14, o15, o16, o17, o18, o19, o20, o21, o22⟩ := ob
    have e : ∀ x y, (x = d ∧ 4 ≤ y) ∨ ((x = d + 6 ∨ x = d + 9) ∧ y < 2) → m3 x y = μ x y := fun x y h => by rw [E3 _ _ (by omega) (by omega), E1 _ _ (by omega)]
    exact ⟨o0, o1, o2, o3, o4, o5, o6, o7, o8, o9, o10, o11, by rw [e _ _ (by omega)]; exact o12, by rw [e _ _ (by omega)]; exact o13, by rw [e _ _ (by omega)]; exact o14, by rw [e _ _ (by omega)]; exact o15, by rw [e _ _ (by omega)]; exact o16, by rw [e _ _ (by omega)]; exact o17, by rw [e _ _ (by omega)]; exact o18, by rw [e _ _ (by omega)]; exact o19, by rw [e _ _ (by omega)]; exact o20, by rw [e _ _ (by omega)]; exact o21, by rw [e _ _ (by omega)]; exact o22⟩
  · unfold ZC at h
    rw [E3 _ _ (by omega) (by omega), E1 _ _ (by omega)]
set_option maxRecDepth 100000 in theorem r_fl0 {μ : Mem} (p : PM μ) : ∃ m, loopS 2 3 kX12_flock_0c kX12_flock_0b kX12_flock_0u shM [(2, rf 0), (0, 0)] μ = some (0, 0, [(2, rf 0), (0, 190)], m) ∧ (∀ i, i < 190 → m 6 (190 + i) = 0) ∧ ∀ x y, ¬ (x = 6 ∧ 190 ≤ y) → m x y = μ x y := by
  obtain ⟨env', m, lp, ⟨e0, A, D⟩⟩ := loop_n (kb := 2) (kc := 3) (c := kX12_flock_0c) (body := kX12_flock_0b) (upd := kX12_flock_0u) (sh := shM) (n := 190) (fun j env k => env = [(2, rf 0), (0, (j : Int))] ∧ (∀ i, i < j → k 6 (190 + i) = 0) ∧ ∀ x y, ¬ (x = 6 ∧ 190 ≤ y) → k x y = μ x y) (by
    rintro j env k hj ⟨rfl, A, D⟩
    have q10 : k 0 10 = rf 6 := by rw [D _ _ (by omega)]; exact p.p10
    refine ⟨[(2, rf 0), (0, ((j + 1 : Nat) : Int))], ud k 6 (190 + j) 0, ?_, rfl, fun i hi => ?_, fun x y h => by rw [ud_n (by omega)]; exact D x y h⟩
    · simp -implicitDefEqProofs (disch := omega) [kX12_flock_0c, kX12_flock_0b, kX12_flock_0u, v_cop, v_c1, v_c2, v_c3, v_c4, v_c5, v_bin, v_bn, v_bn2, v_div, v_dv, v_dv2, v_une, v_un, v_loc, v_num, v_get, v_gt, v_ald, v_al, v_al2, v_len, v_ln, v_rl0, v_rl1, v_rl2, v_rl3, v_rl4, v_rl5, v_cmp, v_cp, v_cp2, v_zC, v_zc, v_con, v_kc, v_and, v_an1, v_an0, v_or, v_or1, v_or0, v_not, v_nt, v_boo, v_bo, v_cnd, v_cd1, v_cd0, v_cnc, v_cc1, v_cc0, v_ev0, v_ev, v_e1, v_e2, v_cve, v_cv, v_cse, v_cs, v_skip, v_seq, v_sq0, v_sq1, v_sqr, v_sts, v_st, v_inc, v_put, v_pt, v_pt2, v_fop, v_fo, v_fo2, v_ast, v_as, v_as2, v_as3, v_aop, v_ao, v_ao2, v_ao3, v_exs, v_ex, v_ifs, v_if1, v_if0, v_ret, v_rt, v_rez, v_rz, v_rev, v_brk, v_sws, v_sw, v_sw2, v_run, v_rb, v_turn, v_tu1, v_tu0, v_tu2, v_tu3, fst1, snd1, Option.map_some, Option.getD_some, enA, en, stE, okb, narV, rf_toNat, rf_nn, List.getElem?_cons_zero, List.getElem?_cons_succ, w32_id, w64_id, ite_t, ite_f, Int.toNat_add, Int.toNat_mul, dec_t, dec_f, sM_0, sM_6, q10]
    · by_cases e : i = j
      · rw [e, ud_s]
      · rw [ud_n (by omega)]; exact A i (by omega)) (by
    rintro env k ⟨rfl, A, D⟩
    simp -implicitDefEqProofs (disch := omega) [kX12_flock_0c, v_cop, v_c1, v_c2, v_c3, v_c4, v_c5, v_bin, v_bn, v_bn2, v_div, v_dv, v_dv2, v_une, v_un, v_loc, v_num, v_get, v_gt, v_ald, v_al, v_al2, v_len, v_ln, v_rl0, v_rl1, v_rl2, v_rl3, v_rl4, v_rl5, v_cmp, v_cp, v_cp2, v_zC, v_zc, v_con, v_kc, v_and, v_an1, v_an0, v_or, v_or1, v_or0, v_not, v_nt, v_boo, v_bo, v_cnd, v_cd1, v_cd0, v_cnc, v_cc1, v_cc0, v_ev0, v_ev, v_e1, v_e2, v_cve, v_cv, v_cse, v_cs, v_skip, v_seq, v_sq0, v_sq1, v_sqr, v_sts, v_st, v_inc, v_put, v_pt, v_pt2, v_fop, v_fo, v_fo2, v_ast, v_as, v_as2, v_as3, v_aop, v_ao, v_ao2, v_ao3, v_exs, v_ex, v_ifs, v_if1, v_if0, v_ret, v_rt, v_rez, v_rz, v_rev, v_brk, v_sws, v_sw, v_sw2, v_run, v_rb, v_turn, v_tu1, v_tu0, v_tu2, v_tu3, fst1, snd1, Option.map_some, Option.getD_some, enA, en, stE, okb, narV, rf_toNat, rf_nn, List.getElem?_cons_zero, List.getElem?_cons_succ, w32_id, w64_id, ite_t, ite_f, Int.toNat_add, Int.toNat_mul, dec_t, dec_f]) (env := [(2, rf 0), (0, 0)]) (μ := μ) ⟨rfl, fun i hi => by omega, fun _ _ _ => rfl⟩
  subst e0
  exact ⟨m, lp, A, D⟩
set_option maxRecDepth 100000 in theorem r_fl2 {μ : Mem} (p : PM μ) : ∃ m, loopS 6 7 kX12_flock_2c kX12_flock_2b kX12_flock_2u shM [(2, rf 0), (0, 0)] μ = some (0, 0, [(2, rf 0), (0, 190)], m) ∧ (∀ i, i < 190 → m 6 i = μ 6 (190 + i)) ∧ ∀ x y, ¬ (x = 6 ∧ y < 190) → m x y = μ x y := by
  obtain ⟨env', m, lp, ⟨e0, A, D⟩⟩ := loop_n (kb := 6) (kc := 7) (c := kX12_flock_2c) (body := kX12_flock_2b) (upd := kX12_flock_2u) (sh := shM) (n := 190) (fun j env k => env = [(2, rf 0), (0, (j : Int))] ∧ (∀ i, i < j → k 6 i = μ 6 (190 + i)) ∧ ∀ x y, ¬ (x = 6 ∧ y < 190) → k x y = μ x y) (by
    rintro j env k hj ⟨rfl, A, D⟩
    have q10 : k 0 10 = rf 6 := by rw [D _ _ (by omega)]; exact p.p10
    have q6 : k 6 (190 + j) = μ 6 (190 + j) := D _ _ (by omega)
    refine ⟨[(2, rf 0), (0, ((j + 1 : Nat) : Int))], ud k 6 j (μ 6 (190 + j)), ?_, rfl, fun i hi => ?_, fun x y h => by rw [ud_n (by omega)]; exact D x y h⟩
    · generalize μ 6 (190 + j) = V at *
      simp -implicitDefEqProofs (disch := omega) [kX12_flock_2c, kX12_flock_2b, kX12_flock_2u, v_cop, v_c1, v_c2, v_c3, v_c4, v_c5, v_bin, v_bn, v_bn2, v_div, v_dv, v_dv2, v_une, v_un, v_loc, v_num, v_get, v_gt, v_ald, v_al, v_al2, v_len, v_ln, v_rl0, v_rl1, v_rl2, v_rl3, v_rl4, v_rl5, v_cmp, v_cp, v_cp2, v_zC, v_zc, v_con, v_kc, v_and, v_an1, v_an0, v_or, v_or1, v_or0, v_not, v_nt, v_boo, v_bo, v_cnd, v_cd1, v_cd0, v_cnc, v_cc1, v_cc0, v_ev0, v_ev, v_e1, v_e2, v_cve, v_cv, v_cse, v_cs, v_skip, v_seq, v_sq0, v_sq1, v_sqr, v_sts, v_st, v_inc, v_put, v_pt, v_pt2, v_fop, v_fo, v_fo2, v_ast, v_as, v_as2, v_as3, v_aop, v_ao, v_ao2, v_ao3, v_exs, v_ex, v_ifs, v_if1, v_if0, v_ret, v_rt, v_rez, v_rz, v_rev, v_brk, v_sws, v_sw, v_sw2, v_run, v_rb, v_turn, v_tu1, v_tu0, v_tu2, v_tu3, fst1, snd1, Option.map_some, Option.getD_some, enA, en, stE, okb, narV, rf_toNat, rf_nn, List.getElem?_cons_zero, List.getElem?_cons_succ, w32_id, w64_id, ite_t, ite_f, Int.toNat_add, Int.toNat_mul, dec_t, dec_f, sM_0, sM_6, q10, q6]
    · by_cases e : i = j
      · rw [e, ud_s]
      · rw [ud_n (by omega)]; exact A i (by omega)) (by
    rintro env k ⟨rfl, A, D⟩
    simp -implicitDefEqProofs (disch := omega) [kX12_flock_2c, v_cop, v_c1, v_c2, v_c3, v_c4, v_c5, v_bin, v_bn, v_bn2, v_div, v_dv, v_dv2, v_une, v_un, v_loc, v_num, v_get, v_gt, v_ald, v_al, v_al2, v_len, v_ln, v_rl0, v_rl1, v_rl2, v_rl3, v_rl4, v_rl5, v_cmp, v_cp, v_cp2, v_zC, v_zc, v_con, v_kc, v_and, v_an1, v_an0, v_or, v_or1, v_or0, v_not, v_nt, v_boo, v_bo, v_cnd, v_cd1, v_cd0, v_cnc, v_cc1, v_cc0, v_ev0, v_ev, v_e1, v_e2, v_cve, v_cv, v_cse, v_cs, v_skip, v_seq, v_sq0, v_sq1, v_sqr, v_sts, v_st, v_inc, v_put, v_pt, v_pt2, v_fop, v_fo, v_fo2, v_ast, v_as, v_as2, v_as3, v_aop, v_ao, v_ao2, v_ao3, v_exs, v_ex, v_ifs, v_if1, v_if0, v_ret, v_rt, v_rez, v_rz, v_rev, v_brk, v_sws, v_sw, v_sw2, v_run, v_rb, v_turn, v_tu1, v_tu0, v_tu2, v_tu3, fst1, snd1, Option.map_some, Option.getD_some, enA, en, stE, okb, narV, rf_toNat, rf_nn, List.getElem?_cons_zero, List.getElem?_cons_succ, w32_id, w64_id, ite_t, ite_f, Int.toNat_add, Int.toNat_mul, dec_t, dec_f]) (env := [(2, rf 0), (0, 0)]) (μ := μ) ⟨rfl, fun i hi => by omega, fun _ _ _ => rfl⟩
  subst e0
  exact ⟨m, lp, A, D⟩
set_option maxRecDepth 100000 in theorem r_fl3 {μ : Mem} {K : Nat} (p : PM μ) (h13 : μ 0 13 = (K : Int)) (hK : K ≤ 1000) : ∃ m, loopS 8 9 kX12_flock_3c kX12_flock_3b kX12_flock_3u shM [(2, rf 0), (0, 0)] μ = some (0, 0, [(2, rf 0), (0, (K : Int))], m) ∧ (∀ i, i < K → m 7 i = μ 7 (1100 + i) ∧ m 8 i = μ 8 (1100 + i)) ∧ ∀ x y, ¬ ((x = 7 ∨ x = 8) ∧ y < K) → m x y = μ x y := by
  obtain ⟨env', m, lp, ⟨e0, A, D⟩⟩ := loop_n (kb := 8) (kc := 9) (c := kX12_flock_3c) (body := kX12_flock_3b) (upd := kX12_flock_3u) (sh := shM) (n := K) (fun j env k => env = [(2, rf 0), (0, (j : Int))] ∧ (∀ i, i < j → k 7 i = μ 7 (1100 + i) ∧ k 8 i = μ 8 (1100 + i)) ∧ ∀ x y, ¬ ((x = 7 ∨ x = 8) ∧ y < K) → k x y = μ x y) (by
    rintro j env k hj ⟨rfl, A, D⟩
    have q13 : k 0 13 = (K : Int) := by rw [D _ _ (by omega)]; exact h13
    have q11 : k 0 11 = rf 7 := by rw [D _ _ (by omega)]; exact p.p11
    have q12 : k 0 12 = rf 8 := by rw [D _ _ (by omega)]; exact p.p12
    have q7 : k 7 (1100 + j) = μ 7 (1100 + j) := D _ _ (by omega)
    have q8 : k 8 (1100 + j) = μ 8 (1100 + j) := D _ _ (by omega)
    have u12 : ud k 7 j (μ 7 (1100 + j)) 0 12 = rf 8 := by rw [ud_n (by omega)]; exact q12
    have u8 : ud k 7 j (μ 7 (1100 + j)) 8 (1100 + j) = μ 8 (1100 + j) := by rw [ud_n (by omega)]; exact q8
    refine ⟨[(2, rf 0), (0, ((j + 1 : Nat) : Int))], ud (ud k 7 j (μ 7 (1100 + j))) 8 j (μ 8 (1100 + j)), ?_, rfl, fun i hi => ?_, fun x y h => by rw [ud_n (by omega), ud_n (by omega)]; exact D x y h⟩
    · generalize μ 7 (1100 + j) = V at *
      generalize μ 8 (1100 + j) = W at *
      simp -implicitDefEqProofs (disch := omega) [kX12_flock_3c, kX12_flock_3b, kX12_flock_3u, v_cop, v_c1, v_c2, v_c3, v_c4, v_c5, v_bin, v_bn, v_bn2, v_div, v_dv, v_dv2, v_une, v_un, v_loc, v_num, v_get, v_gt, v_ald, v_al, v_al2, v_len, v_ln, v_rl0, v_rl1, v_rl2, v_rl3, v_rl4, v_rl5, v_cmp, v_cp, v_cp2, v_zC, v_zc, v_con, v_kc, v_and, v_an1, v_an0, v_or, v_or1, v_or0, v_not, v_nt, v_boo, v_bo, v_cnd, v_cd1, v_cd0, v_cnc, v_cc1, v_cc0, v_ev0, v_ev, v_e1, v_e2, v_cve, v_cv, v_cse, v_cs, v_skip, v_seq, v_sq0, v_sq1, v_sqr, v_sts, v_st, v_inc, v_put, v_pt, v_pt2, v_fop, v_fo, v_fo2, v_ast, v_as, v_as2, v_as3, v_aop, v_ao, v_ao2, v_ao3, v_exs, v_ex, v_ifs, v_if1, v_if0, v_ret, v_rt, v_rez, v_rz, v_rev, v_brk, v_sws, v_sw, v_sw2, v_run, v_rb, v_turn, v_tu1, v_tu0, v_tu2, v_tu3, fst1, snd1, Option.map_some, Option.getD_some, enA, en, stE, okb, narV, rf_toNat, rf_nn, List.getElem?_cons_zero, List.getElem?_cons_succ, w32_id, w64_id, ite_t, ite_f, Int.toNat_add, Int.toNat_mul, dec_t, dec_f, sM_0, sM_7, sM_8, q13, q11, q12, q7, u12, u8]
    · by_cases e : i = j
      · rw [e, ud_n (by omega), ud_s, ud_s]; exact ⟨rfl, rfl⟩
      · rw [ud_n (by omega), ud_n (by omega), ud_n (by omega), ud_n (by omega)]; exact A i (by omega)) (by
    rintro env k ⟨rfl, A, D⟩
    have q13 : k 0 13 = (K : Int) := by rw [D _ _ (by omega)]; exact h13
    simp -implicitDefEqProofs (disch := omega) [kX12_flock_3c, v_cop, v_c1, v_c2, v_c3, v_c4, v_c5, v_bin, v_bn, v_bn2, v_div, v_dv, v_dv2, v_une, v_un, v_loc, v_num, v_get, v_gt, v_ald, v_al, v_al2, v_len, v_ln, v_rl0, v_rl1, v_rl2, v_rl3, v_rl4, v_rl5, v_cmp, v_cp, v_cp2, v_zC, v_zc, v_con, v_kc, v_and, v_an1, v_an0, v_or, v_or1, v_or0, v_not, v_nt, v_boo, v_bo, v_cnd, v_cd1, v_cd0, v_cnc, v_cc1, v_cc0, v_ev0, v_ev, v_e1, v_e2, v_cve, v_cv, v_cse, v_cs, v_skip, v_seq, v_sq0, v_sq1, v_sqr, v_sts, v_st, v_inc, v_put, v_pt, v_pt2, v_fop, v_fo, v_fo2, v_ast, v_as, v_as2, v_as3, v_aop, v_ao, v_ao2, v_ao3, v_exs, v_ex, v_ifs, v_if1, v_if0, v_ret, v_rt, v_rez, v_rz, v_rev, v_brk, v_sws, v_sw, v_sw2, v_run, v_rb, v_turn, v_tu1, v_tu0, v_tu2, v_tu3, fst1, snd1, Option.map_some, Option.getD_some, enA, en, stE, okb, narV, rf_toNat, rf_nn, List.getElem?_cons_zero, List.getElem?_cons_succ, w32_id, w64_id, ite_t, ite_f, Int.toNat_add, Int.toNat_mul, dec_t, dec_f, sM_0, q13]) (env := [(2, rf 0), (0, 0)]) (μ := μ) ⟨rfl, fun i hi => by omega, fun _ _ _ => rfl⟩
  subst e0
  exact ⟨m, lp, A, D⟩
set_option maxRecDepth 100000 in theorem c_lreset {μ : Mem} (ob : ObLy shC μ 30) : ∃ m, fX6_reset shC [(2, rf 30)] μ = some (0, m) ∧ m 30 0 = 0 ∧ m 30 1 = 0 ∧ (∀ b, b < 12 → m 31 b = -1) ∧ (∀ b, b < 12 → m 32 b = -1) ∧ (∀ b, b < 12 → m 33 b = 0) ∧ (∀ b, b < 144 → m 34 b = 0) ∧ ∀ x y, ¬ ((x = 30 ∧ y < 2) ∨ (31 ≤ x ∧ x ≤ 34)) → m x y = μ x y := by
  obtain ⟨o0, o1, o2, o3, o4, o5, o6, o7, o8⟩ := ob
  generalize hm1 : ud (ud μ 30 0 0) 30 1 0 = m1
  have E1 : ∀ x y, ¬ (x = 30 ∧ y < 2) → m1 x y = μ x y := fun x y h => by rw [← hm1, ud_n (by omega), ud_n (by omega)]
  have f1 := f_fill (sh := shC) (μ := m1) (a := 31) (v := -1) o1 (by decide)
  have f2 := f_fill (sh := shC) (μ := fillM m1 31 12 (-1)) (a := 32) (v := -1) o2 (by decide)
  have f3 := f_fill (sh := shC) (μ := fillM (fillM m1 31 12 (-1)) 32 12 (-1)) (a := 33) (v := 0) o3 (by decide)
  have f4 := f_fill (sh := shC) (μ := fillM (fillM (fillM m1 31 12 (-1)) 32 12 (-1)) 33 12 0) (a := 34) (v := 0) o4 (by decide)
  have O1 : ∀ x, x ≠ 31 → fillM m1 31 12 (-1) x = m1 x := fun x h => fillM_o h
  have O2 : ∀ x, x ≠ 31 → x ≠ 32 → fillM (fillM m1 31 12 (-1)) 32 12 (-1) x = m1 x := fun x h1 h2 => by rw [fillM_o h2, O1 x h1]
  have O3 : ∀ x, x ≠ 31 → x ≠ 32 → x ≠ 33 → fillM (fillM (fillM m1 31 12 (-1)) 32 12 (-1)) 33 12 0 x = m1 x := fun x h1 h2 h3 => by rw [fillM_o h3, O2 x h1 h2]
  refine ⟨fillM (fillM (fillM (fillM m1 31 12 (-1)) 32 12 (-1)) 33 12 0) 34 144 0, ?_, ?_, ?_, fun b hb => ?_, fun b hb => ?_, fun b hb => ?_, fun b hb => ?_, fun x y h => ?_⟩
  · have p2 : m1 30 2 = rf 31 := by rw [E1 _ _ (by omega)]; exact o5
    have p3 : fillM m1 31 12 (-1) 30 3 = rf 32 := by rw [O1 _ (by omega), E1 _ _ (by omega)]; exact o6
    have p4 : fillM (fillM m1 31 12 (-1)) 32 12 (-1) 30 4 = rf 33 := by rw [O2 _ (by omega) (by omega), E1 _ _ (by omega)]; exact o7
    have p5 : fillM (fillM (fillM m1 31 12 (-1)) 32 12 (-1)) 33 12 0 30 5 = rf 34 := by rw [O3 _ (by omega) (by omega) (by omega), E1 _ _ (by omega)]; exact o8
    clear E1 O1 O2 O3
    generalize fillM (fillM (fillM (fillM m1 31 12 (-1)) 32 12 (-1)) 33 12 0) 34 144 0 = m5 at *
    generalize fillM (fillM (fillM m1 31 12 (-1)) 32 12 (-1)) 33 12 0 = m4 at *
    generalize fillM (fillM m1 31 12 (-1)) 32 12 (-1) = m3 at *
    generalize fillM m1 31 12 (-1) = m2 at *
    simp -implicitDefEqProofs (disch := omega) [fX6_reset, bX6_reset, v_cop, v_c1, v_c2, v_c3, v_c4, v_c5, v_bin, v_bn, v_bn2, v_div, v_dv, v_dv2, v_une, v_un, v_loc, v_num, v_get, v_gt, v_ald, v_al, v_al2, v_len, v_ln, v_rl0, v_rl1, v_rl2, v_rl3, v_rl4, v_rl5, v_cmp, v_cp, v_cp2, v_zC, v_zc, v_con, v_kc, v_and, v_an1, v_an0, v_or, v_or1, v_or0, v_not, v_nt, v_boo, v_bo, v_cnd, v_cd1, v_cd0, v_cnc, v_cc1, v_cc0, v_ev0, v_ev, v_e1, v_e2, v_cve, v_cv, v_cse, v_cs, v_skip, v_seq, v_sq0, v_sq1, v_sqr, v_sts, v_st, v_inc, v_put, v_pt, v_pt2, v_fop, v_fo, v_fo2, v_ast, v_as, v_as2, v_as3, v_aop, v_ao, v_ao2, v_ao3, v_exs, v_ex, v_ifs, v_if1, v_if0, v_ret, v_rt, v_rez, v_rz, v_rev, v_brk, v_sws, v_sw, v_sw2, v_run, v_rb, v_turn, v_tu1, v_tu0, v_tu2, v_tu3, fst1, snd1, Option.map_some, Option.getD_some, enA, en, stE, okb, narV, rf_toNat, rf_nn, List.getElem?_cons_zero, List.getElem?_cons_succ, w32_id, w64_id, ite_t, ite_f, Int.toNat_add, Int.toNat_mul, dec_t, dec_f, sC_30, hm1, p2, f1, p3, f2, p4, f3, p5, f4]
  · rw [fillM_o (by decide), O3 _ (by decide) (by decide) (by decide), ← hm1, ud_n (by omega), ud_s]
  · rw [fillM_o (by decide), O3 _ (by decide) (by decide) (by decide), ← hm1, ud_s]
  · rw [fillM_o (by decide), fillM_o (by decide), fillM_o (by decide), fillM_in hb]
  · rw [fillM_o (by decide), fillM_o (by decide), fillM_in hb]
  · rw [fillM_o (by decide), fillM_in hb]
  · rw [fillM_in hb]
  · rw [fillM_o (by omega), O3 _ (by omega) (by omega) (by omega), E1 _ _ (by omega)]
set_option maxRecDepth 100000 in theorem bgM_n {μ : Mem} {x y : Nat} (h : ¬ ((x = 15 ∧ y < 290) ∨ (x = 16 ∧ y < 4) ∨ (x = 0 ∧ y = 24))) : bgM μ x y = μ x y := by
  unfold bgM bg2
  rw [if_neg (by omega), ud_n (by omega)]
  unfold bg1
  rw [if_neg (by omega)]
  unfold bg0
  rw [if_neg (by omega)]
set_option maxRecDepth 100000 in theorem bgM_m {μ : Mem} {b : Nat} (h : b < 12) : bgM μ 15 (2 + b) = -1 ∧ bgM μ 15 (14 + b) = -1 := by
  unfold bgM bg2
  rw [if_neg (by omega), if_neg (by omega), ud_n (by omega), ud_n (by omega)]
  unfold bg1
  rw [if_pos (by omega), if_pos (by omega)]
  exact ⟨rfl, rfl⟩
set_option maxRecDepth 100000 in theorem bgM_z {μ : Mem} {b : Nat} (h : b < 290) (h2 : ¬ (2 ≤ b ∧ b < 26)) : bgM μ 15 b = 0 := by
  unfold bgM bg2
  rw [if_neg (by omega), ud_n (by omega)]
  unfold bg1
  rw [if_neg (by omega)]
  unfold bg0
  rw [if_pos (by omega)]
set_option maxRecDepth 100000 in theorem bgM_k {μ : Mem} {b : Nat} (h : b < 4) : bgM μ 16 b = 0 := by
  unfold bgM bg2
  rw [if_pos (by omega)]
set_option maxRecDepth 100000 in theorem bgM_u {μ : Mem} : bgM μ 0 24 = 0 := by
  unfold bgM bg2
  rw [if_neg (by omega), ud_s]
set_option maxRecDepth 100000 in theorem fresh_sl {st : Nat → Int} {n P : Nat} (h1 : ∀ b, b < 12 → st (2 + b) = -1 ∧ st (14 + b) = -1) (h2 : ∀ b, b < 290 → ¬ (2 ≤ b ∧ b < 26) → st b = 0) : SL st n P ∧ SG st n P := by
  have z : st 182 = 0 := h2 182 (by decide) (by omega)
  refine ⟨⟨⟨0, h2 0 (by decide) (by omega), Nat.two_pow_pos n⟩, fun b hb => ?_, fun b _ hb => (h1 b hb).1, fun a b ha hb h3 h4 => ?_, fun b hb => ?_, fun b _ hb => (h1 b hb).2, fun a b ha hb h3 h4 => ?_, fun i hi => ?_⟩, ?_⟩
  · have := (h1 b hb).1; omega
  · have := (h1 a ha).1; omega
  · have := (h1 b hb).2; omega
  · have := (h1 a ha).2; omega
  · by_cases c : 2 ≤ i ∧ i < 26
    · by_cases c2 : i < 14
      · have := (h1 (i - 2) (by omega)).1
        rw [show 2 + (i - 2) = i by omega] at this
        omega
      · have := (h1 (i - 14) (by omega)).2
        rw [show 14 + (i - 14) = i by omega] at this
        omega
    · have := h2 i (by omega) c
      omega
  · exact ⟨by omega, by omega, fun i hi => by omega, fun i hi => by omega, fun i hi => by omega, fun i hi => by omega⟩
set_option maxRecDepth 100000 in theorem LW_.ref {μ : Mem} {c : Nat} {W : List Int} {D s : Int} {op arg op' arg' : Nat → Int} (q : LW_ μ c W D op arg s) (e7 : ∀ i, i < 1100 → op' i = op i) (e8 : ∀ i, i < 1100 → arg' i = arg i) : LW_ μ c W D op' arg' s := by
  rcases q with h | ⟨t, n, h1, h2, h3, h4⟩
  · exact .inl h
  · have l := h2.le
    exact .inr ⟨t, n, h1, h2.of (fun i hi => e7 i (by omega)) (fun i hi => e8 i (by omega)), h3, fun i hi => by rw [e7 _ (by omega), e8 _ (by omega)]; exact h4 i hi⟩
set_option maxRecDepth 100000 in theorem LT.lw {μ : Mem} {cc K : Nat} {W : List Int} {D s : Int} {op arg op' arg' : Nat → Int} (q : LT μ cc W D op arg s K) (e7 : ∀ i, i < K → op' i = op i) (e8 : ∀ i, i < K → arg' i = arg i) : LW_ μ cc W D op' arg' s := by
  rcases q with ⟨h1, h2, h3, h4⟩ | ⟨h0, t, n, h1, h2, h3, h4, h5⟩
  · exact .inl ⟨h1, h3, h4⟩
  · exact .inr ⟨t, n, h1, h2.of (fun i hi => e7 i (by omega)) (fun i hi => e8 i (by omega)), h4, fun i hi => by rw [e7 _ (by omega), e8 _ (by omega)]; exact h5 i hi⟩
