/-! undo, mark -/
set_option maxRecDepth 100000 in theorem c_takeBack {μ : Mem} (p : PC μ) {u w : Nat} (hu : μ 44 1 = (u : Int)) (hu0 : u ≠ 0) (hu2 : u ≤ 12) (hw : μ 44 2 = (w : Int)) (hw2 : w < 12) : fX7_takeBack shC [(2, rf 44), (2, rf 30)] μ = some (1, ud (ud (cpL μ (46 + 5 * w) 30) 44 2 (((w + 11) % 12 : Nat) : Int)) 44 1 ((u : Int) - 1)) := by
  obtain ⟨t1, t2⟩ := p.past hw2
  have e := c_copy p.ly30 t2 (by omega)
  have s1 := t2.1
  have c0 : ¬ (u : Int) = 0 := by omega
  have e1 : cpL μ (46 + 5 * w) 30 44 2 = (w : Int) := by rw [cpL_c (by omega), hw]
  have e2 : ∀ v : Int, ud (cpL μ (46 + 5 * w) 30) 44 2 v 44 1 = (u : Int) := fun v => by rw [ud_j (by decide), cpL_c (by omega), hu]
  by_cases c : 0 < (w : Int)
  · have e3 : (w : Int) - 1 = (((w + 11) % 12 : Nat) : Int) := by omega
    have c' : 0 < w := by omega
    have e4 : ((w : Int) + 11) % 12 = (w : Int) - 1 := by omega
    simp -implicitDefEqProofs (disch := omega) [fX7_takeBack, bX7_takeBack, v_cop, v_c1, v_c2, v_c3, v_c4, v_c5, v_bin, v_bn, v_bn2, v_div, v_dv, v_dv2, v_une, v_un, v_loc, v_num, v_get, v_gt, v_ald, v_al, v_al2, v_len, v_ln, v_rl0, v_rl1, v_rl2, v_rl3, v_rl4, v_rl5, v_cmp, v_cp, v_cp2, v_zC, v_zc, v_con, v_kc, v_and, v_an1, v_an0, v_or, v_or1, v_or0, v_not, v_nt, v_boo, v_bo, v_cnd, v_cd1, v_cd0, v_cnc, v_cc1, v_cc0, v_ev0, v_ev, v_e1, v_e2, v_cve, v_cv, v_cse, v_cs, v_skip, v_seq, v_sq0, v_sq1, v_sqr, v_sts, v_st, v_inc, v_put, v_pt, v_pt2, v_fop, v_fo, v_fo2, v_ast, v_as, v_as2, v_as3, v_aop, v_ao, v_ao2, v_ao3, v_exs, v_ex, v_ifs, v_if1, v_if0, v_ret, v_rt, v_rez, v_rz, v_rev, v_brk, v_sws, v_sw, v_sw2, v_run, v_rb, v_turn, v_tu1, v_tu0, v_tu2, v_tu3, fst1, snd1, Option.map_some, Option.getD_some, enA, en, stE, okb, narV, rf_toNat, rf_nn, List.getElem?_cons_zero, List.getElem?_cons_succ, w32_id, w64_id, ite_t, ite_f, Int.toNat_add, Int.toNat_mul, sC_44, sC_45, sC_30, p.p44_0, hu, hu0, hw, hw2, t1, s1, e, c0, c', e1, e2, e4]
  · have e3 : w = 0 := by omega
    subst e3
    simp -implicitDefEqProofs (disch := omega) [fX7_takeBack, bX7_takeBack, v_cop, v_c1, v_c2, v_c3, v_c4, v_c5, v_bin, v_bn, v_bn2, v_div, v_dv, v_dv2, v_une, v_un, v_loc, v_num, v_get, v_gt, v_ald, v_al, v_al2, v_len, v_ln, v_rl0, v_rl1, v_rl2, v_rl3, v_rl4, v_rl5, v_cmp, v_cp, v_cp2, v_zC, v_zc, v_con, v_kc, v_and, v_an1, v_an0, v_or, v_or1, v_or0, v_not, v_nt, v_boo, v_bo, v_cnd, v_cd1, v_cd0, v_cnc, v_cc1, v_cc0, v_ev0, v_ev, v_e1, v_e2, v_cve, v_cv, v_cse, v_cs, v_skip, v_seq, v_sq0, v_sq1, v_sqr, v_sts, v_st, v_inc, v_put, v_pt, v_pt2, v_fop, v_fo, v_fo2, v_ast, v_as, v_as2, v_as3, v_aop, v_ao, v_ao2, v_ao3, v_exs, v_ex, v_ifs, v_if1, v_if0, v_ret, v_rt, v_rez, v_rz, v_rev, v_brk, v_sws, v_sw, v_sw2, v_run, v_rb, v_turn, v_tu1, v_tu0, v_tu2, v_tu3, fst1, snd1, Option.map_some, Option.getD_some, enA, en, stE, okb, narV, rf_toNat, rf_nn, List.getElem?_cons_zero, List.getElem?_cons_succ, w32_id, w64_id, ite_t, ite_f, Int.toNat_add, Int.toNat_mul, sC_44, sC_45, sC_30, p.p44_0, hu, hu0, hw, t1, s1, e, c0, e1, e2]
set_option maxRecDepth 100000 in theorem c_takeBack0 {μ : Mem} (p : PC μ) {w : Nat} (hu : μ 44 1 = 0) (hw : μ 44 2 = (w : Int)) (hw2 : w < 12) : fX7_takeBack shC [(2, rf 44), (2, rf 30)] μ = some (0, μ) := by
  obtain ⟨t1, t2⟩ := p.past hw2
  simp -implicitDefEqProofs (disch := omega) [fX7_takeBack, bX7_takeBack, v_cop, v_c1, v_c2, v_c3, v_c4, v_c5, v_bin, v_bn, v_bn2, v_div, v_dv, v_dv2, v_une, v_un, v_loc, v_num, v_get, v_gt, v_ald, v_al, v_al2, v_len, v_ln, v_rl0, v_rl1, v_rl2, v_rl3, v_rl4, v_rl5, v_cmp, v_cp, v_cp2, v_zC, v_zc, v_con, v_kc, v_and, v_an1, v_an0, v_or, v_or1, v_or0, v_not, v_nt, v_boo, v_bo, v_cnd, v_cd1, v_cd0, v_cnc, v_cc1, v_cc0, v_ev0, v_ev, v_e1, v_e2, v_cve, v_cv, v_cse, v_cs, v_skip, v_seq, v_sq0, v_sq1, v_sqr, v_sts, v_st, v_inc, v_put, v_pt, v_pt2, v_fop, v_fo, v_fo2, v_ast, v_as, v_as2, v_as3, v_aop, v_ao, v_ao2, v_ao3, v_exs, v_ex, v_ifs, v_if1, v_if0, v_ret, v_rt, v_rez, v_rz, v_rev, v_brk, v_sws, v_sw, v_sw2, v_run, v_rb, v_turn, v_tu1, v_tu0, v_tu2, v_tu3, fst1, snd1, Option.map_some, Option.getD_some, enA, en, stE, okb, narV, rf_toNat, rf_nn, List.getElem?_cons_zero, List.getElem?_cons_succ, w32_id, w64_id, ite_t, ite_f, Int.toNat_add, Int.toNat_mul, sC_44, sC_45, sC_30, p.p44_0, hu, hw, hw2, t1]
set_option maxRecDepth 100000 in theorem st_undo : STP RR fX11_undo fX12_undo [] := by
  rintro μC μM ⟨h, d, n, P, M, R⟩
  have th := ud_same R.th
  obtain ⟨u, hu⟩ := Int.eq_ofNat_of_zero_le R.pr.u0
  obtain ⟨w, hw⟩ := Int.eq_ofNat_of_zero_le R.pr.w0
  have u1 := R.pr.u1
  have w1 := R.pr.w1
  have ma := R.pr.ma
  have ke := R.pr.ke
  have hd := R.hd.1
  rw [hu] at u1 ma ke
  rw [hw] at w1 ke
  try simp only [Int.ofNat_eq_natCast, Int.toNat_natCast] at u1 ma ke w1 hu hw
  by_cases c : u = 0
  · subst c
    have e := c_takeBack0 R.pc ma hw (by omega)
    refine ⟨0, μC, μM, ?_, ?_, h, d, n, P, M, R⟩
    · simp -implicitDefEqProofs [fX11_undo, bX11_undo, v_cop, v_c1, v_c2, v_c3, v_c4, v_c5, v_bin, v_bn, v_bn2, v_div, v_dv, v_dv2, v_une, v_un, v_loc, v_num, v_get, v_gt, v_ald, v_al, v_al2, v_len, v_ln, v_rl0, v_rl1, v_rl2, v_rl3, v_rl4, v_rl5, v_cmp, v_cp, v_cp2, v_zC, v_zc, v_con, v_kc, v_and, v_an1, v_an0, v_or, v_or1, v_or0, v_not, v_nt, v_boo, v_bo, v_cnd, v_cd1, v_cd0, v_cnc, v_cc1, v_cc0, v_ev0, v_ev, v_e1, v_e2, v_cve, v_cv, v_cse, v_cs, v_skip, v_seq, v_sq0, v_sq1, v_sqr, v_sts, v_st, v_inc, v_put, v_pt, v_pt2, v_fop, v_fo, v_fo2, v_ast, v_as, v_as2, v_as3, v_aop, v_ao, v_ao2, v_ao3, v_exs, v_ex, v_ifs, v_if1, v_if0, v_ret, v_rt, v_rez, v_rz, v_rev, v_brk, v_sws, v_sw, v_sw2, v_run, v_rb, v_turn, v_tu1, v_tu0, v_tu2, v_tu3, fst1, snd1, Option.map_some, Option.getD_some, enA, en, stE, okb, narV, rf_toNat, rf_nn, List.getElem?_cons_zero, List.getElem?_cons_succ, w32_id, w64_id, ite_t, ite_f, Int.toNat_add, Int.toNat_mul, sC_0, sC_44, R.pc.p0_7, R.pc.p0_4, e]
    · simp -implicitDefEqProofs [fX12_undo, bX12_undo, v_cop, v_c1, v_c2, v_c3, v_c4, v_c5, v_bin, v_bn, v_bn2, v_div, v_dv, v_dv2, v_une, v_un, v_loc, v_num, v_get, v_gt, v_ald, v_al, v_al2, v_len, v_ln, v_rl0, v_rl1, v_rl2, v_rl3, v_rl4, v_rl5, v_cmp, v_cp, v_cp2, v_zC, v_zc, v_con, v_kc, v_and, v_an1, v_an0, v_or, v_or1, v_or0, v_not, v_nt, v_boo, v_bo, v_cnd, v_cd1, v_cd0, v_cnc, v_cc1, v_cc0, v_ev0, v_ev, v_e1, v_e2, v_cve, v_cv, v_cse, v_cs, v_skip, v_seq, v_sq0, v_sq1, v_sqr, v_sts, v_st, v_inc, v_put, v_pt, v_pt2, v_fop, v_fo, v_fo2, v_ast, v_as, v_as2, v_as3, v_aop, v_ao, v_ao2, v_ao3, v_exs, v_ex, v_ifs, v_if1, v_if0, v_ret, v_rt, v_rez, v_rz, v_rev, v_brk, v_sws, v_sw, v_sw2, v_run, v_rb, v_turn, v_tu1, v_tu0, v_tu2, v_tu3, fst1, snd1, Option.map_some, Option.getD_some, enA, en, stE, okb, narV, rf_toNat, rf_nn, List.getElem?_cons_zero, List.getElem?_cons_succ, w32_id, w64_id, ite_t, ite_f, Int.toNat_add, Int.toNat_mul, sM_0, th, hu]
  · have e := c_takeBack R.pc ma c (by omega) hw (by omega)
    have p1 : PM (ud μM 0 24 ((u : Int) - 1)) := R.pm.ud1 (by omega)
    have e2 := r_copies p1 (f := 5 + (u - 1)) (t := 0) (by omega) (by omega) (by omega)
    rw [show ((5 + (u - 1) : Nat) : Int) = 5 + ((u : Int) - 1) by omega] at e2
    rw [show ((0 : Nat) : Int) = 0 from rfl] at e2
    have c0 : ¬ (u : Int) = 0 := by omega
    obtain ⟨q1, q2⟩ := ke 0 (by omega)
    rw [show (w + 12 - 0) % 12 = w by omega, show u - 1 - 0 = u - 1 by omega] at q1
    rw [show u - 1 - 0 = u - 1 by omega] at q2
    have e3 : ∀ v : Int, ud μM 0 24 v 0 24 = v := fun v => ud_s
    have e4 : cpS (ud μM 0 24 ((u : Int) - 1)) (5 + (u - 1)) 0 290 0 23 = rf 15 := by rw [cpS_c (by decide)]; exact p1.p23
    generalize hC : ud (ud (ud (cpL μC (46 + 5 * w) 30) 44 2 (((w + 11) % 12 : Nat) : Int)) 44 1 ((u : Int) - 1)) 40 0 0 = μC'
    generalize hM : ud (cpS (ud μM 0 24 ((u : Int) - 1)) (5 + (u - 1)) 0 290) 15 182 0 = μM'
    have eC : ∀ a b, ¬ (a = 40 ∧ b = 0) → ¬ (a = 44 ∧ (b = 1 ∨ b = 2)) → ¬ (a = 30 ∧ b < 2 ∨ 31 ≤ a ∧ a ≤ 34) → μC' a b = μC a b := fun a b h1 h2 h3 => by rw [← hC, ud_n h1, ud_n (by omega), ud_n (by omega), cpL_p (by omega)]
    have eM : ∀ a b, a ≠ 15 → ¬ (a = 0 ∧ b = 24) → μM' a b = μM a b := fun a b h1 h2 => by rw [← hM, ud_c h1, cpS_c h1, ud_n h2]
    have eM2 : ∀ b, 290 ≤ b → μM' 15 b = μM 15 b := fun b h1 => by rw [← hM, ud_j (by omega), cpS_o (by omega), ud_c (by decide)]
    have eS : ∀ i, i < 182 → μM' 15 i = slt μM (5 + (u - 1)) i := fun i hi => by
      have := cpS_n (μ := ud μM 0 24 ((u : Int) - 1)) (f := 5 + (u - 1)) (t := 0) (j := 290) (i := i) (by omega)
      rw [show 290 * 0 + i = i by omega] at this
      rw [← hM, ud_j (by omega), this, ud_c (by decide)]
      rfl
    have f0 : μM' 15 182 = 0 := by rw [← hM, ud_s]
    have g0 : μC' 40 0 = 0 := by rw [← hC, ud_s]
    have u0 : μM' 0 24 = (u : Int) - 1 := by rw [← hM, ud_c (by decide), cpS_c (by decide), ud_s]
    have v0 : μC' 44 1 = (u : Int) - 1 := by rw [← hC, ud_c (by decide), ud_s]
    have v1 : μC' 44 2 = (((w + 11) % 12 : Nat) : Int) := by rw [← hC, ud_c (by decide), ud_j (by decide), ud_s]
    refine ⟨1, μC', μM', ?_, ?_, h, d, n, P, M, ?_⟩
    · rw [← hC]
      simp -implicitDefEqProofs (disch := omega) [fX11_undo, bX11_undo, v_cop, v_c1, v_c2, v_c3, v_c4, v_c5, v_bin, v_bn, v_bn2, v_div, v_dv, v_dv2, v_une, v_un, v_loc, v_num, v_get, v_gt, v_ald, v_al, v_al2, v_len, v_ln, v_rl0, v_rl1, v_rl2, v_rl3, v_rl4, v_rl5, v_cmp, v_cp, v_cp2, v_zC, v_zc, v_con, v_kc, v_and, v_an1, v_an0, v_or, v_or1, v_or0, v_not, v_nt, v_boo, v_bo, v_cnd, v_cd1, v_cd0, v_cnc, v_cc1, v_cc0, v_ev0, v_ev, v_e1, v_e2, v_cve, v_cv, v_cse, v_cs, v_skip, v_seq, v_sq0, v_sq1, v_sqr, v_sts, v_st, v_inc, v_put, v_pt, v_pt2, v_fop, v_fo, v_fo2, v_ast, v_as, v_as2, v_as3, v_aop, v_ao, v_ao2, v_ao3, v_exs, v_ex, v_ifs, v_if1, v_if0, v_ret, v_rt, v_rez, v_rz, v_rev, v_brk, v_sws, v_sw, v_sw2, v_run, v_rb, v_turn, v_tu1, v_tu0, v_tu2, v_tu3, fst1, snd1, Option.map_some, Option.getD_some, enA, en, stE, okb, narV, rf_toNat, rf_nn, List.getElem?_cons_zero, List.getElem?_cons_succ, w32_id, w64_id, ite_t, ite_f, Int.toNat_add, Int.toNat_mul, sC_0, sC_44, sC_40, R.pc.p0_7, R.pc.p0_4, R.pc.p0_6, e, ud_c, cpL_c]
    · rw [← hM]
      simp -implicitDefEqProofs (disch := omega) [fX12_undo, bX12_undo, v_cop, v_c1, v_c2, v_c3, v_c4, v_c5, v_bin, v_bn, v_bn2, v_div, v_dv, v_dv2, v_une, v_un, v_loc, v_num, v_get, v_gt, v_ald, v_al, v_al2, v_len, v_ln, v_rl0, v_rl1, v_rl2, v_rl3, v_rl4, v_rl5, v_cmp, v_cp, v_cp2, v_zC, v_zc, v_con, v_kc, v_and, v_an1, v_an0, v_or, v_or1, v_or0, v_not, v_nt, v_boo, v_bo, v_cnd, v_cd1, v_cd0, v_cnc, v_cc1, v_cc0, v_ev0, v_ev, v_e1, v_e2, v_cve, v_cv, v_cse, v_cs, v_skip, v_seq, v_sq0, v_sq1, v_sqr, v_sts, v_st, v_inc, v_put, v_pt, v_pt2, v_fop, v_fo, v_fo2, v_ast, v_as, v_as2, v_as3, v_aop, v_ao, v_ao2, v_ao3, v_exs, v_ex, v_ifs, v_if1, v_if0, v_ret, v_rt, v_rez, v_rz, v_rev, v_brk, v_sws, v_sw, v_sw2, v_run, v_rb, v_turn, v_tu1, v_tu0, v_tu2, v_tu3, fst1, snd1, Option.map_some, Option.getD_some, enA, en, stE, okb, narV, rf_toNat, rf_nn, List.getElem?_cons_zero, List.getElem?_cons_succ, w32_id, w64_id, ite_t, ite_f, Int.toNat_add, Int.toNat_mul, sM_0, sM_15, th, hu, c, c0, e3, e2, e4]
    · have lr : LR μC' 30 (μM' 15) := by
        have l2 := cpL_LR (k := 30) q1
        refine l2.of (fun a b h1 h2 => ?_) eS
        rw [← hC, ud_n (by omega), ud_n (by omega), ud_n (by omega)]
      refine R.upd (R.pc.keep (S := fun a b => a = 40 ∧ b = 0 ∨ a = 44 ∧ (b = 1 ∨ b = 2) ∨ a = 30 ∧ b < 2 ∨ 31 ≤ a ∧ a ≤ 34) (fun a b hs => eC a b (by omega) (by omega) (by omega)) (by decide)) (fun a b _ => eC a b (by omega) (by omega) (by omega)) (R.pm.keep (S := fun a b => a = 15 ∨ a = 0 ∧ b = 24) (fun a b hs => eM a b (by omega) (by omega)) (by decide)) (by rw [eM _ _ (by omega) (by omega)]; exact R.th) (fun a b _ => eM a b (by omega) (by omega)) lr ⟨by rw [f0, g0], fun i hi => ?_, fun i hi => ?_, fun i hi => ?_⟩ (q2.of eS) ⟨by rw [f0]; decide, by rw [f0]; decide, fun i hi => ?_, fun i hi => ?_, fun i hi => ?_, fun i hi => ?_⟩ ?_ (R.mr.of R.fb.n1 (eC _ _ (by omega) (by omega) (by omega)) (fun a b h1 h2 => eC _ _ (by omega) (by omega) (by omega)) (fun m hm => eM _ _ (by omega) (by omega)) (fun i h1 h2 => eM2 _ (by omega)))
      rotate_right
      · refine ⟨by rw [v0, u0], by rw [u0]; omega, by rw [u0]; omega, by rw [v1]; omega, by rw [v1]; omega, fun j hj => ?_⟩
        rw [u0] at hj
        rw [u0, v1]
        obtain ⟨z1, z2⟩ := ke (j + 1) (by omega)
        have ec : ((((w + 11) % 12 : Nat) : Int).toNat + 12 - j) % 12 = (w + 12 - (j + 1)) % 12 := by
          rw [Int.toNat_natCast]
          omega
        rw [ec, show ((u : Int) - 1).toNat - 1 - j = u - 1 - (j + 1) by omega]
        have es : ∀ i, i < 182 → slt μM' (5 + (u - 1 - (j + 1))) i = slt μM (5 + (u - 1 - (j + 1))) i := fun i hi => eM2 _ (by omega)
        exact ⟨z1.of (fun a b h1 h2 => eC _ _ (by omega) (by omega) (by omega)) es, z2.of es⟩
      all_goals
        rw [f0] at hi
        omega
set_option maxRecDepth 100000 in theorem st_mark (a e : Int) (he : e = 0 ∨ e = 1) : STP RR fX11_mark fX12_mark [(0, a), (0, e)] := by
  rintro μC μM ⟨h, d, n, P, M, R⟩
  have th := ud_same R.th
  have e1 := r_within shM μM a 0 3
  have hd := R.hd.1
  have hn := R.fb.n1
  by_cases ca : 0 ≤ a ∧ a ≤ 3
  · obtain ⟨m, rfl⟩ := Int.eq_ofNat_of_zero_le ca.1
    try simp only [Int.ofNat_eq_natCast] at *
    have hm : m < 4 := by omega
    have a1 : ¬ (m : Int) < 0 := by omega
    have a2 : ¬ 4 ≤ (m : Int) := by omega
    have a3 : (m : Int) < 4 := by omega
    obtain ⟨t1, t2, t3, t4⟩ := R.pc.mark hm
    obtain ⟨L, hL, hL2, hL3⟩ := R.mr.la
    have hp : 2 ^ m < 16 := by
      have : 2 ^ m < 2 ^ 4 := p2_lt hm
      omega
    have s1 := t3.1
    have s2 := t4.1
    rcases he with rfl | rfl
    · -- laid
      have f1 := c_copy t3 R.pc.ly30 (by omega)
      have pc1 : PC (cpL μC 30 (123 + 9 * m)) := by
        refine R.pc.of (fun p hp => cpL_p ?_)
        have : ∀ v, v < 4 → ∀ p ∈ ptC, ¬ (p.1 = 123 + 9 * v ∧ p.2.1 < 2 ∨ 123 + 9 * v + 1 ≤ p.1 ∧ p.1 ≤ 123 + 9 * v + 4) := by decide
        exact this m hm p hp
      obtain ⟨-, -, -, t5⟩ := pc1.mark hm
      have f2 := c_copyG t5 pc1.fg40 (by omega)
      have pm1 : PM (ud μM 16 m 1) := R.pm.keep (S := fun x y => x = 16) (fun x y hs => ud_n (by omega)) (by decide)
      have f3 := r_copies pm1 (f := 0) (t := 1 + m) (by omega) (by omega) (by omega)
      rw [show ((1 + m : Nat) : Int) = 1 + (m : Int) by omega] at f3
      simp at f3
      have eo : o_ior (L : Int) (o_ishl 1 (m : Int)) = ((L ||| 2 ^ m : Nat) : Int) := by
        rw [ishl1 (by omega), ior_nat (by omega) (by omega)]
      have c14 : cpG (cpL μC 30 (123 + 9 * m)) 40 (128 + 9 * m) 0 14 = (L : Int) := by rw [cpG_c (by omega), cpL_c (by omega), hL2]
      have nar : (vp_nar .boolean (Int32.ofInt 1)).toInt = 1 := by decide
      have nar' : (vp_nar .boolean (1 : Int32)).toInt = 1 := by decide
      generalize hC : ud (cpG (cpL μC 30 (123 + 9 * m)) 40 (128 + 9 * m)) 0 14 ((L ||| 2 ^ m : Nat) : Int) = μC'
      generalize hM : cpS (ud μM 16 m 1) 0 (1 + m) 290 = μM'
      have eC : ∀ x y, ¬ (x = 0 ∧ y = 14) → (x < 123 + 9 * m ∨ 132 + 9 * m ≤ x) → μC' x y = μC x y := fun x y h1 h2 => by rw [← hC, ud_n h1, cpG_c (by omega), cpL_c (by omega)]
      have eM : ∀ x y, x ≠ 15 → ¬ (x = 16 ∧ y = m) → μM' x y = μM x y := fun x y h1 h2 => by rw [← hM, cpS_c h1, ud_n h2]
      have eM2 : ∀ y, (y < 290 * (1 + m) ∨ 290 * (1 + m) + 290 ≤ y) → μM' 15 y = μM 15 y := fun y h1 => by rw [← hM, cpS_o (by omega), ud_c (by decide)]
      have eM3 : ∀ i, i < 290 → slt μM' (1 + m) i = μM 15 i := fun i hi => by
        show μM' 15 (290 * (1 + m) + i) = _
        rw [← hM, cpS_n hi, ud_c (by decide)]
        congr 1
        omega
      have m16 : μM' 16 m = 1 := by rw [← hM, cpS_c (by decide), ud_s]
      refine ⟨1, μC', μM', ?_, ?_, h, d, n, P, M, ?_⟩
      · rw [← hC]
        simp -implicitDefEqProofs (disch := omega) [fX11_mark, bX11_mark, v_cop, v_c1, v_c2, v_c3, v_c4, v_c5, v_bin, v_bn, v_bn2, v_div, v_dv, v_dv2, v_une, v_un, v_loc, v_num, v_get, v_gt, v_ald, v_al, v_al2, v_len, v_ln, v_rl0, v_rl1, v_rl2, v_rl3, v_rl4, v_rl5, v_cmp, v_cp, v_cp2, v_zC, v_zc, v_con, v_kc, v_and, v_an1, v_an0, v_or, v_or1, v_or0, v_not, v_nt, v_boo, v_bo, v_cnd, v_cd1, v_cd0, v_cnc, v_cc1, v_cc0, v_ev0, v_ev, v_e1, v_e2, v_cve, v_cv, v_cse, v_cs, v_skip, v_seq, v_sq0, v_sq1, v_sqr, v_sts, v_st, v_inc, v_put, v_pt, v_pt2, v_fop, v_fo, v_fo2, v_ast, v_as, v_as2, v_as3, v_aop, v_ao, v_ao2, v_ao3, v_exs, v_ex, v_ifs, v_if1, v_if0, v_ret, v_rt, v_rez, v_rz, v_rev, v_brk, v_sws, v_sw, v_sw2, v_run, v_rb, v_turn, v_tu1, v_tu0, v_tu2, v_tu3, fst1, snd1, Option.map_some, Option.getD_some, enA, en, stE, okb, narV, rf_toNat, rf_nn, List.getElem?_cons_zero, List.getElem?_cons_succ, w32_id, w64_id, ite_t, ite_f, Int.toNat_add, Int.toNat_mul, sC_0, sC_121, sC_122, R.pc.p0_12, R.pc.p0_13, R.pc.p0_4, pc1.p0_6, a1, a2, a3, t1, t2, hm, s1, s2, f1, f2, c14, eo]
      · rw [← hM]
        simp -implicitDefEqProofs (disch := omega) [fX12_mark, bX12_mark, v_cop, v_c1, v_c2, v_c3, v_c4, v_c5, v_bin, v_bn, v_bn2, v_div, v_dv, v_dv2, v_une, v_un, v_loc, v_num, v_get, v_gt, v_ald, v_al, v_al2, v_len, v_ln, v_rl0, v_rl1, v_rl2, v_rl3, v_rl4, v_rl5, v_cmp, v_cp, v_cp2, v_zC, v_zc, v_con, v_kc, v_and, v_an1, v_an0, v_or, v_or1, v_or0, v_not, v_nt, v_boo, v_bo, v_cnd, v_cd1, v_cd0, v_cnc, v_cc1, v_cc0, v_ev0, v_ev, v_e1, v_e2, v_cve, v_cv, v_cse, v_cs, v_skip, v_seq, v_sq0, v_sq1, v_sqr, v_sts, v_st, v_inc, v_put, v_pt, v_pt2, v_fop, v_fo, v_fo2, v_ast, v_as, v_as2, v_as3, v_aop, v_ao, v_ao2, v_ao3, v_exs, v_ex, v_ifs, v_if1, v_if0, v_ret, v_rt, v_rez, v_rz, v_rev, v_brk, v_sws, v_sw, v_sw2, v_run, v_rb, v_turn, v_tu1, v_tu0, v_tu2, v_tu3, fst1, snd1, Option.map_some, Option.getD_some, enA, en, stE, okb, narV, rf_toNat, rf_nn, List.getElem?_cons_zero, List.getElem?_cons_succ, w32_id, w64_id, ite_t, ite_f, Int.toNat_add, Int.toNat_mul, sM_0, sM_16, th, e1, ca, a3, hm, nar, nar', R.pm.p25, f3]
      · refine R.upd (R.pc.of (fun p hp => ?_)) (fun x y _ => eC x y (by omega) (by omega)) (R.pm.keep (S := fun x y => x = 15 ∨ x = 16) (fun x y hs => eM x y (by omega) (by omega)) (by decide)) (by rw [eM _ _ (by omega) (by omega)]; exact R.th) (fun x y _ => eM x y (by omega) (by omega)) (R.lr.of (fun x y h1 h2 => eC _ _ (by omega) (by omega)) (fun i hi => eM2 _ (by omega))) (R.gr.of R.sg.f1 (fun x y h1 h2 => eC _ _ (by omega) (by omega)) (fun i _ hi => eM2 _ (by omega))) (R.sl.of (fun i hi => eM2 _ (by omega))) (R.sg.of hn (fun i _ hi => eM2 _ (by omega)) (fun i _ hi => eM2 _ (by omega))) (R.pr.of (fun x y h1 h2 => eC _ _ (by omega) (by omega)) (eM _ _ (by omega) (by omega)) (fun i h1 h2 => eM2 _ (by omega))) ⟨⟨L ||| 2 ^ m, Nat.or_lt_two_pow (n := 4) hL hp, ?_, fun m' hm' => ?_⟩, fun m' hm' h4 => ?_⟩
        · have : ∀ v, v < 4 → ∀ p ∈ ptC, ¬ (p.1 = 0 ∧ p.2.1 = 14) ∧ ¬ (p.1 = 128 + 9 * v ∧ p.2.1 = 0 ∨ 128 + 9 * v + 1 ≤ p.1 ∧ p.1 ≤ 128 + 9 * v + 3) ∧ ¬ (p.1 = 123 + 9 * v ∧ p.2.1 < 2 ∨ 123 + 9 * v + 1 ≤ p.1 ∧ p.1 ≤ 123 + 9 * v + 4) := by decide
          obtain ⟨z1, z2, z3⟩ := this m hm p hp
          rw [← hC, ud_n z1, cpG_p z2, cpL_p z3]
        · rw [← hC, ud_s]
        · rw [Nat.testBit_or, Nat.testBit_two_pow]
          by_cases c : m' = m
          · subst c
            rw [m16]
            simp
          · rw [eM _ _ (by omega) (by omega), hL3 m' hm']
            have c' : ¬ m = m' := fun z => c z.symm
            simp [c']
        · by_cases c : m' = m
          · subst c
            refine ⟨?_, ?_, R.sl.of (fun i hi => eM3 i (by omega)), R.sg.of hn (fun i _ hi => eM3 i hi) (fun i _ hi => eM3 i (by omega))⟩
            · have l := cpL_LR (k := 123 + 9 * m') R.lr
              exact l.of (fun x y h1 h2 => by rw [← hC, ud_n (by omega), cpG_c (by omega)]) (fun i hi => eM3 i (by omega))
            · have g0 : GR (cpL μC 30 (123 + 9 * m')) 40 (μM 15) := R.gr.of R.sg.f1 (fun x y h1 h2 => cpL_c (by omega)) (fun i _ _ => rfl)
              have g := cpG_GR (k := 128 + 9 * m') g0 R.sg.f1
              exact g.of R.sg.f1 (fun x y h1 h2 => by rw [← hC, ud_n (by omega)]) (fun i _ hi => eM3 i hi)
          · rw [eM _ _ (by omega) (by omega)] at h4
            obtain ⟨z1, z2, z3, z4⟩ := R.mr.ke m' hm' h4
            have es : ∀ i, i < 290 → slt μM' (1 + m') i = slt μM (1 + m') i := fun i hi => eM2 _ (by omega)
            exact ⟨z1.of (fun x y h1 h2 => eC _ _ (by omega) (by omega)) (fun i hi => es i (by omega)), z2.of z4.f1 (fun x y h1 h2 => eC _ _ (by omega) (by omega)) (fun i _ hi => es i hi), z3.of (fun i hi => es i (by omega)), z4.of hn (fun i _ hi => es i hi) (fun i _ hi => es i (by omega))⟩
    · -- gone back to
      have ea : o_iand (L : Int) (o_ishl 1 (m : Int)) = ((L &&& 2 ^ m : Nat) : Int) := by
        rw [ishl1 (by omega), iand_nat (by omega) (by omega)]
      have hL4 := hL3 m hm
      by_cases c : L.testBit m = true
      · rw [if_pos c] at hL4
        have ne : ¬ (L &&& 2 ^ m) = 0 := fun z => by
          have : (L &&& 2 ^ m).testBit m = false := by rw [z]; exact Nat.zero_testBit m
          rw [Nat.testBit_and, Nat.testBit_two_pow_self, c] at this
          cases this
        have ne2 : ¬ ((L &&& 2 ^ m : Nat) : Int) = 0 := by omega
        obtain ⟨q1, q2, q3, q4⟩ := R.mr.ke m hm hL4
        have f1 := c_copy R.pc.ly30 t3 (by omega)
        have pc1 : PC (cpL μC (123 + 9 * m) 30) := R.pc.keep (S := fun a b => a = 30 ∧ b < 2 ∨ 31 ≤ a ∧ a ≤ 34) (fun a b hs => cpL_p (by omega)) (by decide)
        obtain ⟨-, -, -, t5⟩ := pc1.mark hm
        have f2 := c_copyG pc1.fg40 t5 (by omega)
        have f3 := r_copies R.pm (f := 1 + m) (t := 0) (by omega) (by omega) (by omega)
        rw [show ((1 + m : Nat) : Int) = 1 + (m : Int) by omega] at f3
        simp at f3
        generalize hC : ud (cpG (cpL μC (123 + 9 * m) 30) (128 + 9 * m) 40) 44 1 0 = μC'
        generalize hM : ud (cpS μM (1 + m) 0 290) 0 24 0 = μM'
        have eC : ∀ x y, ¬ (x = 44 ∧ y = 1) → ¬ (x = 30 ∧ y < 2 ∨ 31 ≤ x ∧ x ≤ 34) → ¬ (x = 40 ∧ y = 0 ∨ 41 ≤ x ∧ x ≤ 43) → μC' x y = μC x y := fun x y h1 h2 h3 => by rw [← hC, ud_n h1, cpG_p (by omega), cpL_p (by omega)]
        have eM : ∀ x y, x ≠ 15 → ¬ (x = 0 ∧ y = 24) → μM' x y = μM x y := fun x y h1 h2 => by rw [← hM, ud_n h2, cpS_c h1]
        have eM2 : ∀ y, 290 ≤ y → μM' 15 y = μM 15 y := fun y h1 => by rw [← hM, ud_c (by decide), cpS_o (by omega)]
        have eM3 : ∀ i, i < 290 → μM' 15 i = slt μM (1 + m) i := fun i hi => by
          have := cpS_n (μ := μM) (f := 1 + m) (t := 0) (j := 290) hi
          rw [show 290 * 0 + i = i by omega] at this
          rw [← hM, ud_c (by decide), this]
          rfl
        have u0 : μM' 0 24 = 0 := by rw [← hM, ud_s]
        have v0 : μC' 44 1 = 0 := by rw [← hC, ud_s]
        refine ⟨1, μC', μM', ?_, ?_, h, d, n, P, M, ?_⟩
        · rw [← hC]
          simp -implicitDefEqProofs (disch := omega) [fX11_mark, bX11_mark, v_cop, v_c1, v_c2, v_c3, v_c4, v_c5, v_bin, v_bn, v_bn2, v_div, v_dv, v_dv2, v_une, v_un, v_loc, v_num, v_get, v_gt, v_ald, v_al, v_al2, v_len, v_ln, v_rl0, v_rl1, v_rl2, v_rl3, v_rl4, v_rl5, v_cmp, v_cp, v_cp2, v_zC, v_zc, v_con, v_kc, v_and, v_an1, v_an0, v_or, v_or1, v_or0, v_not, v_nt, v_boo, v_bo, v_cnd, v_cd1, v_cd0, v_cnc, v_cc1, v_cc0, v_ev0, v_ev, v_e1, v_e2, v_cve, v_cv, v_cse, v_cs, v_skip, v_seq, v_sq0, v_sq1, v_sqr, v_sts, v_st, v_inc, v_put, v_pt, v_pt2, v_fop, v_fo, v_fo2, v_ast, v_as, v_as2, v_as3, v_aop, v_ao, v_ao2, v_ao3, v_exs, v_ex, v_ifs, v_if1, v_if0, v_ret, v_rt, v_rez, v_rz, v_rev, v_brk, v_sws, v_sw, v_sw2, v_run, v_rb, v_turn, v_tu1, v_tu0, v_tu2, v_tu3, fst1, snd1, Option.map_some, Option.getD_some, enA, en, stE, okb, narV, rf_toNat, rf_nn, List.getElem?_cons_zero, List.getElem?_cons_succ, w32_id, w64_id, ite_t, ite_f, Int.toNat_add, Int.toNat_mul, sC_0, sC_30, sC_40, sC_44, sC_121, sC_122, R.pc.p0_12, R.pc.p0_13, R.pc.p0_4, pc1.p0_6, R.pc.p0_7, cpG_c, cpL_c, a1, a2, a3, t1, t2, hm, f1, f2, hL2, ea, ne, ne2]
        · rw [← hM]
          simp -implicitDefEqProofs (disch := omega) [fX12_mark, bX12_mark, v_cop, v_c1, v_c2, v_c3, v_c4, v_c5, v_bin, v_bn, v_bn2, v_div, v_dv, v_dv2, v_une, v_un, v_loc, v_num, v_get, v_gt, v_ald, v_al, v_al2, v_len, v_ln, v_rl0, v_rl1, v_rl2, v_rl3, v_rl4, v_rl5, v_cmp, v_cp, v_cp2, v_zC, v_zc, v_con, v_kc, v_and, v_an1, v_an0, v_or, v_or1, v_or0, v_not, v_nt, v_boo, v_bo, v_cnd, v_cd1, v_cd0, v_cnc, v_cc1, v_cc0, v_ev0, v_ev, v_e1, v_e2, v_cve, v_cv, v_cse, v_cs, v_skip, v_seq, v_sq0, v_sq1, v_sqr, v_sts, v_st, v_inc, v_put, v_pt, v_pt2, v_fop, v_fo, v_fo2, v_ast, v_as, v_as2, v_as3, v_aop, v_ao, v_ao2, v_ao3, v_exs, v_ex, v_ifs, v_if1, v_if0, v_ret, v_rt, v_rez, v_rz, v_rev, v_brk, v_sws, v_sw, v_sw2, v_run, v_rb, v_turn, v_tu1, v_tu0, v_tu2, v_tu3, fst1, snd1, Option.map_some, Option.getD_some, enA, en, stE, okb, narV, rf_toNat, rf_nn, List.getElem?_cons_zero, List.getElem?_cons_succ, w32_id, w64_id, ite_t, ite_f, Int.toNat_add, Int.toNat_mul, sM_0, sM_16, th, e1, ca, a3, hm, R.pm.p25, hL4, f3]
        · have lr : LR μC' 30 (μM' 15) := (cpL_LR (k := 30) q1).of (fun x y h1 h2 => by rw [← hC, ud_n (by omega), cpG_c (by omega)]) (fun i hi => eM3 i (by omega))
          have gr : GR μC' 40 (μM' 15) := by
            have g0 : GR (cpL μC (123 + 9 * m) 30) (128 + 9 * m) (slt μM (1 + m)) := q2.of q4.f1 (fun x y h1 h2 => cpL_c (by omega)) (fun i _ _ => rfl)
            exact (cpG_GR (k := 40) g0 q4.f1).of q4.f1 (fun x y h1 h2 => by rw [← hC, ud_n (by omega)]) (fun i _ hi => eM3 i hi)
          refine R.upd (R.pc.keep (S := fun x y => x = 44 ∧ y = 1 ∨ x = 30 ∧ y < 2 ∨ 31 ≤ x ∧ x ≤ 34 ∨ x = 40 ∧ y = 0 ∨ 41 ≤ x ∧ x ≤ 43) (fun x y hs => eC x y (by omega) (by omega) (by omega)) (by decide)) (fun x y _ => eC x y (by omega) (by omega) (by omega)) (R.pm.keep (S := fun x y => x = 15 ∨ x = 0 ∧ y = 24) (fun x y hs => eM x y (by omega) (by omega)) (by decide)) (by rw [eM _ _ (by omega) (by omega)]; exact R.th) (fun x y _ => eM x y (by omega) (by omega)) lr gr (q3.of (fun i hi => eM3 i (by omega))) (q4.of hn (fun i _ hi => eM3 i hi) (fun i _ hi => eM3 i (by omega))) ⟨by rw [v0, u0], by rw [u0]; decide, by rw [u0]; decide, by rw [eC _ _ (by omega) (by omega) (by omega)]; exact R.pr.w0, by rw [eC _ _ (by omega) (by omega) (by omega)]; exact R.pr.w1, fun j hj => by rw [u0] at hj; omega⟩ (R.mr.of hn (eC _ _ (by omega) (by omega) (by omega)) (fun x y h1 h2 => eC _ _ (by omega) (by omega) (by omega)) (fun m hm => eM _ _ (by omega) (by omega)) (fun i h1 h2 => eM2 _ (by omega)))
      · rw [if_neg c] at hL4
        have ze : (L &&& 2 ^ m) = 0 := by
          apply Nat.eq_of_testBit_eq
          intro i
          rw [Nat.testBit_and, Nat.testBit_two_pow, Nat.zero_testBit]
          by_cases c2 : m = i
          · subst c2; simp [c]
          · simp [c2]
        refine ⟨0, μC, μM, ?_, ?_, h, d, n, P, M, R⟩
        · simp -implicitDefEqProofs (disch := omega) [fX11_mark, bX11_mark, v_cop, v_c1, v_c2, v_c3, v_c4, v_c5, v_bin, v_bn, v_bn2, v_div, v_dv, v_dv2, v_une, v_un, v_loc, v_num, v_get, v_gt, v_ald, v_al, v_al2, v_len, v_ln, v_rl0, v_rl1, v_rl2, v_rl3, v_rl4, v_rl5, v_cmp, v_cp, v_cp2, v_zC, v_zc, v_con, v_kc, v_and, v_an1, v_an0, v_or, v_or1, v_or0, v_not, v_nt, v_boo, v_bo, v_cnd, v_cd1, v_cd0, v_cnc, v_cc1, v_cc0, v_ev0, v_ev, v_e1, v_e2, v_cve, v_cv, v_cse, v_cs, v_skip, v_seq, v_sq0, v_sq1, v_sqr, v_sts, v_st, v_inc, v_put, v_pt, v_pt2, v_fop, v_fo, v_fo2, v_ast, v_as, v_as2, v_as3, v_aop, v_ao, v_ao2, v_ao3, v_exs, v_ex, v_ifs, v_if1, v_if0, v_ret, v_rt, v_rez, v_rz, v_rev, v_brk, v_sws, v_sw, v_sw2, v_run, v_rb, v_turn, v_tu1, v_tu0, v_tu2, v_tu3, fst1, snd1, Option.map_some, Option.getD_some, enA, en, stE, okb, narV, rf_toNat, rf_nn, List.getElem?_cons_zero, List.getElem?_cons_succ, w32_id, w64_id, ite_t, ite_f, Int.toNat_add, Int.toNat_mul, sC_0, sC_121, sC_122, R.pc.p0_12, R.pc.p0_13, a1, a2, a3, t1, t2, hm, hL2, ea, ze]
        · simp -implicitDefEqProofs (disch := omega) [fX12_mark, bX12_mark, v_cop, v_c1, v_c2, v_c3, v_c4, v_c5, v_bin, v_bn, v_bn2, v_div, v_dv, v_dv2, v_une, v_un, v_loc, v_num, v_get, v_gt, v_ald, v_al, v_al2, v_len, v_ln, v_rl0, v_rl1, v_rl2, v_rl3, v_rl4, v_rl5, v_cmp, v_cp, v_cp2, v_zC, v_zc, v_con, v_kc, v_and, v_an1, v_an0, v_or, v_or1, v_or0, v_not, v_nt, v_boo, v_bo, v_cnd, v_cd1, v_cd0, v_cnc, v_cc1, v_cc0, v_ev0, v_ev, v_e1, v_e2, v_cve, v_cv, v_cse, v_cs, v_skip, v_seq, v_sq0, v_sq1, v_sqr, v_sts, v_st, v_inc, v_put, v_pt, v_pt2, v_fop, v_fo, v_fo2, v_ast, v_as, v_as2, v_as3, v_aop, v_ao, v_ao2, v_ao3, v_exs, v_ex, v_ifs, v_if1, v_if0, v_ret, v_rt, v_rez, v_rz, v_rev, v_brk, v_sws, v_sw, v_sw2, v_run, v_rb, v_turn, v_tu1, v_tu0, v_tu2, v_tu3, fst1, snd1, Option.map_some, Option.getD_some, enA, en, stE, okb, narV, rf_toNat, rf_nn, List.getElem?_cons_zero, List.getElem?_cons_succ, w32_id, w64_id, ite_t, ite_f, Int.toNat_add, Int.toNat_mul, sM_0, sM_16, th, e1, ca, a3, hm, R.pm.p25, hL4]
  · refine ⟨0, μC, μM, ?_, ?_, h, d, n, P, M, R⟩
    · have b1 : a < 0 ∨ 4 ≤ a := by omega
      rcases b1 with b1 | b1
      · simp -implicitDefEqProofs [fX11_mark, bX11_mark, v_cop, v_c1, v_c2, v_c3, v_c4, v_c5, v_bin, v_bn, v_bn2, v_div, v_dv, v_dv2, v_une, v_un, v_loc, v_num, v_get, v_gt, v_ald, v_al, v_al2, v_len, v_ln, v_rl0, v_rl1, v_rl2, v_rl3, v_rl4, v_rl5, v_cmp, v_cp, v_cp2, v_zC, v_zc, v_con, v_kc, v_and, v_an1, v_an0, v_or, v_or1, v_or0, v_not, v_nt, v_boo, v_bo, v_cnd, v_cd1, v_cd0, v_cnc, v_cc1, v_cc0, v_ev0, v_ev, v_e1, v_e2, v_cve, v_cv, v_cse, v_cs, v_skip, v_seq, v_sq0, v_sq1, v_sqr, v_sts, v_st, v_inc, v_put, v_pt, v_pt2, v_fop, v_fo, v_fo2, v_ast, v_as, v_as2, v_as3, v_aop, v_ao, v_ao2, v_ao3, v_exs, v_ex, v_ifs, v_if1, v_if0, v_ret, v_rt, v_rez, v_rz, v_rev, v_brk, v_sws, v_sw, v_sw2, v_run, v_rb, v_turn, v_tu1, v_tu0, v_tu2, v_tu3, fst1, snd1, Option.map_some, Option.getD_some, enA, en, stE, okb, narV, rf_toNat, rf_nn, List.getElem?_cons_zero, List.getElem?_cons_succ, w32_id, w64_id, ite_t, ite_f, Int.toNat_add, Int.toNat_mul, b1]
      · have b2 : ¬ a < 0 := by omega
        simp -implicitDefEqProofs [fX11_mark, bX11_mark, v_cop, v_c1, v_c2, v_c3, v_c4, v_c5, v_bin, v_bn, v_bn2, v_div, v_dv, v_dv2, v_une, v_un, v_loc, v_num, v_get, v_gt, v_ald, v_al, v_al2, v_len, v_ln, v_rl0, v_rl1, v_rl2, v_rl3, v_rl4, v_rl5, v_cmp, v_cp, v_cp2, v_zC, v_zc, v_con, v_kc, v_and, v_an1, v_an0, v_or, v_or1, v_or0, v_not, v_nt, v_boo, v_bo, v_cnd, v_cd1, v_cd0, v_cnc, v_cc1, v_cc0, v_ev0, v_ev, v_e1, v_e2, v_cve, v_cv, v_cse, v_cs, v_skip, v_seq, v_sq0, v_sq1, v_sqr, v_sts, v_st, v_inc, v_put, v_pt, v_pt2, v_fop, v_fo, v_fo2, v_ast, v_as, v_as2, v_as3, v_aop, v_ao, v_ao2, v_ao3, v_exs, v_ex, v_ifs, v_if1, v_if0, v_ret, v_rt, v_rez, v_rz, v_rev, v_brk, v_sws, v_sw, v_sw2, v_run, v_rb, v_turn, v_tu1, v_tu0, v_tu2, v_tu3, fst1, snd1, Option.map_some, Option.getD_some, enA, en, stE, okb, narV, rf_toNat, rf_nn, List.getElem?_cons_zero, List.getElem?_cons_succ, w32_id, w64_id, ite_t, ite_f, Int.toNat_add, Int.toNat_mul, b1, b2]
    · simp -implicitDefEqProofs [fX12_mark, bX12_mark, v_cop, v_c1, v_c2, v_c3, v_c4, v_c5, v_bin, v_bn, v_bn2, v_div, v_dv, v_dv2, v_une, v_un, v_loc, v_num, v_get, v_gt, v_ald, v_al, v_al2, v_len, v_ln, v_rl0, v_rl1, v_rl2, v_rl3, v_rl4, v_rl5, v_cmp, v_cp, v_cp2, v_zC, v_zc, v_con, v_kc, v_and, v_an1, v_an0, v_or, v_or1, v_or0, v_not, v_nt, v_boo, v_bo, v_cnd, v_cd1, v_cd0, v_cnc, v_cc1, v_cc0, v_ev0, v_ev, v_e1, v_e2, v_cve, v_cv, v_cse, v_cs, v_skip, v_seq, v_sq0, v_sq1, v_sqr, v_sts, v_st, v_inc, v_put, v_pt, v_pt2, v_fop, v_fo, v_fo2, v_ast, v_as, v_as2, v_as3, v_aop, v_ao, v_ao2, v_ao3, v_exs, v_ex, v_ifs, v_if1, v_if0, v_ret, v_rt, v_rez, v_rz, v_rev, v_brk, v_sws, v_sw, v_sw2, v_run, v_rb, v_turn, v_tu1, v_tu0, v_tu2, v_tu3, fst1, snd1, Option.map_some, Option.getD_some, enA, en, stE, okb, narV, rf_toNat, rf_nn, List.getElem?_cons_zero, List.getElem?_cons_succ, w32_id, w64_id, ite_t, ite_f, Int.toNat_add, Int.toNat_mul, sM_0, th, e1, ca]
