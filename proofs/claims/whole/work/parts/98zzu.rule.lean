/-! a law's line: both -/
set_option maxRecDepth 100000 in theorem b_lev1 {mC mM bC bM : Mem} {c : Nat → Int} {N T d cc t w x y : Nat} {W : List Int} {s : Int} (w5 : w ≤ 5) (ih : EJd mC mM bC bM c N T d cc W t s 2 2 w x y) : EJd mC mM bC bM c N T d cc W t s 1 4 w (x + 1) (y + 1) := by
  intro μC μM a j D h hj D0 D1
  rw [gJ0, gA4, show ((1 : Nat) : Int) = 1 from rfl]
  have sub := ih μC μM a j D h hj D0 (by omega)
  rw [show ((2 : Nat) : Int) = 2 from rfl] at sub
  rcases sub with ⟨a2, j2, m2, k2, e2, e3, h2, l1, l2⟩ | ⟨m2, k2, e2, e3, fx⟩
  · have p := h2.1
    have lT := p.la
    have t2' := p.rq.t2
    have r0 := p.rq.2.2.2.1
    have lv := c_level m2 (tkA c N a2)
    have i60 := r_isSig (x := 60) p.mq p.f0 (by decide)
    have s60 := r_hasSign (x := 60) p.mq p.f0 (by decide)
    have s61 := r_hasSign (x := 61) p.mq p.f0 (by decide)
    by_cases op : tkA c N a2 = 60 ∨ tkA c N a2 = 61
    · have bT := p.lt (by omega)
      obtain ⟨m3, e4, h3⟩ := h2.adv bT
      have sub := ih m3 (ud k2 0 7 ((a2 : Int) + 1)) (a2 + 1) j2 (D + 1) h3 (by omega) (by omega) (by omega)
      rw [show ((2 : Nat) : Int) = 2 from rfl] at sub
      rcases sub with ⟨a4, j4, m4, k4, e5, e6, h4, l3, l4⟩ | ⟨m4, k4, e5, e6, fx⟩
      · have q42 := h4.2.2.1
        have oc := h.cc.1.1
        rcases op with o | o
        · rw [o] at t2' lv
          rw [show lvO 60 = 1 from by decide] at lv
          have ad := h4.addT (by omega) (v := 60) (k := 60) rfl (by decide)
          obtain ⟨em, h5⟩ := h4.emit (o := 7) (v := 0) (by omega) ⟨by decide, by decide, fun q => absurd q (by decide), fun q => absurd q (by decide)⟩ ⟨by omega, fun q => absurd q (by decide), fun q => absurd q (by decide), fun _ _ => by omega⟩
          rw [if_neg (by decide), if_neg (by decide), show D + 1 + 1 + -1 = D + 1 by omega] at h5
          have en1 : enI W 7 0 = -1 - 60 := by
            unfold enI tkI
            rw [if_neg (by decide), if_neg (by decide)]
            decide
          rw [en1] at h5
          rw [if_pos ⟨rfl, o⟩] at i60
          rw [if_pos ⟨rfl, o⟩, if_pos ⟨rfl, o⟩] at s60
          refine .inl ⟨a4, j4 + 1, _, _, ?_, ?_, h5, by omega, by omega⟩
          · clear h5 em ih i60 s60 s61
            generalize ud (ud m4 (cc + 1) j4 (-1 - 60)) cc 2 ((j4 + 1 : Nat) : Int) = m5 at *
            have lC : loopS 2 3 (kX8_readJoined_0c (gGX8_readJoined x)) (kX8_readJoined_0b (gGX8_readJoined x)) (kX8_readJoined_0u (gGX8_readJoined x)) shC [(2, rf 27), (0, 1), (0, (w : Int)), (0, 1), (0, 0), (3, 0)] m2 = some (0, 0, [(2, rf 27), (0, 1), (0, (w : Int)), (0, 1), (0, 1), (0, 60)], m5) := by
              refine (turn_go (env' := [(2, rf 27), (0, 1), (0, (w : Int)), (0, 1), (0, 1), (0, 60)]) (μ' := m5) ?_).trans (turn_end ?_)
              · simp -implicitDefEqProofs (disch := omega) [kX8_readJoined_0c, kX8_readJoined_0b, kX8_readJoined_0u, v_cop, v_c1, v_c2, v_c3, v_c4, v_c5, v_bin, v_bn, v_bn2, v_div, v_dv, v_dv2, v_une, v_un, v_loc, v_num, v_get, v_gt, v_ald, v_al, v_al2, v_len, v_ln, v_rl0, v_rl1, v_rl2, v_rl3, v_rl4, v_rl5, v_cmp, v_cp, v_cp2, v_zC, v_zc, v_con, v_kc, v_and, v_an1, v_an0, v_or, v_or1, v_or0, v_not, v_nt, v_boo, v_bo, v_cnd, v_cd1, v_cd0, v_cnc, v_cc1, v_cc0, v_ev0, v_ev, v_e1, v_e2, v_cve, v_cv, v_cse, v_cs, v_skip, v_seq, v_sq0, v_sq1, v_sqr, v_sts, v_st, v_inc, v_put, v_pt, v_pt2, v_fop, v_fo, v_fo2, v_ast, v_as, v_as2, v_as3, v_aop, v_ao, v_ao2, v_ao3, v_exs, v_ex, v_ifs, v_if1, v_if0, v_ret, v_rt, v_rez, v_rz, v_rev, v_brk, v_sws, v_sw, v_sw2, v_run, v_rb, v_turn, v_tu1, v_tu0, v_tu2, v_tu3, fst1, snd1, Option.map_some, Option.getD_some, enA, en, stE, okb, narV, rf_toNat, rf_nn, List.getElem?_cons_zero, List.getElem?_cons_succ, w32_id, w64_id, ite_t, ite_f, Int.toNat_add, Int.toNat_mul, dec_t, dec_f, sC_27, sC_1, oc, r0, t2', lv, e4, e5, q42, ad]
              · simp -implicitDefEqProofs (disch := omega) [kX8_readJoined_0c, v_cop, v_c1, v_c2, v_c3, v_c4, v_c5, v_bin, v_bn, v_bn2, v_div, v_dv, v_dv2, v_une, v_un, v_loc, v_num, v_get, v_gt, v_ald, v_al, v_al2, v_len, v_ln, v_rl0, v_rl1, v_rl2, v_rl3, v_rl4, v_rl5, v_cmp, v_cp, v_cp2, v_zC, v_zc, v_con, v_kc, v_and, v_an1, v_an0, v_or, v_or1, v_or0, v_not, v_nt, v_boo, v_bo, v_cnd, v_cd1, v_cd0, v_cnc, v_cc1, v_cc0, v_ev0, v_ev, v_e1, v_e2, v_cve, v_cv, v_cse, v_cs, v_skip, v_seq, v_sq0, v_sq1, v_sqr, v_sts, v_st, v_inc, v_put, v_pt, v_pt2, v_fop, v_fo, v_fo2, v_ast, v_as, v_as2, v_as3, v_aop, v_ao, v_ao2, v_ao3, v_exs, v_ex, v_ifs, v_if1, v_if0, v_ret, v_rt, v_rez, v_rz, v_rev, v_brk, v_sws, v_sw, v_sw2, v_run, v_rb, v_turn, v_tu1, v_tu0, v_tu2, v_tu3, fst1, snd1, Option.map_some, Option.getD_some, enA, en, stE, okb, narV, rf_toNat, rf_nn, List.getElem?_cons_zero, List.getElem?_cons_succ, w32_id, w64_id, ite_t, ite_f, Int.toNat_add, Int.toNat_mul, dec_t, dec_f]
            simp -implicitDefEqProofs (disch := omega) [bX8_readJoined, kX8_readJoined_0, v_cop, v_c1, v_c2, v_c3, v_c4, v_c5, v_bin, v_bn, v_bn2, v_div, v_dv, v_dv2, v_une, v_un, v_loc, v_num, v_get, v_gt, v_ald, v_al, v_al2, v_len, v_ln, v_rl0, v_rl1, v_rl2, v_rl3, v_rl4, v_rl5, v_cmp, v_cp, v_cp2, v_zC, v_zc, v_con, v_kc, v_and, v_an1, v_an0, v_or, v_or1, v_or0, v_not, v_nt, v_boo, v_bo, v_cnd, v_cd1, v_cd0, v_cnc, v_cc1, v_cc0, v_ev0, v_ev, v_e1, v_e2, v_cve, v_cv, v_cse, v_cs, v_skip, v_seq, v_sq0, v_sq1, v_sqr, v_sts, v_st, v_inc, v_put, v_pt, v_pt2, v_fop, v_fo, v_fo2, v_ast, v_as, v_as2, v_as3, v_aop, v_ao, v_ao2, v_ao3, v_exs, v_ex, v_ifs, v_if1, v_if0, v_ret, v_rt, v_rez, v_rz, v_rev, v_brk, v_sws, v_sw, v_sw2, v_run, v_rb, v_turn, v_tu1, v_tu0, v_tu2, v_tu3, fst1, snd1, Option.map_some, Option.getD_some, enA, en, stE, okb, narV, rf_toNat, rf_nn, List.getElem?_cons_zero, List.getElem?_cons_succ, w32_id, w64_id, ite_t, ite_f, Int.toNat_add, Int.toNat_mul, dec_t, dec_f, sC_27, e2, lC]
          · clear h5 ad ih
            generalize emM k4 (t + j4) 7 0 = k5 at *
            generalize ud k2 0 7 ((a2 : Int) + 1) = k3 at *
            simp -implicitDefEqProofs (disch := omega) [bX12_test, v_cop, v_c1, v_c2, v_c3, v_c4, v_c5, v_bin, v_bn, v_bn2, v_div, v_dv, v_dv2, v_une, v_un, v_loc, v_num, v_get, v_gt, v_ald, v_al, v_al2, v_len, v_ln, v_rl0, v_rl1, v_rl2, v_rl3, v_rl4, v_rl5, v_cmp, v_cp, v_cp2, v_zC, v_zc, v_con, v_kc, v_and, v_an1, v_an0, v_or, v_or1, v_or0, v_not, v_nt, v_boo, v_bo, v_cnd, v_cd1, v_cd0, v_cnc, v_cc1, v_cc0, v_ev0, v_ev, v_e1, v_e2, v_cve, v_cv, v_cse, v_cs, v_skip, v_seq, v_sq0, v_sq1, v_sqr, v_sts, v_st, v_inc, v_put, v_pt, v_pt2, v_fop, v_fo, v_fo2, v_ast, v_as, v_as2, v_as3, v_aop, v_ao, v_ao2, v_ao3, v_exs, v_ex, v_ifs, v_if1, v_if0, v_ret, v_rt, v_rez, v_rz, v_rev, v_brk, v_sws, v_sw, v_sw2, v_run, v_rb, v_turn, v_tu1, v_tu0, v_tu2, v_tu3, fst1, snd1, Option.map_some, Option.getD_some, enA, en, stE, okb, narV, rf_toNat, rf_nn, List.getElem?_cons_zero, List.getElem?_cons_succ, w32_id, w64_id, ite_t, ite_f, Int.toNat_add, Int.toNat_mul, dec_t, dec_f, sM_0, e3, i60, s60, e6, em]
        · rw [o] at t2' lv
          rw [show lvO 61 = 1 from by decide] at lv
          have ad := h4.addT (by omega) (v := 61) (k := 61) rfl (by decide)
          obtain ⟨em, h5⟩ := h4.emit (o := 8) (v := 0) (by omega) ⟨by decide, by decide, fun q => absurd q (by decide), fun q => absurd q (by decide)⟩ ⟨by omega, fun q => absurd q (by decide), fun q => absurd q (by decide), fun _ _ => by omega⟩
          rw [if_neg (by decide), if_neg (by decide), show D + 1 + 1 + -1 = D + 1 by omega] at h5
          have en1 : enI W 8 0 = -1 - 61 := by
            unfold enI tkI
            rw [if_neg (by decide), if_neg (by decide)]
            decide
          rw [en1] at h5
          have n60 : ¬ tkA c N a2 = 60 := by omega
          rw [if_neg (fun q => n60 q.2)] at i60
          rw [if_neg (fun q => n60 q.2), if_neg (fun q => n60 q.2)] at s60
          rw [if_pos ⟨rfl, o⟩, if_pos ⟨rfl, o⟩] at s61
          refine .inl ⟨a4, j4 + 1, _, _, ?_, ?_, h5, by omega, by omega⟩
          · clear h5 em ih i60 s60 s61
            generalize ud (ud m4 (cc + 1) j4 (-1 - 61)) cc 2 ((j4 + 1 : Nat) : Int) = m5 at *
            have lC : loopS 2 3 (kX8_readJoined_0c (gGX8_readJoined x)) (kX8_readJoined_0b (gGX8_readJoined x)) (kX8_readJoined_0u (gGX8_readJoined x)) shC [(2, rf 27), (0, 1), (0, (w : Int)), (0, 1), (0, 0), (3, 0)] m2 = some (0, 0, [(2, rf 27), (0, 1), (0, (w : Int)), (0, 1), (0, 1), (0, 61)], m5) := by
              refine (turn_go (env' := [(2, rf 27), (0, 1), (0, (w : Int)), (0, 1), (0, 1), (0, 61)]) (μ' := m5) ?_).trans (turn_end ?_)
              · simp -implicitDefEqProofs (disch := omega) [kX8_readJoined_0c, kX8_readJoined_0b, kX8_readJoined_0u, v_cop, v_c1, v_c2, v_c3, v_c4, v_c5, v_bin, v_bn, v_bn2, v_div, v_dv, v_dv2, v_une, v_un, v_loc, v_num, v_get, v_gt, v_ald, v_al, v_al2, v_len, v_ln, v_rl0, v_rl1, v_rl2, v_rl3, v_rl4, v_rl5, v_cmp, v_cp, v_cp2, v_zC, v_zc, v_con, v_kc, v_and, v_an1, v_an0, v_or, v_or1, v_or0, v_not, v_nt, v_boo, v_bo, v_cnd, v_cd1, v_cd0, v_cnc, v_cc1, v_cc0, v_ev0, v_ev, v_e1, v_e2, v_cve, v_cv, v_cse, v_cs, v_skip, v_seq, v_sq0, v_sq1, v_sqr, v_sts, v_st, v_inc, v_put, v_pt, v_pt2, v_fop, v_fo, v_fo2, v_ast, v_as, v_as2, v_as3, v_aop, v_ao, v_ao2, v_ao3, v_exs, v_ex, v_ifs, v_if1, v_if0, v_ret, v_rt, v_rez, v_rz, v_rev, v_brk, v_sws, v_sw, v_sw2, v_run, v_rb, v_turn, v_tu1, v_tu0, v_tu2, v_tu3, fst1, snd1, Option.map_some, Option.getD_some, enA, en, stE, okb, narV, rf_toNat, rf_nn, List.getElem?_cons_zero, List.getElem?_cons_succ, w32_id, w64_id, ite_t, ite_f, Int.toNat_add, Int.toNat_mul, dec_t, dec_f, sC_27, sC_1, oc, r0, t2', lv, e4, e5, q42, ad]
              · simp -implicitDefEqProofs (disch := omega) [kX8_readJoined_0c, v_cop, v_c1, v_c2, v_c3, v_c4, v_c5, v_bin, v_bn, v_bn2, v_div, v_dv, v_dv2, v_une, v_un, v_loc, v_num, v_get, v_gt, v_ald, v_al, v_al2, v_len, v_ln, v_rl0, v_rl1, v_rl2, v_rl3, v_rl4, v_rl5, v_cmp, v_cp, v_cp2, v_zC, v_zc, v_con, v_kc, v_and, v_an1, v_an0, v_or, v_or1, v_or0, v_not, v_nt, v_boo, v_bo, v_cnd, v_cd1, v_cd0, v_cnc, v_cc1, v_cc0, v_ev0, v_ev, v_e1, v_e2, v_cve, v_cv, v_cse, v_cs, v_skip, v_seq, v_sq0, v_sq1, v_sqr, v_sts, v_st, v_inc, v_put, v_pt, v_pt2, v_fop, v_fo, v_fo2, v_ast, v_as, v_as2, v_as3, v_aop, v_ao, v_ao2, v_ao3, v_exs, v_ex, v_ifs, v_if1, v_if0, v_ret, v_rt, v_rez, v_rz, v_rev, v_brk, v_sws, v_sw, v_sw2, v_run, v_rb, v_turn, v_tu1, v_tu0, v_tu2, v_tu3, fst1, snd1, Option.map_some, Option.getD_some, enA, en, stE, okb, narV, rf_toNat, rf_nn, List.getElem?_cons_zero, List.getElem?_cons_succ, w32_id, w64_id, ite_t, ite_f, Int.toNat_add, Int.toNat_mul, dec_t, dec_f]
            simp -implicitDefEqProofs (disch := omega) [bX8_readJoined, kX8_readJoined_0, v_cop, v_c1, v_c2, v_c3, v_c4, v_c5, v_bin, v_bn, v_bn2, v_div, v_dv, v_dv2, v_une, v_un, v_loc, v_num, v_get, v_gt, v_ald, v_al, v_al2, v_len, v_ln, v_rl0, v_rl1, v_rl2, v_rl3, v_rl4, v_rl5, v_cmp, v_cp, v_cp2, v_zC, v_zc, v_con, v_kc, v_and, v_an1, v_an0, v_or, v_or1, v_or0, v_not, v_nt, v_boo, v_bo, v_cnd, v_cd1, v_cd0, v_cnc, v_cc1, v_cc0, v_ev0, v_ev, v_e1, v_e2, v_cve, v_cv, v_cse, v_cs, v_skip, v_seq, v_sq0, v_sq1, v_sqr, v_sts, v_st, v_inc, v_put, v_pt, v_pt2, v_fop, v_fo, v_fo2, v_ast, v_as, v_as2, v_as3, v_aop, v_ao, v_ao2, v_ao3, v_exs, v_ex, v_ifs, v_if1, v_if0, v_ret, v_rt, v_rez, v_rz, v_rev, v_brk, v_sws, v_sw, v_sw2, v_run, v_rb, v_turn, v_tu1, v_tu0, v_tu2, v_tu3, fst1, snd1, Option.map_some, Option.getD_some, enA, en, stE, okb, narV, rf_toNat, rf_nn, List.getElem?_cons_zero, List.getElem?_cons_succ, w32_id, w64_id, ite_t, ite_f, Int.toNat_add, Int.toNat_mul, dec_t, dec_f, sC_27, e2, lC]
          · clear h5 ad ih
            generalize emM k4 (t + j4) 8 0 = k5 at *
            generalize ud k2 0 7 ((a2 : Int) + 1) = k3 at *
            simp -implicitDefEqProofs (disch := omega) [bX12_test, v_cop, v_c1, v_c2, v_c3, v_c4, v_c5, v_bin, v_bn, v_bn2, v_div, v_dv, v_dv2, v_une, v_un, v_loc, v_num, v_get, v_gt, v_ald, v_al, v_al2, v_len, v_ln, v_rl0, v_rl1, v_rl2, v_rl3, v_rl4, v_rl5, v_cmp, v_cp, v_cp2, v_zC, v_zc, v_con, v_kc, v_and, v_an1, v_an0, v_or, v_or1, v_or0, v_not, v_nt, v_boo, v_bo, v_cnd, v_cd1, v_cd0, v_cnc, v_cc1, v_cc0, v_ev0, v_ev, v_e1, v_e2, v_cve, v_cv, v_cse, v_cs, v_skip, v_seq, v_sq0, v_sq1, v_sqr, v_sts, v_st, v_inc, v_put, v_pt, v_pt2, v_fop, v_fo, v_fo2, v_ast, v_as, v_as2, v_as3, v_aop, v_ao, v_ao2, v_ao3, v_exs, v_ex, v_ifs, v_if1, v_if0, v_ret, v_rt, v_rez, v_rz, v_rev, v_brk, v_sws, v_sw, v_sw2, v_run, v_rb, v_turn, v_tu1, v_tu0, v_tu2, v_tu3, fst1, snd1, Option.map_some, Option.getD_some, enA, en, stE, okb, narV, rf_toNat, rf_nn, List.getElem?_cons_zero, List.getElem?_cons_succ, w32_id, w64_id, ite_t, ite_f, Int.toNat_add, Int.toNat_mul, dec_t, dec_f, sM_0, e3, i60, s60, s61, e6, em]
      · rcases op with o | o
        · rw [o] at t2' lv
          rw [show lvO 60 = 1 from by decide] at lv
          obtain ⟨k5, em, fx2, -⟩ := fx.emit (o := 7) (v := 0) (a := a2) (Nat.le_refl _) (by omega) lT.2
          rw [if_pos ⟨rfl, o⟩] at i60
          rw [if_pos ⟨rfl, o⟩, if_pos ⟨rfl, o⟩] at s60
          refine .inr ⟨m4, k5, ?_, ?_, fx2.le l1 l2⟩
          · clear ih fx fx2
            have lC : loopS 2 3 (kX8_readJoined_0c (gGX8_readJoined x)) (kX8_readJoined_0b (gGX8_readJoined x)) (kX8_readJoined_0u (gGX8_readJoined x)) shC [(2, rf 27), (0, 1), (0, (w : Int)), (0, 1), (0, 0), (3, 0)] m2 = some (1, 0, [(2, rf 27), (0, 1), (0, (w : Int)), (0, 1), (0, 0), (0, 60)], m4) := turn_end (by
              simp -implicitDefEqProofs (disch := omega) [kX8_readJoined_0c, kX8_readJoined_0b, kX8_readJoined_0u, v_cop, v_c1, v_c2, v_c3, v_c4, v_c5, v_bin, v_bn, v_bn2, v_div, v_dv, v_dv2, v_une, v_un, v_loc, v_num, v_get, v_gt, v_ald, v_al, v_al2, v_len, v_ln, v_rl0, v_rl1, v_rl2, v_rl3, v_rl4, v_rl5, v_cmp, v_cp, v_cp2, v_zC, v_zc, v_con, v_kc, v_and, v_an1, v_an0, v_or, v_or1, v_or0, v_not, v_nt, v_boo, v_bo, v_cnd, v_cd1, v_cd0, v_cnc, v_cc1, v_cc0, v_ev0, v_ev, v_e1, v_e2, v_cve, v_cv, v_cse, v_cs, v_skip, v_seq, v_sq0, v_sq1, v_sqr, v_sts, v_st, v_inc, v_put, v_pt, v_pt2, v_fop, v_fo, v_fo2, v_ast, v_as, v_as2, v_as3, v_aop, v_ao, v_ao2, v_ao3, v_exs, v_ex, v_ifs, v_if1, v_if0, v_ret, v_rt, v_rez, v_rz, v_rev, v_brk, v_sws, v_sw, v_sw2, v_run, v_rb, v_turn, v_tu1, v_tu0, v_tu2, v_tu3, fst1, snd1, Option.map_some, Option.getD_some, enA, en, stE, okb, narV, rf_toNat, rf_nn, List.getElem?_cons_zero, List.getElem?_cons_succ, w32_id, w64_id, ite_t, ite_f, Int.toNat_add, Int.toNat_mul, dec_t, dec_f, sC_27, sC_1, r0, t2', lv, e4, e5])
            simp -implicitDefEqProofs (disch := omega) [bX8_readJoined, kX8_readJoined_0, v_cop, v_c1, v_c2, v_c3, v_c4, v_c5, v_bin, v_bn, v_bn2, v_div, v_dv, v_dv2, v_une, v_un, v_loc, v_num, v_get, v_gt, v_ald, v_al, v_al2, v_len, v_ln, v_rl0, v_rl1, v_rl2, v_rl3, v_rl4, v_rl5, v_cmp, v_cp, v_cp2, v_zC, v_zc, v_con, v_kc, v_and, v_an1, v_an0, v_or, v_or1, v_or0, v_not, v_nt, v_boo, v_bo, v_cnd, v_cd1, v_cd0, v_cnc, v_cc1, v_cc0, v_ev0, v_ev, v_e1, v_e2, v_cve, v_cv, v_cse, v_cs, v_skip, v_seq, v_sq0, v_sq1, v_sqr, v_sts, v_st, v_inc, v_put, v_pt, v_pt2, v_fop, v_fo, v_fo2, v_ast, v_as, v_as2, v_as3, v_aop, v_ao, v_ao2, v_ao3, v_exs, v_ex, v_ifs, v_if1, v_if0, v_ret, v_rt, v_rez, v_rz, v_rev, v_brk, v_sws, v_sw, v_sw2, v_run, v_rb, v_turn, v_tu1, v_tu0, v_tu2, v_tu3, fst1, snd1, Option.map_some, Option.getD_some, enA, en, stE, okb, narV, rf_toNat, rf_nn, List.getElem?_cons_zero, List.getElem?_cons_succ, w32_id, w64_id, ite_t, ite_f, Int.toNat_add, Int.toNat_mul, dec_t, dec_f, sC_27, e2, lC]
          · clear ih fx fx2
            generalize ud k2 0 7 ((a2 : Int) + 1) = k3 at *
            simp -implicitDefEqProofs (disch := omega) [bX12_test, v_cop, v_c1, v_c2, v_c3, v_c4, v_c5, v_bin, v_bn, v_bn2, v_div, v_dv, v_dv2, v_une, v_un, v_loc, v_num, v_get, v_gt, v_ald, v_al, v_al2, v_len, v_ln, v_rl0, v_rl1, v_rl2, v_rl3, v_rl4, v_rl5, v_cmp, v_cp, v_cp2, v_zC, v_zc, v_con, v_kc, v_and, v_an1, v_an0, v_or, v_or1, v_or0, v_not, v_nt, v_boo, v_bo, v_cnd, v_cd1, v_cd0, v_cnc, v_cc1, v_cc0, v_ev0, v_ev, v_e1, v_e2, v_cve, v_cv, v_cse, v_cs, v_skip, v_seq, v_sq0, v_sq1, v_sqr, v_sts, v_st, v_inc, v_put, v_pt, v_pt2, v_fop, v_fo, v_fo2, v_ast, v_as, v_as2, v_as3, v_aop, v_ao, v_ao2, v_ao3, v_exs, v_ex, v_ifs, v_if1, v_if0, v_ret, v_rt, v_rez, v_rz, v_rev, v_brk, v_sws, v_sw, v_sw2, v_run, v_rb, v_turn, v_tu1, v_tu0, v_tu2, v_tu3, fst1, snd1, Option.map_some, Option.getD_some, enA, en, stE, okb, narV, rf_toNat, rf_nn, List.getElem?_cons_zero, List.getElem?_cons_succ, w32_id, w64_id, ite_t, ite_f, Int.toNat_add, Int.toNat_mul, dec_t, dec_f, sM_0, e3, i60, s60, e6, em]
        · rw [o] at t2' lv
          rw [show lvO 61 = 1 from by decide] at lv
          obtain ⟨k5, em, fx2, -⟩ := fx.emit (o := 8) (v := 0) (a := a2) (Nat.le_refl _) (by omega) lT.2
          have n60 : ¬ tkA c N a2 = 60 := by omega
          rw [if_neg (fun q => n60 q.2)] at i60
          rw [if_neg (fun q => n60 q.2), if_neg (fun q => n60 q.2)] at s60
          rw [if_pos ⟨rfl, o⟩, if_pos ⟨rfl, o⟩] at s61
          refine .inr ⟨m4, k5, ?_, ?_, fx2.le l1 l2⟩
          · clear ih fx fx2
            have lC : loopS 2 3 (kX8_readJoined_0c (gGX8_readJoined x)) (kX8_readJoined_0b (gGX8_readJoined x)) (kX8_readJoined_0u (gGX8_readJoined x)) shC [(2, rf 27), (0, 1), (0, (w : Int)), (0, 1), (0, 0), (3, 0)] m2 = some (1, 0, [(2, rf 27), (0, 1), (0, (w : Int)), (0, 1), (0, 0), (0, 61)], m4) := turn_end (by
              simp -implicitDefEqProofs (disch := omega) [kX8_readJoined_0c, kX8_readJoined_0b, kX8_readJoined_0u, v_cop, v_c1, v_c2, v_c3, v_c4, v_c5, v_bin, v_bn, v_bn2, v_div, v_dv, v_dv2, v_une, v_un, v_loc, v_num, v_get, v_gt, v_ald, v_al, v_al2, v_len, v_ln, v_rl0, v_rl1, v_rl2, v_rl3, v_rl4, v_rl5, v_cmp, v_cp, v_cp2, v_zC, v_zc, v_con, v_kc, v_and, v_an1, v_an0, v_or, v_or1, v_or0, v_not, v_nt, v_boo, v_bo, v_cnd, v_cd1, v_cd0, v_cnc, v_cc1, v_cc0, v_ev0, v_ev, v_e1, v_e2, v_cve, v_cv, v_cse, v_cs, v_skip, v_seq, v_sq0, v_sq1, v_sqr, v_sts, v_st, v_inc, v_put, v_pt, v_pt2, v_fop, v_fo, v_fo2, v_ast, v_as, v_as2, v_as3, v_aop, v_ao, v_ao2, v_ao3, v_exs, v_ex, v_ifs, v_if1, v_if0, v_ret, v_rt, v_rez, v_rz, v_rev, v_brk, v_sws, v_sw, v_sw2, v_run, v_rb, v_turn, v_tu1, v_tu0, v_tu2, v_tu3, fst1, snd1, Option.map_some, Option.getD_some, enA, en, stE, okb, narV, rf_toNat, rf_nn, List.getElem?_cons_zero, List.getElem?_cons_succ, w32_id, w64_id, ite_t, ite_f, Int.toNat_add, Int.toNat_mul, dec_t, dec_f, sC_27, sC_1, r0, t2', lv, e4, e5])
            simp -implicitDefEqProofs (disch := omega) [bX8_readJoined, kX8_readJoined_0, v_cop, v_c1, v_c2, v_c3, v_c4, v_c5, v_bin, v_bn, v_bn2, v_div, v_dv, v_dv2, v_une, v_un, v_loc, v_num, v_get, v_gt, v_ald, v_al, v_al2, v_len, v_ln, v_rl0, v_rl1, v_rl2, v_rl3, v_rl4, v_rl5, v_cmp, v_cp, v_cp2, v_zC, v_zc, v_con, v_kc, v_and, v_an1, v_an0, v_or, v_or1, v_or0, v_not, v_nt, v_boo, v_bo, v_cnd, v_cd1, v_cd0, v_cnc, v_cc1, v_cc0, v_ev0, v_ev, v_e1, v_e2, v_cve, v_cv, v_cse, v_cs, v_skip, v_seq, v_sq0, v_sq1, v_sqr, v_sts, v_st, v_inc, v_put, v_pt, v_pt2, v_fop, v_fo, v_fo2, v_ast, v_as, v_as2, v_as3, v_aop, v_ao, v_ao2, v_ao3, v_exs, v_ex, v_ifs, v_if1, v_if0, v_ret, v_rt, v_rez, v_rz, v_rev, v_brk, v_sws, v_sw, v_sw2, v_run, v_rb, v_turn, v_tu1, v_tu0, v_tu2, v_tu3, fst1, snd1, Option.map_some, Option.getD_some, enA, en, stE, okb, narV, rf_toNat, rf_nn, List.getElem?_cons_zero, List.getElem?_cons_succ, w32_id, w64_id, ite_t, ite_f, Int.toNat_add, Int.toNat_mul, dec_t, dec_f, sC_27, e2, lC]
          · clear ih fx fx2
            generalize ud k2 0 7 ((a2 : Int) + 1) = k3 at *
            simp -implicitDefEqProofs (disch := omega) [bX12_test, v_cop, v_c1, v_c2, v_c3, v_c4, v_c5, v_bin, v_bn, v_bn2, v_div, v_dv, v_dv2, v_une, v_un, v_loc, v_num, v_get, v_gt, v_ald, v_al, v_al2, v_len, v_ln, v_rl0, v_rl1, v_rl2, v_rl3, v_rl4, v_rl5, v_cmp, v_cp, v_cp2, v_zC, v_zc, v_con, v_kc, v_and, v_an1, v_an0, v_or, v_or1, v_or0, v_not, v_nt, v_boo, v_bo, v_cnd, v_cd1, v_cd0, v_cnc, v_cc1, v_cc0, v_ev0, v_ev, v_e1, v_e2, v_cve, v_cv, v_cse, v_cs, v_skip, v_seq, v_sq0, v_sq1, v_sqr, v_sts, v_st, v_inc, v_put, v_pt, v_pt2, v_fop, v_fo, v_fo2, v_ast, v_as, v_as2, v_as3, v_aop, v_ao, v_ao2, v_ao3, v_exs, v_ex, v_ifs, v_if1, v_if0, v_ret, v_rt, v_rez, v_rz, v_rev, v_brk, v_sws, v_sw, v_sw2, v_run, v_rb, v_turn, v_tu1, v_tu0, v_tu2, v_tu3, fst1, snd1, Option.map_some, Option.getD_some, enA, en, stE, okb, narV, rf_toNat, rf_nn, List.getElem?_cons_zero, List.getElem?_cons_succ, w32_id, w64_id, ite_t, ite_f, Int.toNat_add, Int.toNat_mul, dec_t, dec_f, sM_0, e3, i60, s60, s61, e6, em]
    · have lvl := lv_n1 op
      have n60 : ¬ tkA c N a2 = 60 := fun z => op (.inl z)
      have n61 : ¬ tkA c N a2 = 61 := fun z => op (.inr z)
      rw [if_neg (fun q => n60 q.2)] at i60
      rw [if_neg (fun q => n60 q.2), if_neg (fun q => n60 q.2)] at s60
      rw [if_neg (fun q => n61 q.2), if_neg (fun q => n61 q.2)] at s61
      refine .inl ⟨a2, j2, m2, k2, ?_, ?_, h2, l1, l2⟩
      · clear ih op n60 n61
        generalize lvO (tkA c N a2) = V at *
        have lC : loopS 2 3 (kX8_readJoined_0c (gGX8_readJoined x)) (kX8_readJoined_0b (gGX8_readJoined x)) (kX8_readJoined_0u (gGX8_readJoined x)) shC [(2, rf 27), (0, 1), (0, (w : Int)), (0, 1), (0, 0), (3, 0)] m2 = some (0, 0, [(2, rf 27), (0, 1), (0, (w : Int)), (0, 1), (0, 0), (3, 0)], m2) := turn_end (by
          simp -implicitDefEqProofs (disch := omega) [kX8_readJoined_0c, v_cop, v_c1, v_c2, v_c3, v_c4, v_c5, v_bin, v_bn, v_bn2, v_div, v_dv, v_dv2, v_une, v_un, v_loc, v_num, v_get, v_gt, v_ald, v_al, v_al2, v_len, v_ln, v_rl0, v_rl1, v_rl2, v_rl3, v_rl4, v_rl5, v_cmp, v_cp, v_cp2, v_zC, v_zc, v_con, v_kc, v_and, v_an1, v_an0, v_or, v_or1, v_or0, v_not, v_nt, v_boo, v_bo, v_cnd, v_cd1, v_cd0, v_cnc, v_cc1, v_cc0, v_ev0, v_ev, v_e1, v_e2, v_cve, v_cv, v_cse, v_cs, v_skip, v_seq, v_sq0, v_sq1, v_sqr, v_sts, v_st, v_inc, v_put, v_pt, v_pt2, v_fop, v_fo, v_fo2, v_ast, v_as, v_as2, v_as3, v_aop, v_ao, v_ao2, v_ao3, v_exs, v_ex, v_ifs, v_if1, v_if0, v_ret, v_rt, v_rez, v_rz, v_rev, v_brk, v_sws, v_sw, v_sw2, v_run, v_rb, v_turn, v_tu1, v_tu0, v_tu2, v_tu3, fst1, snd1, Option.map_some, Option.getD_some, enA, en, stE, okb, narV, rf_toNat, rf_nn, List.getElem?_cons_zero, List.getElem?_cons_succ, w32_id, w64_id, ite_t, ite_f, Int.toNat_add, Int.toNat_mul, dec_t, dec_f, sC_27, sC_1, r0, t2', lv, lvl])
        simp -implicitDefEqProofs (disch := omega) [bX8_readJoined, kX8_readJoined_0, v_cop, v_c1, v_c2, v_c3, v_c4, v_c5, v_bin, v_bn, v_bn2, v_div, v_dv, v_dv2, v_une, v_un, v_loc, v_num, v_get, v_gt, v_ald, v_al, v_al2, v_len, v_ln, v_rl0, v_rl1, v_rl2, v_rl3, v_rl4, v_rl5, v_cmp, v_cp, v_cp2, v_zC, v_zc, v_con, v_kc, v_and, v_an1, v_an0, v_or, v_or1, v_or0, v_not, v_nt, v_boo, v_bo, v_cnd, v_cd1, v_cd0, v_cnc, v_cc1, v_cc0, v_ev0, v_ev, v_e1, v_e2, v_cve, v_cv, v_cse, v_cs, v_skip, v_seq, v_sq0, v_sq1, v_sqr, v_sts, v_st, v_inc, v_put, v_pt, v_pt2, v_fop, v_fo, v_fo2, v_ast, v_as, v_as2, v_as3, v_aop, v_ao, v_ao2, v_ao3, v_exs, v_ex, v_ifs, v_if1, v_if0, v_ret, v_rt, v_rez, v_rz, v_rev, v_brk, v_sws, v_sw, v_sw2, v_run, v_rb, v_turn, v_tu1, v_tu0, v_tu2, v_tu3, fst1, snd1, Option.map_some, Option.getD_some, enA, en, stE, okb, narV, rf_toNat, rf_nn, List.getElem?_cons_zero, List.getElem?_cons_succ, w32_id, w64_id, ite_t, ite_f, Int.toNat_add, Int.toNat_mul, dec_t, dec_f, sC_27, e2, lC]
      · clear ih
        simp -implicitDefEqProofs (disch := omega) [bX12_test, v_cop, v_c1, v_c2, v_c3, v_c4, v_c5, v_bin, v_bn, v_bn2, v_div, v_dv, v_dv2, v_une, v_un, v_loc, v_num, v_get, v_gt, v_ald, v_al, v_al2, v_len, v_ln, v_rl0, v_rl1, v_rl2, v_rl3, v_rl4, v_rl5, v_cmp, v_cp, v_cp2, v_zC, v_zc, v_con, v_kc, v_and, v_an1, v_an0, v_or, v_or1, v_or0, v_not, v_nt, v_boo, v_bo, v_cnd, v_cd1, v_cd0, v_cnc, v_cc1, v_cc0, v_ev0, v_ev, v_e1, v_e2, v_cve, v_cv, v_cse, v_cs, v_skip, v_seq, v_sq0, v_sq1, v_sqr, v_sts, v_st, v_inc, v_put, v_pt, v_pt2, v_fop, v_fo, v_fo2, v_ast, v_as, v_as2, v_as3, v_aop, v_ao, v_ao2, v_ao3, v_exs, v_ex, v_ifs, v_if1, v_if0, v_ret, v_rt, v_rez, v_rz, v_rev, v_brk, v_sws, v_sw, v_sw2, v_run, v_rb, v_turn, v_tu1, v_tu0, v_tu2, v_tu3, fst1, snd1, Option.map_some, Option.getD_some, enA, en, stE, okb, narV, rf_toNat, rf_nn, List.getElem?_cons_zero, List.getElem?_cons_succ, w32_id, w64_id, ite_t, ite_f, Int.toNat_add, Int.toNat_mul, dec_t, dec_f, sM_0, e3, i60, s60, s61]
  · obtain ⟨F, b3, z1, z2, mq3⟩ := fx_f fx
    have i60 := r_isSig (x := 60) mq3 z2 (by decide)
    have s60 := r_hasSign (x := 60) mq3 z2 (by decide)
    have s61 := r_hasSign (x := 61) mq3 z2 (by decide)
    rw [if_neg (by omega)] at i60
    rw [if_neg (by omega), if_neg (by omega)] at s60 s61
    refine .inr ⟨m2, k2, ?_, ?_, fx⟩
    · clear ih
      simp -implicitDefEqProofs (disch := omega) [bX8_readJoined, v_cop, v_c1, v_c2, v_c3, v_c4, v_c5, v_bin, v_bn, v_bn2, v_div, v_dv, v_dv2, v_une, v_un, v_loc, v_num, v_get, v_gt, v_ald, v_al, v_al2, v_len, v_ln, v_rl0, v_rl1, v_rl2, v_rl3, v_rl4, v_rl5, v_cmp, v_cp, v_cp2, v_zC, v_zc, v_con, v_kc, v_and, v_an1, v_an0, v_or, v_or1, v_or0, v_not, v_nt, v_boo, v_bo, v_cnd, v_cd1, v_cd0, v_cnc, v_cc1, v_cc0, v_ev0, v_ev, v_e1, v_e2, v_cve, v_cv, v_cse, v_cs, v_skip, v_seq, v_sq0, v_sq1, v_sqr, v_sts, v_st, v_inc, v_put, v_pt, v_pt2, v_fop, v_fo, v_fo2, v_ast, v_as, v_as2, v_as3, v_aop, v_ao, v_ao2, v_ao3, v_exs, v_ex, v_ifs, v_if1, v_if0, v_ret, v_rt, v_rez, v_rz, v_rev, v_brk, v_sws, v_sw, v_sw2, v_run, v_rb, v_turn, v_tu1, v_tu0, v_tu2, v_tu3, fst1, snd1, Option.map_some, Option.getD_some, enA, en, stE, okb, narV, rf_toNat, rf_nn, List.getElem?_cons_zero, List.getElem?_cons_succ, w32_id, w64_id, ite_t, ite_f, Int.toNat_add, Int.toNat_mul, dec_t, dec_f, sC_27, e2]
    · clear ih
      simp -implicitDefEqProofs (disch := omega) [bX12_test, v_cop, v_c1, v_c2, v_c3, v_c4, v_c5, v_bin, v_bn, v_bn2, v_div, v_dv, v_dv2, v_une, v_un, v_loc, v_num, v_get, v_gt, v_ald, v_al, v_al2, v_len, v_ln, v_rl0, v_rl1, v_rl2, v_rl3, v_rl4, v_rl5, v_cmp, v_cp, v_cp2, v_zC, v_zc, v_con, v_kc, v_and, v_an1, v_an0, v_or, v_or1, v_or0, v_not, v_nt, v_boo, v_bo, v_cnd, v_cd1, v_cd0, v_cnc, v_cc1, v_cc0, v_ev0, v_ev, v_e1, v_e2, v_cve, v_cv, v_cse, v_cs, v_skip, v_seq, v_sq0, v_sq1, v_sqr, v_sts, v_st, v_inc, v_put, v_pt, v_pt2, v_fop, v_fo, v_fo2, v_ast, v_as, v_as2, v_as3, v_aop, v_ao, v_ao2, v_ao3, v_exs, v_ex, v_ifs, v_if1, v_if0, v_ret, v_rt, v_rez, v_rz, v_rev, v_brk, v_sws, v_sw, v_sw2, v_run, v_rb, v_turn, v_tu1, v_tu0, v_tu2, v_tu3, fst1, snd1, Option.map_some, Option.getD_some, enA, en, stE, okb, narV, rf_toNat, rf_nn, List.getElem?_cons_zero, List.getElem?_cons_succ, w32_id, w64_id, ite_t, ite_f, Int.toNat_add, Int.toNat_mul, dec_t, dec_f, sM_0, e3, i60, s60, s61]
set_option maxRecDepth 100000 in theorem b_lev {mC mM bC bM : Mem} {c : Nat → Int} {N T d cc t w x y : Nat} {W : List Int} {s : Int} (w5 : w ≤ 5) (ih : EPd mC mM bC bM c N T d cc W t s w x y) : EJd mC mM bC bM c N T d cc W t s 0 0 w (x + 1 + 1 + 1 + 1 + 1) (y + 1 + 1 + 1 + 1) := b_lev0 w5 (b_lev1 w5 (b_lev2 w5 (b_lev3 w5 (b_lev4 ih))))
set_option maxRecDepth 100000 in theorem b_parts {mC mM bC bM : Mem} {c : Nat → Int} {N T d cc t : Nat} {W : List Int} {s : Int} : ∀ k, k ≤ 5 → ∀ x y, 6 * k + 1 ≤ x → 5 * k + 1 ≤ y → EPd mC mM bC bM c N T d cc W t s (5 - k) x y
  | 0, _, x, y, hx, hy => by
    obtain ⟨x, rfl⟩ : ∃ z, x = z + 1 := ⟨x - 1, by omega⟩
    obtain ⟨y, rfl⟩ : ∃ z, y = z + 1 := ⟨y - 1, by omega⟩
    exact b_part5 x y
  | k + 1, hk, x, y, hx, hy => by
    obtain ⟨x, rfl⟩ : ∃ z, x = z + 1 + 1 + 1 + 1 + 1 + 1 := ⟨x - 6, by omega⟩
    obtain ⟨y, rfl⟩ : ∃ z, y = z + 1 + 1 + 1 + 1 + 1 := ⟨y - 5, by omega⟩
    have i1 := b_parts (mC := mC) (mM := mM) (bC := bC) (bM := bM) (c := c) (N := N) (T := T) (d := d) (cc := cc) (t := t) (W := W) (s := s) k (by omega) (x + 1 + 1 + 1 + 1 + 1) (y + 1 + 1 + 1 + 1) (by omega) (by omega)
    have i2 := b_parts (mC := mC) (mM := mM) (bC := bC) (bM := bM) (c := c) (N := N) (T := T) (d := d) (cc := cc) (t := t) (W := W) (s := s) k (by omega) x y (by omega) (by omega)
    have e : 5 - k = 5 - (k + 1) + 1 := by omega
    rw [e] at i1 i2
    exact b_part (by omega) i1 (b_lev (by omega) i2)
set_option maxRecDepth 100000 in theorem b_law {mC mM bC bM : Mem} {c : Nat → Int} {N T d cc t : Nat} {W : List Int} {s : Int} : EJd mC mM bC bM c N T d cc W t s 0 0 0 40 40 := b_lev (x := 35) (y := 36) (by decide) (b_parts 5 (by decide) 35 36 (by decide) (by decide))
set_option maxRecDepth 100000 in theorem PG.of {W : List Int} {op arg op' arg' : Nat → Int} {t n : Nat} (h : PG W op arg t n) (e7 : ∀ i, i ≤ t + n → op' i = op i) (e8 : ∀ i, i < t + n → arg' i = arg i) : PG W op' arg' t n := by
  have ed : ∀ i, i ≤ n → dpt op' t i = dpt op t i := fun i hi => dpt_congr i (fun k hk => e7 _ (by omega))
  refine ⟨h.le, h.n0, fun i hi => by rw [e7 _ (by omega), e8 _ (by omega)]; exact h.ok i hi, by rw [e7 _ (by omega)]; exact h.e0, fun i hi => ?_, by rw [ed _ (Nat.le_refl _)]; exact h.d1⟩
  rw [e7 _ (by omega), ed i (by omega)]
  exact h.up i hi
set_option maxRecDepth 100000 in theorem LT.ref {μ : Mem} {cc K K' : Nat} {W : List Int} {D s : Int} {op arg op' arg' : Nat → Int} (q : LT μ cc W D op arg s K) (hK : K ≤ K') (e7 : ∀ i, i < K → op' i = op i) (e8 : ∀ i, i < K → arg' i = arg i) : LT μ cc W D op' arg' s K' := by
  rcases q with h | ⟨h0, t, n, h1, h2, h3, h4, h5⟩
  · exact .inl h
  · exact .inr ⟨h0, t, n, h1, h2.of (fun i hi => e7 i (by omega)) (fun i hi => e8 i (by omega)), by omega, h4, fun i hi => by rw [e7 _ (by omega), e8 _ (by omega)]; exact h5 i hi⟩
set_option maxRecDepth 100000 in theorem FX.fo {mC mM μC μM : Mem} {c : Nat → Int} {N T d t a j : Nat} (h : FX mC mM c N T d t a j μC μM) (hta : t + j ≤ a) : FO mC mM μC μM c N T d := by
  obtain ⟨F, b, K, g1, g2, g3, g4, g5, g6, g7, g8, g9⟩ := h
  exact ⟨F, b, K, g1, g2, g3, g4, g5, by omega, g8, g9⟩
