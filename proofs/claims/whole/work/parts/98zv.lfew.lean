/-! few looks: the class's count -/
set_option maxRecDepth 100000 in theorem c_few {μ : Mem} {S : Nat → Nat} {n K d c : Nat} {G : Nat → Nat} (C : ClkG μ S n K G) (ih : ClkF μ S n K d c) : ClkF μ S n K (d + 2) (c + 1) := by
  intro r o m hr hp ho L
  have C' := C
  obtain ⟨D, B, c1, c2, c3, c4⟩ := C'
  have r16 := K16 D.1 hr
  have f0 : gGX5_afterLook (d + 2) 1 = runB 7 (bX5_fewest (gGX5_afterLook (d + 1))) := rfl
  rw [f0]
  have eb := f_bitCount16 (sh := shC) (μ := m) r16
  by_cases b1 : pcN 16 r ≤ 1
  · refine ⟨m, ?_, L⟩
    rw [lk_eq r16, if_pos b1]
    clear c3 c4
    generalize pcN 16 r = pcx at *
    simp -implicitDefEqProofs (disch := omega) [bX5_fewest, v_cop, v_c1, v_c2, v_c3, v_c4, v_c5, v_bin, v_bn, v_bn2, v_div, v_dv, v_dv2, v_une, v_un, v_loc, v_num, v_get, v_gt, v_ald, v_al, v_al2, v_len, v_ln, v_rl0, v_rl1, v_rl2, v_rl3, v_rl4, v_rl5, v_cmp, v_cp, v_cp2, v_zC, v_zc, v_con, v_kc, v_and, v_an1, v_an0, v_or, v_or1, v_or0, v_not, v_nt, v_boo, v_bo, v_cnd, v_cd1, v_cd0, v_cnc, v_cc1, v_cc0, v_ev0, v_ev, v_e1, v_e2, v_cve, v_cv, v_cse, v_cs, v_skip, v_seq, v_sq0, v_sq1, v_sqr, v_sts, v_st, v_inc, v_put, v_pt, v_pt2, v_fop, v_fo, v_fo2, v_ast, v_as, v_as2, v_as3, v_aop, v_ao, v_ao2, v_ao3, v_exs, v_ex, v_ifs, v_if1, v_if0, v_ret, v_rt, v_rez, v_rz, v_rev, v_brk, v_sws, v_sw, v_sw2, v_run, v_rb, v_turn, v_tu1, v_tu0, v_tu2, v_tu3, fst1, snd1, Option.map_some, Option.getD_some, enA, en, stE, okb, narV, rf_toNat, rf_nn, List.getElem?_cons_zero, List.getElem?_cons_succ, w32_id, w64_id, ite_t, ite_f, Int.toNat_add, Int.toNat_mul, dec_t, dec_f, eb]
  · have p2 : ∀ m, ClkS μ S n K m → m 114 2 = rf 116 := fun m L => by rw [L.1 _ _ (by omega)]; exact c2
    have q2 := p2 m L
    have s4 := ishr4 r16
    have a15 := iand15 r16
    have lk := lk_15 D hr
    have lk1 := (lkm_b D 16 r hr (pc_le 16 r)).2 (by omega)
    have sh4 : ((r % 16 : Nat) : Int) * 4 = ((4 * (r % 16) : Nat) : Int) := by omega
    have sh5 : 0 ≤ ((r % 16 : Nat) : Int) ∧ ((r % 16 : Nat) : Int) < 16 := by omega
    have nd : ∀ v : Int, o_iand (w32 (o_lushr v ((4 * (r % 16) : Nat) : Int))) 15 = nib v (r % 16) := fun v => rfl
    have er : 16 * (r / 16) + r % 16 = r := by omega
    have mem := L.2 (r / 16) (r % 16) (by omega) (by rw [er]; exact hr)
    rw [er] at mem
    have w4 : ((r / 16 : Nat) : Int) < 4096 := by omega
    have w0 : 0 ≤ ((r / 16 : Nat) : Int) := by omega
    have wt : (((r / 16 : Nat) : Int)).toNat = r / 16 := Int.toNat_natCast _
    by_cases b2 : nib (m 116 (r / 16)) (r % 16) = 0
    · obtain ⟨env', m', lp, ⟨e0, L'⟩⟩ := loop_n (kb := 2) (kc := 3) (c := kX5_fewest_0c (gGX5_afterLook (d + 1))) (body := kX5_fewest_0b (gGX5_afterLook (d + 1))) (upd := kX5_fewest_0u (gGX5_afterLook (d + 1))) (sh := shC) (n := 16) (fun j env k => env = [(2, rf 114), (0, (r : Int)), (0, (o : Int)), (0, ((4 * (r % 16) : Nat) : Int)), (0, 0), (0, ((minN (clV S n K G r) 16 j : Nat) : Int)), (0, (j : Int))] ∧ ClkS μ S n K k ∧ nib (k 116 (r / 16)) (r % 16) = nib (k 116 (r / 16)) (r % 16)) (by
        rintro j env k hj ⟨rfl, Lk, -⟩
        have et := c_tells (r := r) C Lk hj r16
        rw [minN_s]
        have mc := min_c (F := clV S n K G r) (c := 16) j
        generalize ((4 * (r % 16) : Nat) : Int) = SH at *
        by_cases t : r &&& G j ≠ 0 ∧ andn r (G j) ≠ 0
        · obtain ⟨k', e1, Lk'⟩ := c_after C ih hr hj hp ho t.1 t.2 Lk
          rw [if_pos t] at et
          refine ⟨[(2, rf 114), (0, (r : Int)), (0, (o : Int)), (0, SH), (0, 0), (0, (((if clV S n K G r j < minN (clV S n K G r) 16 j then clV S n K G r j else minN (clV S n K G r) 16 j) : Nat) : Int)), (0, ((j + 1 : Nat) : Int))], k', ?_, rfl, Lk', rfl⟩
          generalize minN (clV S n K G r) 16 j = X at *
          generalize clV S n K G r j = Y at *
          clear c3 c4 nd mem b2 p2
          by_cases c : Y < X
          · rw [if_pos c]
            simp -implicitDefEqProofs (disch := omega) [kX5_fewest_0c, kX5_fewest_0b, kX5_fewest_0u, v_cop, v_c1, v_c2, v_c3, v_c4, v_c5, v_bin, v_bn, v_bn2, v_div, v_dv, v_dv2, v_une, v_un, v_loc, v_num, v_get, v_gt, v_ald, v_al, v_al2, v_len, v_ln, v_rl0, v_rl1, v_rl2, v_rl3, v_rl4, v_rl5, v_cmp, v_cp, v_cp2, v_zC, v_zc, v_con, v_kc, v_and, v_an1, v_an0, v_or, v_or1, v_or0, v_not, v_nt, v_boo, v_bo, v_cnd, v_cd1, v_cd0, v_cnc, v_cc1, v_cc0, v_ev0, v_ev, v_e1, v_e2, v_cve, v_cv, v_cse, v_cs, v_skip, v_seq, v_sq0, v_sq1, v_sqr, v_sts, v_st, v_inc, v_put, v_pt, v_pt2, v_fop, v_fo, v_fo2, v_ast, v_as, v_as2, v_as3, v_aop, v_ao, v_ao2, v_ao3, v_exs, v_ex, v_ifs, v_if1, v_if0, v_ret, v_rt, v_rez, v_rz, v_rev, v_brk, v_sws, v_sw, v_sw2, v_run, v_rb, v_turn, v_tu1, v_tu0, v_tu2, v_tu3, fst1, snd1, Option.map_some, Option.getD_some, enA, en, stE, okb, narV, rf_toNat, rf_nn, List.getElem?_cons_zero, List.getElem?_cons_succ, w32_id, w64_id, ite_t, ite_f, Int.toNat_add, Int.toNat_mul, dec_t, dec_f, sC_114, et, e1]
          · rw [if_neg c]
            simp -implicitDefEqProofs (disch := omega) [kX5_fewest_0c, kX5_fewest_0b, kX5_fewest_0u, v_cop, v_c1, v_c2, v_c3, v_c4, v_c5, v_bin, v_bn, v_bn2, v_div, v_dv, v_dv2, v_une, v_un, v_loc, v_num, v_get, v_gt, v_ald, v_al, v_al2, v_len, v_ln, v_rl0, v_rl1, v_rl2, v_rl3, v_rl4, v_rl5, v_cmp, v_cp, v_cp2, v_zC, v_zc, v_con, v_kc, v_and, v_an1, v_an0, v_or, v_or1, v_or0, v_not, v_nt, v_boo, v_bo, v_cnd, v_cd1, v_cd0, v_cnc, v_cc1, v_cc0, v_ev0, v_ev, v_e1, v_e2, v_cve, v_cv, v_cse, v_cs, v_skip, v_seq, v_sq0, v_sq1, v_sqr, v_sts, v_st, v_inc, v_put, v_pt, v_pt2, v_fop, v_fo, v_fo2, v_ast, v_as, v_as2, v_as3, v_aop, v_ao, v_ao2, v_ao3, v_exs, v_ex, v_ifs, v_if1, v_if0, v_ret, v_rt, v_rez, v_rz, v_rev, v_brk, v_sws, v_sw, v_sw2, v_run, v_rb, v_turn, v_tu1, v_tu0, v_tu2, v_tu3, fst1, snd1, Option.map_some, Option.getD_some, enA, en, stE, okb, narV, rf_toNat, rf_nn, List.getElem?_cons_zero, List.getElem?_cons_succ, w32_id, w64_id, ite_t, ite_f, Int.toNat_add, Int.toNat_mul, dec_t, dec_f, sC_114, et, e1]
        · rw [if_neg t] at et
          have cv : clV S n K G r j = 99 := by unfold clV; rw [if_neg t]
          rw [cv, if_neg (by omega)]
          refine ⟨_, k, ?_, rfl, Lk, rfl⟩
          generalize minN (clV S n K G r) 16 j = X at *
          clear c3 c4 nd mem b2 p2
          simp -implicitDefEqProofs (disch := omega) [kX5_fewest_0c, kX5_fewest_0b, kX5_fewest_0u, v_cop, v_c1, v_c2, v_c3, v_c4, v_c5, v_bin, v_bn, v_bn2, v_div, v_dv, v_dv2, v_une, v_un, v_loc, v_num, v_get, v_gt, v_ald, v_al, v_al2, v_len, v_ln, v_rl0, v_rl1, v_rl2, v_rl3, v_rl4, v_rl5, v_cmp, v_cp, v_cp2, v_zC, v_zc, v_con, v_kc, v_and, v_an1, v_an0, v_or, v_or1, v_or0, v_not, v_nt, v_boo, v_bo, v_cnd, v_cd1, v_cd0, v_cnc, v_cc1, v_cc0, v_ev0, v_ev, v_e1, v_e2, v_cve, v_cv, v_cse, v_cs, v_skip, v_seq, v_sq0, v_sq1, v_sqr, v_sts, v_st, v_inc, v_put, v_pt, v_pt2, v_fop, v_fo, v_fo2, v_ast, v_as, v_as2, v_as3, v_aop, v_ao, v_ao2, v_ao3, v_exs, v_ex, v_ifs, v_if1, v_if0, v_ret, v_rt, v_rez, v_rz, v_rev, v_brk, v_sws, v_sw, v_sw2, v_run, v_rb, v_turn, v_tu1, v_tu0, v_tu2, v_tu3, fst1, snd1, Option.map_some, Option.getD_some, enA, en, stE, okb, narV, rf_toNat, rf_nn, List.getElem?_cons_zero, List.getElem?_cons_succ, w32_id, w64_id, ite_t, ite_f, Int.toNat_add, Int.toNat_mul, dec_t, dec_f, sC_114, et]) (by
        rintro env k ⟨rfl, Lk, -⟩
        simp -implicitDefEqProofs (disch := omega) [kX5_fewest_0c, v_cop, v_c1, v_c2, v_c3, v_c4, v_c5, v_bin, v_bn, v_bn2, v_div, v_dv, v_dv2, v_une, v_un, v_loc, v_num, v_get, v_gt, v_ald, v_al, v_al2, v_len, v_ln, v_rl0, v_rl1, v_rl2, v_rl3, v_rl4, v_rl5, v_cmp, v_cp, v_cp2, v_zC, v_zc, v_con, v_kc, v_and, v_an1, v_an0, v_or, v_or1, v_or0, v_not, v_nt, v_boo, v_bo, v_cnd, v_cd1, v_cd0, v_cnc, v_cc1, v_cc0, v_ev0, v_ev, v_e1, v_e2, v_cve, v_cv, v_cse, v_cs, v_skip, v_seq, v_sq0, v_sq1, v_sqr, v_sts, v_st, v_inc, v_put, v_pt, v_pt2, v_fop, v_fo, v_fo2, v_ast, v_as, v_as2, v_as3, v_aop, v_ao, v_ao2, v_ao3, v_exs, v_ex, v_ifs, v_if1, v_if0, v_ret, v_rt, v_rez, v_rz, v_rev, v_brk, v_sws, v_sw, v_sw2, v_run, v_rb, v_turn, v_tu1, v_tu0, v_tu2, v_tu3, fst1, snd1, Option.map_some, Option.getD_some, enA, en, stE, okb, narV, rf_toNat, rf_nn, List.getElem?_cons_zero, List.getElem?_cons_succ, w32_id, w64_id, ite_t, ite_f, Int.toNat_add, Int.toNat_mul, dec_t, dec_f]) (env := [(2, rf 114), (0, (r : Int)), (0, (o : Int)), (0, ((4 * (r % 16) : Nat) : Int)), (0, 0), (0, 16), (0, 0)]) (μ := m) ⟨rfl, L, rfl⟩
      obtain ⟨L', -⟩ := L'
      subst e0
      have cm := cl_min D B hr (by omega)
      rw [cm] at lp
      have q3 := p2 m' L'
      have bb : o_iand ((lkM S n K r : Nat) : Int) 15 = ((lkM S n K r : Nat) : Int) := by
        have := iand15 (r := lkM S n K r) (by omega)
        rw [Nat.mod_eq_of_lt (by omega)] at this
        exact this
      have mem' := L'.2 (r / 16) (r % 16) (by omega) (by rw [er]; exact hr)
      rw [er] at mem'
      have np := nib_put (i := r % 16) (x := lkM S n K r) (v := m' 116 (r / 16)) (by omega) (by omega) mem'
      refine ⟨ud m' 116 (r / 16) (o_lor (m' 116 (r / 16)) (o_lshl ((lkM S n K r : Nat) : Int) ((4 * (r % 16) : Nat) : Int))), ?_, fun x y hx => by rw [ud_c hx]; exact L'.1 x y hx, fun w i hi hwi => ?_⟩
      · clear c3 c4 mem mem' np B cm
        have nd0 := nd (m 116 (r / 16))
        rw [b2] at nd0
        generalize ((4 * (r % 16) : Nat) : Int) = SH at *
        generalize ((r % 16 : Nat) : Int) = R16 at *
        generalize hW : ((r / 16 : Nat) : Int) = W at *
        generalize r / 16 = w at *
        generalize pcN 16 r = pcx at *
        generalize ((lkM S n K r : Nat) : Int) = V at *
        simp -implicitDefEqProofs (disch := omega) [bX5_fewest, kX5_fewest_0, v_cop, v_c1, v_c2, v_c3, v_c4, v_c5, v_bin, v_bn, v_bn2, v_div, v_dv, v_dv2, v_une, v_un, v_loc, v_num, v_get, v_gt, v_ald, v_al, v_al2, v_len, v_ln, v_rl0, v_rl1, v_rl2, v_rl3, v_rl4, v_rl5, v_cmp, v_cp, v_cp2, v_zC, v_zc, v_con, v_kc, v_and, v_an1, v_an0, v_or, v_or1, v_or0, v_not, v_nt, v_boo, v_bo, v_cnd, v_cd1, v_cd0, v_cnc, v_cc1, v_cc0, v_ev0, v_ev, v_e1, v_e2, v_cve, v_cv, v_cse, v_cs, v_skip, v_seq, v_sq0, v_sq1, v_sqr, v_sts, v_st, v_inc, v_put, v_pt, v_pt2, v_fop, v_fo, v_fo2, v_ast, v_as, v_as2, v_as3, v_aop, v_ao, v_ao2, v_ao3, v_exs, v_ex, v_ifs, v_if1, v_if0, v_ret, v_rt, v_rez, v_rz, v_rev, v_brk, v_sws, v_sw, v_sw2, v_run, v_rb, v_turn, v_tu1, v_tu0, v_tu2, v_tu3, fst1, snd1, Option.map_some, Option.getD_some, enA, en, stE, okb, narV, rf_toNat, rf_nn, List.getElem?_cons_zero, List.getElem?_cons_succ, w32_id, w64_id, ite_t, ite_f, Int.toNat_add, Int.toNat_mul, dec_t, dec_f, sC_114, sC_116, eb, a15, sh4, s4, q2, nd0, wt, lp, q3, bb]
      · by_cases cw : w = r / 16
        · subst cw
          rw [ud_s]
          by_cases ci : i = r % 16
          · subst ci
            rw [er]
            exact .inr np
          · rw [nib_off (by omega) hi (by omega) ci]
            exact L'.2 (r / 16) i hi hwi
        · rw [ud_j cw]
          exact L'.2 w i hi hwi
    · have v := mem.resolve_left b2
      refine ⟨m, ?_, L⟩
      have nd0 := nd (m 116 (r / 16))
      rw [v] at nd0
      clear c3 c4 mem B v b2
      generalize ((4 * (r % 16) : Nat) : Int) = SH at *
      generalize ((r % 16 : Nat) : Int) = R16 at *
      generalize hW : ((r / 16 : Nat) : Int) = W at *
      generalize r / 16 = w at *
      generalize pcN 16 r = pcx at *
      generalize hV : ((lkM S n K r : Nat) : Int) = V at *
      have v0 : ¬ V = 0 := by omega
      simp -implicitDefEqProofs (disch := omega) [bX5_fewest, v_cop, v_c1, v_c2, v_c3, v_c4, v_c5, v_bin, v_bn, v_bn2, v_div, v_dv, v_dv2, v_une, v_un, v_loc, v_num, v_get, v_gt, v_ald, v_al, v_al2, v_len, v_ln, v_rl0, v_rl1, v_rl2, v_rl3, v_rl4, v_rl5, v_cmp, v_cp, v_cp2, v_zC, v_zc, v_con, v_kc, v_and, v_an1, v_an0, v_or, v_or1, v_or0, v_not, v_nt, v_boo, v_bo, v_cnd, v_cd1, v_cd0, v_cnc, v_cc1, v_cc0, v_ev0, v_ev, v_e1, v_e2, v_cve, v_cv, v_cse, v_cs, v_skip, v_seq, v_sq0, v_sq1, v_sqr, v_sts, v_st, v_inc, v_put, v_pt, v_pt2, v_fop, v_fo, v_fo2, v_ast, v_as, v_as2, v_as3, v_aop, v_ao, v_ao2, v_ao3, v_exs, v_ex, v_ifs, v_if1, v_if0, v_ret, v_rt, v_rez, v_rz, v_rev, v_brk, v_sws, v_sw, v_sw2, v_run, v_rb, v_turn, v_tu1, v_tu0, v_tu2, v_tu3, fst1, snd1, Option.map_some, Option.getD_some, enA, en, stE, okb, narV, rf_toNat, rf_nn, List.getElem?_cons_zero, List.getElem?_cons_succ, w32_id, w64_id, ite_t, ite_f, Int.toNat_add, Int.toNat_mul, dec_t, dec_f, sC_114, sC_116, eb, a15, sh4, s4, q2, nd0, wt, v0]
set_option maxRecDepth 100000 in theorem c_cf {μ : Mem} {S : Nat → Nat} {n K : Nat} {G : Nat → Nat} (C : ClkG μ S n K G) : ∀ c e, ClkF μ S n K (2 * c + 1 + e) c
  | 0, e => by
    intro r o m hr hp ho L
    have D := C.1
    have z : r = 0 := (pc_pos 16 r (K16 D.1 hr)).mp (by omega)
    subst z
    refine ⟨m, ?_, L⟩
    rw [lk_eq (by omega), if_pos (by omega), show 2 * 0 + 1 + e = e + 1 by omega]
    have f0 : gGX5_afterLook (e + 1) 1 = runB 7 (bX5_fewest (gGX5_afterLook e)) := rfl
    rw [f0]
    have eb := f_bitCount16 (sh := shC) (μ := m) (x := 0) (by omega)
    have p0 : pcN 16 0 = 0 := (pc_pos 16 0 (by omega)).mpr rfl
    rw [p0] at eb
    rw [show ((0 : Nat) : Int) = 0 from rfl] at eb ⊢
    simp -implicitDefEqProofs (disch := omega) [bX5_fewest, v_cop, v_c1, v_c2, v_c3, v_c4, v_c5, v_bin, v_bn, v_bn2, v_div, v_dv, v_dv2, v_une, v_un, v_loc, v_num, v_get, v_gt, v_ald, v_al, v_al2, v_len, v_ln, v_rl0, v_rl1, v_rl2, v_rl3, v_rl4, v_rl5, v_cmp, v_cp, v_cp2, v_zC, v_zc, v_con, v_kc, v_and, v_an1, v_an0, v_or, v_or1, v_or0, v_not, v_nt, v_boo, v_bo, v_cnd, v_cd1, v_cd0, v_cnc, v_cc1, v_cc0, v_ev0, v_ev, v_e1, v_e2, v_cve, v_cv, v_cse, v_cs, v_skip, v_seq, v_sq0, v_sq1, v_sqr, v_sts, v_st, v_inc, v_put, v_pt, v_pt2, v_fop, v_fo, v_fo2, v_ast, v_as, v_as2, v_as3, v_aop, v_ao, v_ao2, v_ao3, v_exs, v_ex, v_ifs, v_if1, v_if0, v_ret, v_rt, v_rez, v_rz, v_rev, v_brk, v_sws, v_sw, v_sw2, v_run, v_rb, v_turn, v_tu1, v_tu0, v_tu2, v_tu3, fst1, snd1, Option.map_some, Option.getD_some, enA, en, stE, okb, narV, rf_toNat, rf_nn, List.getElem?_cons_zero, List.getElem?_cons_succ, w32_id, w64_id, ite_t, ite_f, Int.toNat_add, Int.toNat_mul, dec_t, dec_f, eb]
  | c + 1, e => by
    have := c_few C (c_cf C c e)
    rw [show 2 * (c + 1) + 1 + e = 2 * c + 1 + e + 2 by omega]
    exact this
