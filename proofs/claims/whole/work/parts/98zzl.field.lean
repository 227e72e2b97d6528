/-! the field's line -/
set_option maxRecDepth 100000 in theorem b_field {mC mM μC μM : Mem} {c : Nat → Int} {N T d a K n P M : Nat} (h : PF mC mM μC μM c N T d a K) (C : CN μC μM c N T d n P M K) (t : tkA c N a = 0) : BO a mC mM (fX8_readField shC [(2, rf 27)] μC) (fX12_readField shM [(2, rf 0)] μM) c N T d := by
  have hd := h.rq.1
  have aT := h.lt (by omega)
  have lT := h.la
  obtain ⟨f1, f2⟩ := C.1
  have r0 := h.rq.2.2.2.1
  have n1 := C.fb.n1
  by_cases f : μC 27 6 = 1
  · have e1 := c_wrong h.rq (k := 3) (by decide) (by decide)
    have e2 := r_wrong h.mq h.f0 (k := 3) (by decide) (by decide)
    rw [f] at f1
    refine .inr ⟨_, _, ?_, ?_, h.fo (k := 3) (by decide)⟩
    · generalize ftA c N a 3 = F at *
      simp -implicitDefEqProofs (disch := omega) [fX8_readField, bX8_readField, v_cop, v_c1, v_c2, v_c3, v_c4, v_c5, v_bin, v_bn, v_bn2, v_div, v_dv, v_dv2, v_une, v_un, v_loc, v_num, v_get, v_gt, v_ald, v_al, v_al2, v_len, v_ln, v_rl0, v_rl1, v_rl2, v_rl3, v_rl4, v_rl5, v_cmp, v_cp, v_cp2, v_zC, v_zc, v_con, v_kc, v_and, v_an1, v_an0, v_or, v_or1, v_or0, v_not, v_nt, v_boo, v_bo, v_cnd, v_cd1, v_cd0, v_cnc, v_cc1, v_cc0, v_ev0, v_ev, v_e1, v_e2, v_cve, v_cv, v_cse, v_cs, v_skip, v_seq, v_sq0, v_sq1, v_sqr, v_sts, v_st, v_inc, v_put, v_pt, v_pt2, v_fop, v_fo, v_fo2, v_ast, v_as, v_as2, v_as3, v_aop, v_ao, v_ao2, v_ao3, v_exs, v_ex, v_ifs, v_if1, v_if0, v_ret, v_rt, v_rez, v_rz, v_rev, v_brk, v_sws, v_sw, v_sw2, v_run, v_rb, v_turn, v_tu1, v_tu0, v_tu2, v_tu3, fst1, snd1, Option.map_some, Option.getD_some, enA, en, stE, okb, narV, rf_toNat, rf_nn, List.getElem?_cons_zero, List.getElem?_cons_succ, w32_id, w64_id, ite_t, ite_f, Int.toNat_add, Int.toNat_mul, dec_t, dec_f, sC_27, f, e1]
    · generalize ftA c N a 3 = F at *
      simp -implicitDefEqProofs (disch := omega) [fX12_readField, bX12_readField, v_cop, v_c1, v_c2, v_c3, v_c4, v_c5, v_bin, v_bn, v_bn2, v_div, v_dv, v_dv2, v_une, v_un, v_loc, v_num, v_get, v_gt, v_ald, v_al, v_al2, v_len, v_ln, v_rl0, v_rl1, v_rl2, v_rl3, v_rl4, v_rl5, v_cmp, v_cp, v_cp2, v_zC, v_zc, v_con, v_kc, v_and, v_an1, v_an0, v_or, v_or1, v_or0, v_not, v_nt, v_boo, v_bo, v_cnd, v_cd1, v_cd0, v_cnc, v_cc1, v_cc0, v_ev0, v_ev, v_e1, v_e2, v_cve, v_cv, v_cse, v_cs, v_skip, v_seq, v_sq0, v_sq1, v_sqr, v_sts, v_st, v_inc, v_put, v_pt, v_pt2, v_fop, v_fo, v_fo2, v_ast, v_as, v_as2, v_as3, v_aop, v_ao, v_ao2, v_ao3, v_exs, v_ex, v_ifs, v_if1, v_if0, v_ret, v_rt, v_rez, v_rz, v_rev, v_brk, v_sws, v_sw, v_sw2, v_run, v_rb, v_turn, v_tu1, v_tu0, v_tu2, v_tu3, fst1, snd1, Option.map_some, Option.getD_some, enA, en, stE, okb, narV, rf_toNat, rf_nn, List.getElem?_cons_zero, List.getElem?_cons_succ, w32_id, w64_id, ite_t, ite_f, Int.toNat_add, Int.toNat_mul, dec_t, dec_f, sM_0, f1, e2]
  · have f0 : μC 27 6 = 0 := by omega
    rw [f0] at f1
    have h0 : PF mC mM μC (ud μM 0 14 1) c N T d a K := h.ref (fun x y hx => by rw [ud_n (by omega)])
    have x7 := h0.a7
    obtain ⟨m1, e1, h1, D1⟩ := h0.adv aT
    have hf : μM 6 191 = (n : Int) := C.fb.n0
    have g191 : ud (ud μM 0 14 1) 0 7 ((a : Int) + 1) 6 191 = (n : Int) := by rw [ud_n (by omega), ud_n (by omega)]; exact hf
    have r3 : m1 27 3 = rf d := h1.rq.2.2.2.2.2.2.1
    have o0 := h1.rq.2.2.2.2.2.2.2.1
    have r0' : m1 27 0 = rf 1 := h1.rq.2.2.2.1
    have hb : m1 d 1 = (n : Int) := by rw [D1 _ _ (by omega)]; exact C.fr.be.trans C.fb.n0
    have pm := h1.mq.1
    have z7 := h1.a7
    generalize hm : ud (ud μM 0 14 1) 0 7 ((a : Int) + 1) = k1 at *
    by_cases t25 : tkA c N (a + 1) = 25
    · rcases h1.mq.tok with ⟨g1, -, g3, g4, g5, g6, g7⟩ | ⟨g1, g2, g3, g4, g5, g6⟩ | ⟨g1, g2, g3, g4⟩ | ⟨g1, g2, g3⟩ | ⟨g1, g2, g3⟩
      · omega
      · by_cases v1 : 1 ≤ vlA c N (a + 1) ∧ vlA c N (a + 1) ≤ 16
        · have eN := c_isNum1 h1.rq t25 v1.1 v1.2
          have t4 := h1.rq.t4 t25
          by_cases v2 : vlA c N (a + 1) < (n : Int)
          · have ew := c_wrong h1.rq (k := 5) (by decide) (by decide)
            have er := r_wrong h1.mq h1.f0 (k := 5) (by decide) (by decide)
            have fo := h1.fo (k := 5) (by decide)
            have fp := ft_pos (c := c) (N := N) (a := a + 1) (k := 5) (by decide)
            have en0 := r_numF (l := 1) (u := 16) (μ := ud k1 0 8 (ftA c N (a + 1) 5)) ud_s fp
            have q10 : ud k1 0 8 (ftA c N (a + 1) 5) 0 10 = rf 6 := by rw [ud_n (by omega)]; exact pm.p10
            refine .inr ⟨_, ud (ud k1 0 8 (ftA c N (a + 1) 5)) 6 190 0, ?_, ?_, fo.ref (fun x y hx => by rw [ud_n (by omega)])⟩
            · clear fo fp en0 q10 er
              generalize ftA c N (a + 1) 5 = F at *
              generalize vlA c N (a + 1) = v at *
              generalize a + 1 = b at *
              simp -implicitDefEqProofs (disch := omega) [fX8_readField, bX8_readField, v_cop, v_c1, v_c2, v_c3, v_c4, v_c5, v_bin, v_bn, v_bn2, v_div, v_dv, v_dv2, v_une, v_un, v_loc, v_num, v_get, v_gt, v_ald, v_al, v_al2, v_len, v_ln, v_rl0, v_rl1, v_rl2, v_rl3, v_rl4, v_rl5, v_cmp, v_cp, v_cp2, v_zC, v_zc, v_con, v_kc, v_and, v_an1, v_an0, v_or, v_or1, v_or0, v_not, v_nt, v_boo, v_bo, v_cnd, v_cd1, v_cd0, v_cnc, v_cc1, v_cc0, v_ev0, v_ev, v_e1, v_e2, v_cve, v_cv, v_cse, v_cs, v_skip, v_seq, v_sq0, v_sq1, v_sqr, v_sts, v_st, v_inc, v_put, v_pt, v_pt2, v_fop, v_fo, v_fo2, v_ast, v_as, v_as2, v_as3, v_aop, v_ao, v_ao2, v_ao3, v_exs, v_ex, v_ifs, v_if1, v_if0, v_ret, v_rt, v_rez, v_rz, v_rev, v_brk, v_sws, v_sw, v_sw2, v_run, v_rb, v_turn, v_tu1, v_tu0, v_tu2, v_tu3, fst1, snd1, Option.map_some, Option.getD_some, enA, en, stE, okb, narV, rf_toNat, rf_nn, List.getElem?_cons_zero, List.getElem?_cons_succ, w32_id, w64_id, ite_t, ite_f, Int.toNat_add, Int.toNat_mul, dec_t, dec_f, sC_27, sC_1, f0, r0, e1, eN, r0', r3, o0, hb, t4, ew]
            · clear fo fp eN ew
              generalize ftA c N (a + 1) 5 = F at *
              generalize vlA c N (a + 1) = v at *
              generalize hb1 : a + 1 = b at *
              simp -implicitDefEqProofs (disch := omega) [fX12_readField, bX12_readField, v_cop, v_c1, v_c2, v_c3, v_c4, v_c5, v_bin, v_bn, v_bn2, v_div, v_dv, v_dv2, v_une, v_un, v_loc, v_num, v_get, v_gt, v_ald, v_al, v_al2, v_len, v_ln, v_rl0, v_rl1, v_rl2, v_rl3, v_rl4, v_rl5, v_cmp, v_cp, v_cp2, v_zC, v_zc, v_con, v_kc, v_and, v_an1, v_an0, v_or, v_or1, v_or0, v_not, v_nt, v_boo, v_bo, v_cnd, v_cd1, v_cd0, v_cnc, v_cc1, v_cc0, v_ev0, v_ev, v_e1, v_e2, v_cve, v_cv, v_cse, v_cs, v_skip, v_seq, v_sq0, v_sq1, v_sqr, v_sts, v_st, v_inc, v_put, v_pt, v_pt2, v_fop, v_fo, v_fo2, v_ast, v_as, v_as2, v_as3, v_aop, v_ao, v_ao2, v_ao3, v_exs, v_ex, v_ifs, v_if1, v_if0, v_ret, v_rt, v_rez, v_rz, v_rev, v_brk, v_sws, v_sw, v_sw2, v_run, v_rb, v_turn, v_tu1, v_tu0, v_tu2, v_tu3, fst1, snd1, Option.map_some, Option.getD_some, enA, en, stE, okb, narV, rf_toNat, rf_nn, List.getElem?_cons_zero, List.getElem?_cons_succ, w32_id, w64_id, ite_t, ite_f, Int.toNat_add, Int.toNat_mul, dec_t, dec_f, sM_0, sM_2, sM_4, sM_6, f1, x7, hm, pm.p4, pm.p6, pm.p10, z7, g1, g3, g191, er, en0, q10]
          · have er := r_num1 h1.mq h1.f0 t25 v1.1 v1.2
            obtain ⟨m2, e2, h2, D2⟩ := (h1.cls (μC' := ud (ud m1 27 6 1) d 0 (vlA c N (a + 1))) (fun x y hx => by rw [ud_n (fun z => hx (by unfold ZC; omega)), ud_n (fun z => hx (by unfold ZC; omega))])).adv (by omega)
            have h3 : PF mC mM m2 (ud (ud k1 0 7 (((a + 1 : Nat) : Int) + 1)) 6 190 (vlA c N (a + 1))) c N T d (a + 1 + 1) K := h2.ref (fun x y hx => by rw [ud_n (by omega)])
            refine .inl ⟨a + 1 + 1, K, n, (vlA c N (a + 1)).toNat, M, m2, _, ?_, ?_, by omega, h3, ?_⟩
            · have q1 : ud (ud m1 27 6 1) d 0 (vlA c N (a + 1)) 27 0 = rf 1 := by rw [ud_n (by omega), ud_n (by omega)]; exact r0'
              have q2 : ud m1 27 6 1 27 3 = rf d := by rw [ud_n (by omega)]; exact r3
              have q3 : ud m1 27 6 1 27 0 = rf 1 := by rw [ud_n (by omega)]; exact r0'
              have q4 : ud m1 27 6 1 1 4 = vlA c N (a + 1) := by rw [ud_n (by omega)]; exact t4
              clear er h2 h3 D2
              generalize vlA c N (a + 1) = v at *
              generalize a + 1 = b at *
              generalize hw1 : ud (ud m1 27 6 1) d 0 v = w1 at *
              simp -implicitDefEqProofs (disch := omega) [fX8_readField, bX8_readField, v_cop, v_c1, v_c2, v_c3, v_c4, v_c5, v_bin, v_bn, v_bn2, v_div, v_dv, v_dv2, v_une, v_un, v_loc, v_num, v_get, v_gt, v_ald, v_al, v_al2, v_len, v_ln, v_rl0, v_rl1, v_rl2, v_rl3, v_rl4, v_rl5, v_cmp, v_cp, v_cp2, v_zC, v_zc, v_con, v_kc, v_and, v_an1, v_an0, v_or, v_or1, v_or0, v_not, v_nt, v_boo, v_bo, v_cnd, v_cd1, v_cd0, v_cnc, v_cc1, v_cc0, v_ev0, v_ev, v_e1, v_e2, v_cve, v_cv, v_cse, v_cs, v_skip, v_seq, v_sq0, v_sq1, v_sqr, v_sts, v_st, v_inc, v_put, v_pt, v_pt2, v_fop, v_fo, v_fo2, v_ast, v_as, v_as2, v_as3, v_aop, v_ao, v_ao2, v_ao3, v_exs, v_ex, v_ifs, v_if1, v_if0, v_ret, v_rt, v_rez, v_rz, v_rev, v_brk, v_sws, v_sw, v_sw2, v_run, v_rb, v_turn, v_tu1, v_tu0, v_tu2, v_tu3, fst1, snd1, Option.map_some, Option.getD_some, enA, en, stE, okb, narV, rf_toNat, rf_nn, List.getElem?_cons_zero, List.getElem?_cons_succ, w32_id, w64_id, ite_t, ite_f, Int.toNat_add, Int.toNat_mul, dec_t, dec_f, sC_27, sC_1, f0, r0, e1, eN, r0', r3, o0, hb, t4, hw1, q1, q2, q3, q4, e2]
            · have q10 : ud k1 0 7 (((a + 1 : Nat) : Int) + 1) 0 10 = rf 6 := by rw [ud_n (by omega)]; exact pm.p10
              clear h2 h3 D2 e2 eN
              generalize vlA c N (a + 1) = v at *
              generalize hb1 : a + 1 = b at *
              generalize ud k1 0 7 ((b : Int) + 1) = w1 at *
              simp -implicitDefEqProofs (disch := omega) [fX12_readField, bX12_readField, v_cop, v_c1, v_c2, v_c3, v_c4, v_c5, v_bin, v_bn, v_bn2, v_div, v_dv, v_dv2, v_une, v_un, v_loc, v_num, v_get, v_gt, v_ald, v_al, v_al2, v_len, v_ln, v_rl0, v_rl1, v_rl2, v_rl3, v_rl4, v_rl5, v_cmp, v_cp, v_cp2, v_zC, v_zc, v_con, v_kc, v_and, v_an1, v_an0, v_or, v_or1, v_or0, v_not, v_nt, v_boo, v_bo, v_cnd, v_cd1, v_cd0, v_cnc, v_cc1, v_cc0, v_ev0, v_ev, v_e1, v_e2, v_cve, v_cv, v_cse, v_cs, v_skip, v_seq, v_sq0, v_sq1, v_sqr, v_sts, v_st, v_inc, v_put, v_pt, v_pt2, v_fop, v_fo, v_fo2, v_ast, v_as, v_as2, v_as3, v_aop, v_ao, v_ao2, v_ao3, v_exs, v_ex, v_ifs, v_if1, v_if0, v_ret, v_rt, v_rez, v_rz, v_rev, v_brk, v_sws, v_sw, v_sw2, v_run, v_rb, v_turn, v_tu1, v_tu0, v_tu2, v_tu3, fst1, snd1, Option.map_some, Option.getD_some, enA, en, stE, okb, narV, rf_toNat, rf_nn, List.getElem?_cons_zero, List.getElem?_cons_succ, w32_id, w64_id, ite_t, ite_f, Int.toNat_add, Int.toNat_mul, dec_t, dec_f, sM_0, sM_2, sM_4, sM_6, f1, x7, hm, pm.p4, pm.p6, pm.p10, z7, g1, g3, g191, er, q10]
            · -- content
              have v0 : vlA c N (a + 1) = (((vlA c N (a + 1)).toNat : Nat) : Int) := by omega
              have eM : ∀ x y, ¬ ((x = 6 ∧ y = 190) ∨ (x = 0 ∧ (y = 7 ∨ y = 14))) → ud (ud k1 0 7 (((a + 1 : Nat) : Int) + 1)) 6 190 (vlA c N (a + 1)) x y = μM x y := fun x y hx => by rw [ud_n (by omega), ud_n (by omega), ← hm, ud_n (by omega), ud_n (by omega)]
              have eC : ∀ x y, ¬ ((x = 1 ∧ 2 ≤ y) ∨ (x = 27 ∧ y = 6) ∨ (x = d ∧ y = 0)) → m2 x y = μC x y := fun x y hx => by rw [D2 _ _ (by omega), ud_n (by omega), ud_n (by omega), D1 _ _ (by omega)]
              have v190 : ud (ud k1 0 7 (((a + 1 : Nat) : Int) + 1)) 6 190 (vlA c N (a + 1)) 6 190 = vlA c N (a + 1) := ud_s
              have v14 : ud (ud k1 0 7 (((a + 1 : Nat) : Int) + 1)) 6 190 (vlA c N (a + 1)) 0 14 = 1 := by rw [ud_n (by omega), ud_n (by omega), ← hm, ud_n (by omega), ud_s]
              have w6 : m2 27 6 = 1 := by rw [D2 _ _ (by omega), ud_n (by omega), ud_s]
              have wd : m2 d 0 = vlA c N (a + 1) := by rw [D2 _ _ (by omega), ud_s]
              generalize ud (ud k1 0 7 (((a + 1 : Nat) : Int) + 1)) 6 190 (vlA c N (a + 1)) = k2 at *
              generalize hv : vlA c N (a + 1) = v at *
              have fl : ∀ i, i ≠ 0 → fld k2 i = fld μM i := fun i hi => eM _ _ (by omega)
              have q7 : opD k2 = opD μM := funext (fun i => eM _ _ (by omega))
              have q8 : agD k2 = agD μM := funext (fun i => eM _ _ (by omega))
              have B := C.fb
              have R := C.fr
              refine ⟨⟨by rw [v14, w6], .inr w6⟩, ?_, ?_, fun x y hx hy hz => by rw [fl _ (by omega)]; exact C.lz x y hx hy hz, C.nr.of (fun x y hx => eC _ _ (by omega)) (fun x y hx => eM _ _ (by omega)), ?_, ?_⟩
              · refine ⟨by show k2 6 190 = _; rw [v190]; exact v0, by omega, by omega, by rw [fl _ (by omega)]; exact B.n0, B.n1, by omega, by rw [fl _ (by omega)]; exact B.M0, B.M1, fun b hb => by rw [fl _ (by omega)]; exact B.ki b hb, fun b hb => by rw [fl _ (by omega)]; exact B.to b hb, fun x y hx hy => by rw [fl _ (by omega)]; exact B.li x y hx hy, fun x y hx hy => by rw [fl _ (by omega), fl _ (by omega)]; exact B.sy x y hx hy, fun m hm => by rw [fl _ (by omega)]; exact B.gr m hm, fun m hm => by rw [fl _ (by omega)]; exact B.fa m hm⟩
              · refine ⟨by rw [wd]; show v = k2 6 190; rw [v190], by rw [eC _ _ (by omega), fl _ (by omega)]; exact R.be, ?_, by rw [eC _ _ (by omega), fl _ (by omega)]; exact R.me, fun b hb => by rw [eC _ _ (by omega), fl _ (by omega)]; exact R.ki b hb, fun b hb => by rw [eC _ _ (by omega), fl _ (by omega)]; exact R.to b hb, fun b hb => by rw [eC _ _ (by omega), fl _ (by omega)]; exact R.li b hb, fun m hm => by rw [eC _ _ (by omega), fl _ (by omega)]; exact R.gr m hm, fun m hm => by rw [eC _ _ (by omega), fl _ (by omega)]; exact R.fa m hm⟩
                rw [eC _ _ (by omega), R.pa]
                unfold prS
                exact sum_congr (fun x hx => sum_congr (fun y hy => by rw [fl _ (by omega)]))
              · rw [q7, q8, fl _ (by omega)]
                exact C.ll.cls (fun x y hx => eC _ _ (by omega))
              · rw [q7, q8, fl _ (by omega)]
                exact C.ls.cls (fun x y hx => eC _ _ (by omega))
        · have eN := c_isNum4 h1.rq t25 v1
          have er := r_num4 h1.mq h1.f0 t25 v1
          have fo := h1.fo (k := 4) (by decide)
          have q10 : ud k1 0 8 (ftA c N (a + 1) 4) 0 10 = rf 6 := by rw [ud_n (by omega)]; exact pm.p10
          refine .inr ⟨_, ud (ud k1 0 8 (ftA c N (a + 1) 4)) 6 190 0, ?_, ?_, fo.ref (fun x y hx => by rw [ud_n (by omega)])⟩
          · clear fo er q10
            generalize ftA c N (a + 1) 4 = F at *
            generalize vlA c N (a + 1) = v at *
            generalize a + 1 = b at *
            simp -implicitDefEqProofs (disch := omega) [fX8_readField, bX8_readField, v_cop, v_c1, v_c2, v_c3, v_c4, v_c5, v_bin, v_bn, v_bn2, v_div, v_dv, v_dv2, v_une, v_un, v_loc, v_num, v_get, v_gt, v_ald, v_al, v_al2, v_len, v_ln, v_rl0, v_rl1, v_rl2, v_rl3, v_rl4, v_rl5, v_cmp, v_cp, v_cp2, v_zC, v_zc, v_con, v_kc, v_and, v_an1, v_an0, v_or, v_or1, v_or0, v_not, v_nt, v_boo, v_bo, v_cnd, v_cd1, v_cd0, v_cnc, v_cc1, v_cc0, v_ev0, v_ev, v_e1, v_e2, v_cve, v_cv, v_cse, v_cs, v_skip, v_seq, v_sq0, v_sq1, v_sqr, v_sts, v_st, v_inc, v_put, v_pt, v_pt2, v_fop, v_fo, v_fo2, v_ast, v_as, v_as2, v_as3, v_aop, v_ao, v_ao2, v_ao3, v_exs, v_ex, v_ifs, v_if1, v_if0, v_ret, v_rt, v_rez, v_rz, v_rev, v_brk, v_sws, v_sw, v_sw2, v_run, v_rb, v_turn, v_tu1, v_tu0, v_tu2, v_tu3, fst1, snd1, Option.map_some, Option.getD_some, enA, en, stE, okb, narV, rf_toNat, rf_nn, List.getElem?_cons_zero, List.getElem?_cons_succ, w32_id, w64_id, ite_t, ite_f, Int.toNat_add, Int.toNat_mul, dec_t, dec_f, sC_27, sC_1, f0, r0, e1, eN]
          · clear fo eN
            generalize ftA c N (a + 1) 4 = F at *
            generalize vlA c N (a + 1) = v at *
            generalize hb1 : a + 1 = b at *
            generalize ud k1 0 8 F = w1 at *
            by_cases v2 : 1 ≤ v
            · simp -implicitDefEqProofs (disch := omega) [fX12_readField, bX12_readField, v_cop, v_c1, v_c2, v_c3, v_c4, v_c5, v_bin, v_bn, v_bn2, v_div, v_dv, v_dv2, v_une, v_un, v_loc, v_num, v_get, v_gt, v_ald, v_al, v_al2, v_len, v_ln, v_rl0, v_rl1, v_rl2, v_rl3, v_rl4, v_rl5, v_cmp, v_cp, v_cp2, v_zC, v_zc, v_con, v_kc, v_and, v_an1, v_an0, v_or, v_or1, v_or0, v_not, v_nt, v_boo, v_bo, v_cnd, v_cd1, v_cd0, v_cnc, v_cc1, v_cc0, v_ev0, v_ev, v_e1, v_e2, v_cve, v_cv, v_cse, v_cs, v_skip, v_seq, v_sq0, v_sq1, v_sqr, v_sts, v_st, v_inc, v_put, v_pt, v_pt2, v_fop, v_fo, v_fo2, v_ast, v_as, v_as2, v_as3, v_aop, v_ao, v_ao2, v_ao3, v_exs, v_ex, v_ifs, v_if1, v_if0, v_ret, v_rt, v_rez, v_rz, v_rev, v_brk, v_sws, v_sw, v_sw2, v_run, v_rb, v_turn, v_tu1, v_tu0, v_tu2, v_tu3, fst1, snd1, Option.map_some, Option.getD_some, enA, en, stE, okb, narV, rf_toNat, rf_nn, List.getElem?_cons_zero, List.getElem?_cons_succ, w32_id, w64_id, ite_t, ite_f, Int.toNat_add, Int.toNat_mul, dec_t, dec_f, sM_0, sM_2, sM_4, sM_6, f1, x7, hm, pm.p4, pm.p6, pm.p10, z7, g1, g3, g191, er, q10]
            · simp -implicitDefEqProofs (disch := omega) [fX12_readField, bX12_readField, v_cop, v_c1, v_c2, v_c3, v_c4, v_c5, v_bin, v_bn, v_bn2, v_div, v_dv, v_dv2, v_une, v_un, v_loc, v_num, v_get, v_gt, v_ald, v_al, v_al2, v_len, v_ln, v_rl0, v_rl1, v_rl2, v_rl3, v_rl4, v_rl5, v_cmp, v_cp, v_cp2, v_zC, v_zc, v_con, v_kc, v_and, v_an1, v_an0, v_or, v_or1, v_or0, v_not, v_nt, v_boo, v_bo, v_cnd, v_cd1, v_cd0, v_cnc, v_cc1, v_cc0, v_ev0, v_ev, v_e1, v_e2, v_cve, v_cv, v_cse, v_cs, v_skip, v_seq, v_sq0, v_sq1, v_sqr, v_sts, v_st, v_inc, v_put, v_pt, v_pt2, v_fop, v_fo, v_fo2, v_ast, v_as, v_as2, v_as3, v_aop, v_ao, v_ao2, v_ao3, v_exs, v_ex, v_ifs, v_if1, v_if0, v_ret, v_rt, v_rez, v_rz, v_rev, v_brk, v_sws, v_sw, v_sw2, v_run, v_rb, v_turn, v_tu1, v_tu0, v_tu2, v_tu3, fst1, snd1, Option.map_some, Option.getD_some, enA, en, stE, okb, narV, rf_toNat, rf_nn, List.getElem?_cons_zero, List.getElem?_cons_succ, w32_id, w64_id, ite_t, ite_f, Int.toNat_add, Int.toNat_mul, dec_t, dec_f, sM_0, sM_2, sM_4, sM_6, f1, x7, hm, pm.p4, pm.p6, pm.p10, z7, g1, g3, g191, er, q10]
      · have := sg_r g4; omega
      · omega
      · omega
    · have eN := c_isNum0 (l := 1) (u := 16) h1.rq t25
      have er := r_num0 (l := 1) (u := 16) h1.mq h1.f0 t25
      have fo := h1.fo (k := 1) (by decide)
      have q10 : ud k1 0 8 (ftA c N (a + 1) 1) 0 10 = rf 6 := by rw [ud_n (by omega)]; exact pm.p10
      have g1 : ¬ k1 2 (a + 1) = 2 := by
        rcases h1.mq.tok with ⟨g1, -⟩ | ⟨g1, g2, g3, g4, g5, g6⟩ | ⟨g1, -⟩ | ⟨g1, -⟩ | ⟨g1, -⟩
        · omega
        · exact absurd g4 t25
        · omega
        · omega
        · omega
      refine .inr ⟨_, ud (ud k1 0 8 (ftA c N (a + 1) 1)) 6 190 0, ?_, ?_, fo.ref (fun x y hx => by rw [ud_n (by omega)])⟩
      · clear fo er q10
        generalize ftA c N (a + 1) 1 = F at *
        generalize a + 1 = b at *
        simp -implicitDefEqProofs (disch := omega) [fX8_readField, bX8_readField, v_cop, v_c1, v_c2, v_c3, v_c4, v_c5, v_bin, v_bn, v_bn2, v_div, v_dv, v_dv2, v_une, v_un, v_loc, v_num, v_get, v_gt, v_ald, v_al, v_al2, v_len, v_ln, v_rl0, v_rl1, v_rl2, v_rl3, v_rl4, v_rl5, v_cmp, v_cp, v_cp2, v_zC, v_zc, v_con, v_kc, v_and, v_an1, v_an0, v_or, v_or1, v_or0, v_not, v_nt, v_boo, v_bo, v_cnd, v_cd1, v_cd0, v_cnc, v_cc1, v_cc0, v_ev0, v_ev, v_e1, v_e2, v_cve, v_cv, v_cse, v_cs, v_skip, v_seq, v_sq0, v_sq1, v_sqr, v_sts, v_st, v_inc, v_put, v_pt, v_pt2, v_fop, v_fo, v_fo2, v_ast, v_as, v_as2, v_as3, v_aop, v_ao, v_ao2, v_ao3, v_exs, v_ex, v_ifs, v_if1, v_if0, v_ret, v_rt, v_rez, v_rz, v_rev, v_brk, v_sws, v_sw, v_sw2, v_run, v_rb, v_turn, v_tu1, v_tu0, v_tu2, v_tu3, fst1, snd1, Option.map_some, Option.getD_some, enA, en, stE, okb, narV, rf_toNat, rf_nn, List.getElem?_cons_zero, List.getElem?_cons_succ, w32_id, w64_id, ite_t, ite_f, Int.toNat_add, Int.toNat_mul, dec_t, dec_f, sC_27, sC_1, f0, r0, e1, eN]
      · clear fo eN
        generalize ftA c N (a + 1) 1 = F at *
        generalize hb1 : a + 1 = b at *
        generalize ud k1 0 8 F = w1 at *
        simp -implicitDefEqProofs (disch := omega) [fX12_readField, bX12_readField, v_cop, v_c1, v_c2, v_c3, v_c4, v_c5, v_bin, v_bn, v_bn2, v_div, v_dv, v_dv2, v_une, v_un, v_loc, v_num, v_get, v_gt, v_ald, v_al, v_al2, v_len, v_ln, v_rl0, v_rl1, v_rl2, v_rl3, v_rl4, v_rl5, v_cmp, v_cp, v_cp2, v_zC, v_zc, v_con, v_kc, v_and, v_an1, v_an0, v_or, v_or1, v_or0, v_not, v_nt, v_boo, v_bo, v_cnd, v_cd1, v_cd0, v_cnc, v_cc1, v_cc0, v_ev0, v_ev, v_e1, v_e2, v_cve, v_cv, v_cse, v_cs, v_skip, v_seq, v_sq0, v_sq1, v_sqr, v_sts, v_st, v_inc, v_put, v_pt, v_pt2, v_fop, v_fo, v_fo2, v_ast, v_as, v_as2, v_as3, v_aop, v_ao, v_ao2, v_ao3, v_exs, v_ex, v_ifs, v_if1, v_if0, v_ret, v_rt, v_rez, v_rz, v_rev, v_brk, v_sws, v_sw, v_sw2, v_run, v_rb, v_turn, v_tu1, v_tu0, v_tu2, v_tu3, fst1, snd1, Option.map_some, Option.getD_some, enA, en, stE, okb, narV, rf_toNat, rf_nn, List.getElem?_cons_zero, List.getElem?_cons_succ, w32_id, w64_id, ite_t, ite_f, Int.toNat_add, Int.toNat_mul, dec_t, dec_f, sM_0, sM_2, sM_4, sM_6, f1, x7, hm, pm.p4, pm.p6, pm.p10, z7, g1, g191, er, q10]
