/-! the levels of a law: both -/
def lvO (x : Int) : Int := if x = 16 ∨ x = 17 then 0 else if x = 60 ∨ x = 61 then 1 else if x = 43 ∨ x = 45 then 2 else if x = 42 then 3 else -1
set_option maxRecDepth 100000 in theorem c_level (μ : Mem) (x : Int) : fX8_levelOf shC [(0, x)] μ = some (lvO x, μ) := by
  rcases (by omega : x = 16 ∨ x = 17 ∨ x = 42 ∨ x = 43 ∨ x = 45 ∨ x = 60 ∨ x = 61 ∨ (¬ x = 16 ∧ ¬ x = 17 ∧ ¬ x = 42 ∧ ¬ x = 43 ∧ ¬ x = 45 ∧ ¬ x = 60 ∧ ¬ x = 61)) with h | h | h | h | h | h | h | h

  · subst h
    rw [show lvO 16 = 0 from by decide]
    simp -implicitDefEqProofs (disch := omega) [fX8_levelOf, bX8_levelOf, wX8_levelOf_1_sel, v_cop, v_c1, v_c2, v_c3, v_c4, v_c5, v_bin, v_bn, v_bn2, v_div, v_dv, v_dv2, v_une, v_un, v_loc, v_num, v_get, v_gt, v_ald, v_al, v_al2, v_len, v_ln, v_rl0, v_rl1, v_rl2, v_rl3, v_rl4, v_rl5, v_cmp, v_cp, v_cp2, v_zC, v_zc, v_con, v_kc, v_and, v_an1, v_an0, v_or, v_or1, v_or0, v_not, v_nt, v_boo, v_bo, v_cnd, v_cd1, v_cd0, v_cnc, v_cc1, v_cc0, v_ev0, v_ev, v_e1, v_e2, v_cve, v_cv, v_cse, v_cs, v_skip, v_seq, v_sq0, v_sq1, v_sqr, v_sts, v_st, v_inc, v_put, v_pt, v_pt2, v_fop, v_fo, v_fo2, v_ast, v_as, v_as2, v_as3, v_aop, v_ao, v_ao2, v_ao3, v_exs, v_ex, v_ifs, v_if1, v_if0, v_ret, v_rt, v_rez, v_rz, v_rev, v_brk, v_sws, v_sw, v_sw2, v_run, v_rb, v_turn, v_tu1, v_tu0, v_tu2, v_tu3, fst1, snd1, Option.map_some, Option.getD_some, enA, en, stE, okb, narV, rf_toNat, rf_nn, List.getElem?_cons_zero, List.getElem?_cons_succ, w32_id, w64_id, ite_t, ite_f, Int.toNat_add, Int.toNat_mul, dec_t, dec_f]
  · subst h
    rw [show lvO 17 = 0 from by decide]
    simp -implicitDefEqProofs (disch := omega) [fX8_levelOf, bX8_levelOf, wX8_levelOf_1_sel, v_cop, v_c1, v_c2, v_c3, v_c4, v_c5, v_bin, v_bn, v_bn2, v_div, v_dv, v_dv2, v_une, v_un, v_loc, v_num, v_get, v_gt, v_ald, v_al, v_al2, v_len, v_ln, v_rl0, v_rl1, v_rl2, v_rl3, v_rl4, v_rl5, v_cmp, v_cp, v_cp2, v_zC, v_zc, v_con, v_kc, v_and, v_an1, v_an0, v_or, v_or1, v_or0, v_not, v_nt, v_boo, v_bo, v_cnd, v_cd1, v_cd0, v_cnc, v_cc1, v_cc0, v_ev0, v_ev, v_e1, v_e2, v_cve, v_cv, v_cse, v_cs, v_skip, v_seq, v_sq0, v_sq1, v_sqr, v_sts, v_st, v_inc, v_put, v_pt, v_pt2, v_fop, v_fo, v_fo2, v_ast, v_as, v_as2, v_as3, v_aop, v_ao, v_ao2, v_ao3, v_exs, v_ex, v_ifs, v_if1, v_if0, v_ret, v_rt, v_rez, v_rz, v_rev, v_brk, v_sws, v_sw, v_sw2, v_run, v_rb, v_turn, v_tu1, v_tu0, v_tu2, v_tu3, fst1, snd1, Option.map_some, Option.getD_some, enA, en, stE, okb, narV, rf_toNat, rf_nn, List.getElem?_cons_zero, List.getElem?_cons_succ, w32_id, w64_id, ite_t, ite_f, Int.toNat_add, Int.toNat_mul, dec_t, dec_f]
  · subst h
    rw [show lvO 42 = 3 from by decide]
    simp -implicitDefEqProofs (disch := omega) [fX8_levelOf, bX8_levelOf, wX8_levelOf_1_sel, v_cop, v_c1, v_c2, v_c3, v_c4, v_c5, v_bin, v_bn, v_bn2, v_div, v_dv, v_dv2, v_une, v_un, v_loc, v_num, v_get, v_gt, v_ald, v_al, v_al2, v_len, v_ln, v_rl0, v_rl1, v_rl2, v_rl3, v_rl4, v_rl5, v_cmp, v_cp, v_cp2, v_zC, v_zc, v_con, v_kc, v_and, v_an1, v_an0, v_or, v_or1, v_or0, v_not, v_nt, v_boo, v_bo, v_cnd, v_cd1, v_cd0, v_cnc, v_cc1, v_cc0, v_ev0, v_ev, v_e1, v_e2, v_cve, v_cv, v_cse, v_cs, v_skip, v_seq, v_sq0, v_sq1, v_sqr, v_sts, v_st, v_inc, v_put, v_pt, v_pt2, v_fop, v_fo, v_fo2, v_ast, v_as, v_as2, v_as3, v_aop, v_ao, v_ao2, v_ao3, v_exs, v_ex, v_ifs, v_if1, v_if0, v_ret, v_rt, v_rez, v_rz, v_rev, v_brk, v_sws, v_sw, v_sw2, v_run, v_rb, v_turn, v_tu1, v_tu0, v_tu2, v_tu3, fst1, snd1, Option.map_some, Option.getD_some, enA, en, stE, okb, narV, rf_toNat, rf_nn, List.getElem?_cons_zero, List.getElem?_cons_succ, w32_id, w64_id, ite_t, ite_f, Int.toNat_add, Int.toNat_mul, dec_t, dec_f]
  · subst h
    rw [show lvO 43 = 2 from by decide]
    simp -implicitDefEqProofs (disch := omega) [fX8_levelOf, bX8_levelOf, wX8_levelOf_1_sel, v_cop, v_c1, v_c2, v_c3, v_c4, v_c5, v_bin, v_bn, v_bn2, v_div, v_dv, v_dv2, v_une, v_un, v_loc, v_num, v_get, v_gt, v_ald, v_al, v_al2, v_len, v_ln, v_rl0, v_rl1, v_rl2, v_rl3, v_rl4, v_rl5, v_cmp, v_cp, v_cp2, v_zC, v_zc, v_con, v_kc, v_and, v_an1, v_an0, v_or, v_or1, v_or0, v_not, v_nt, v_boo, v_bo, v_cnd, v_cd1, v_cd0, v_cnc, v_cc1, v_cc0, v_ev0, v_ev, v_e1, v_e2, v_cve, v_cv, v_cse, v_cs, v_skip, v_seq, v_sq0, v_sq1, v_sqr, v_sts, v_st, v_inc, v_put, v_pt, v_pt2, v_fop, v_fo, v_fo2, v_ast, v_as, v_as2, v_as3, v_aop, v_ao, v_ao2, v_ao3, v_exs, v_ex, v_ifs, v_if1, v_if0, v_ret, v_rt, v_rez, v_rz, v_rev, v_brk, v_sws, v_sw, v_sw2, v_run, v_rb, v_turn, v_tu1, v_tu0, v_tu2, v_tu3, fst1, snd1, Option.map_some, Option.getD_some, enA, en, stE, okb, narV, rf_toNat, rf_nn, List.getElem?_cons_zero, List.getElem?_cons_succ, w32_id, w64_id, ite_t, ite_f, Int.toNat_add, Int.toNat_mul, dec_t, dec_f]
  · subst h
    rw [show lvO 45 = 2 from by decide]
    simp -implicitDefEqProofs (disch := omega) [fX8_levelOf, bX8_levelOf, wX8_levelOf_1_sel, v_cop, v_c1, v_c2, v_c3, v_c4, v_c5, v_bin, v_bn, v_bn2, v_div, v_dv, v_dv2, v_une, v_un, v_loc, v_num, v_get, v_gt, v_ald, v_al, v_al2, v_len, v_ln, v_rl0, v_rl1, v_rl2, v_rl3, v_rl4, v_rl5, v_cmp, v_cp, v_cp2, v_zC, v_zc, v_con, v_kc, v_and, v_an1, v_an0, v_or, v_or1, v_or0, v_not, v_nt, v_boo, v_bo, v_cnd, v_cd1, v_cd0, v_cnc, v_cc1, v_cc0, v_ev0, v_ev, v_e1, v_e2, v_cve, v_cv, v_cse, v_cs, v_skip, v_seq, v_sq0, v_sq1, v_sqr, v_sts, v_st, v_inc, v_put, v_pt, v_pt2, v_fop, v_fo, v_fo2, v_ast, v_as, v_as2, v_as3, v_aop, v_ao, v_ao2, v_ao3, v_exs, v_ex, v_ifs, v_if1, v_if0, v_ret, v_rt, v_rez, v_rz, v_rev, v_brk, v_sws, v_sw, v_sw2, v_run, v_rb, v_turn, v_tu1, v_tu0, v_tu2, v_tu3, fst1, snd1, Option.map_some, Option.getD_some, enA, en, stE, okb, narV, rf_toNat, rf_nn, List.getElem?_cons_zero, List.getElem?_cons_succ, w32_id, w64_id, ite_t, ite_f, Int.toNat_add, Int.toNat_mul, dec_t, dec_f]
  · subst h
    rw [show lvO 60 = 1 from by decide]
    simp -implicitDefEqProofs (disch := omega) [fX8_levelOf, bX8_levelOf, wX8_levelOf_1_sel, v_cop, v_c1, v_c2, v_c3, v_c4, v_c5, v_bin, v_bn, v_bn2, v_div, v_dv, v_dv2, v_une, v_un, v_loc, v_num, v_get, v_gt, v_ald, v_al, v_al2, v_len, v_ln, v_rl0, v_rl1, v_rl2, v_rl3, v_rl4, v_rl5, v_cmp, v_cp, v_cp2, v_zC, v_zc, v_con, v_kc, v_and, v_an1, v_an0, v_or, v_or1, v_or0, v_not, v_nt, v_boo, v_bo, v_cnd, v_cd1, v_cd0, v_cnc, v_cc1, v_cc0, v_ev0, v_ev, v_e1, v_e2, v_cve, v_cv, v_cse, v_cs, v_skip, v_seq, v_sq0, v_sq1, v_sqr, v_sts, v_st, v_inc, v_put, v_pt, v_pt2, v_fop, v_fo, v_fo2, v_ast, v_as, v_as2, v_as3, v_aop, v_ao, v_ao2, v_ao3, v_exs, v_ex, v_ifs, v_if1, v_if0, v_ret, v_rt, v_rez, v_rz, v_rev, v_brk, v_sws, v_sw, v_sw2, v_run, v_rb, v_turn, v_tu1, v_tu0, v_tu2, v_tu3, fst1, snd1, Option.map_some, Option.getD_some, enA, en, stE, okb, narV, rf_toNat, rf_nn, List.getElem?_cons_zero, List.getElem?_cons_succ, w32_id, w64_id, ite_t, ite_f, Int.toNat_add, Int.toNat_mul, dec_t, dec_f]
  · subst h
    rw [show lvO 61 = 1 from by decide]
    simp -implicitDefEqProofs (disch := omega) [fX8_levelOf, bX8_levelOf, wX8_levelOf_1_sel, v_cop, v_c1, v_c2, v_c3, v_c4, v_c5, v_bin, v_bn, v_bn2, v_div, v_dv, v_dv2, v_une, v_un, v_loc, v_num, v_get, v_gt, v_ald, v_al, v_al2, v_len, v_ln, v_rl0, v_rl1, v_rl2, v_rl3, v_rl4, v_rl5, v_cmp, v_cp, v_cp2, v_zC, v_zc, v_con, v_kc, v_and, v_an1, v_an0, v_or, v_or1, v_or0, v_not, v_nt, v_boo, v_bo, v_cnd, v_cd1, v_cd0, v_cnc, v_cc1, v_cc0, v_ev0, v_ev, v_e1, v_e2, v_cve, v_cv, v_cse, v_cs, v_skip, v_seq, v_sq0, v_sq1, v_sqr, v_sts, v_st, v_inc, v_put, v_pt, v_pt2, v_fop, v_fo, v_fo2, v_ast, v_as, v_as2, v_as3, v_aop, v_ao, v_ao2, v_ao3, v_exs, v_ex, v_ifs, v_if1, v_if0, v_ret, v_rt, v_rez, v_rz, v_rev, v_brk, v_sws, v_sw, v_sw2, v_run, v_rb, v_turn, v_tu1, v_tu0, v_tu2, v_tu3, fst1, snd1, Option.map_some, Option.getD_some, enA, en, stE, okb, narV, rf_toNat, rf_nn, List.getElem?_cons_zero, List.getElem?_cons_succ, w32_id, w64_id, ite_t, ite_f, Int.toNat_add, Int.toNat_mul, dec_t, dec_f]
  · obtain ⟨h1, h2, h3, h4, h5, h6, h7⟩ := h
    have z : lvO x = -1 := by
      unfold lvO
      rw [if_neg (by omega), if_neg (by omega), if_neg (by omega), if_neg (by omega)]
    rw [z]
    simp -implicitDefEqProofs (disch := omega) [fX8_levelOf, bX8_levelOf, wX8_levelOf_1_sel, v_cop, v_c1, v_c2, v_c3, v_c4, v_c5, v_bin, v_bn, v_bn2, v_div, v_dv, v_dv2, v_une, v_un, v_loc, v_num, v_get, v_gt, v_ald, v_al, v_al2, v_len, v_ln, v_rl0, v_rl1, v_rl2, v_rl3, v_rl4, v_rl5, v_cmp, v_cp, v_cp2, v_zC, v_zc, v_con, v_kc, v_and, v_an1, v_an0, v_or, v_or1, v_or0, v_not, v_nt, v_boo, v_bo, v_cnd, v_cd1, v_cd0, v_cnc, v_cc1, v_cc0, v_ev0, v_ev, v_e1, v_e2, v_cve, v_cv, v_cse, v_cs, v_skip, v_seq, v_sq0, v_sq1, v_sqr, v_sts, v_st, v_inc, v_put, v_pt, v_pt2, v_fop, v_fo, v_fo2, v_ast, v_as, v_as2, v_as3, v_aop, v_ao, v_ao2, v_ao3, v_exs, v_ex, v_ifs, v_if1, v_if0, v_ret, v_rt, v_rez, v_rz, v_rev, v_brk, v_sws, v_sw, v_sw2, v_run, v_rb, v_turn, v_tu1, v_tu0, v_tu2, v_tu3, fst1, snd1, Option.map_some, Option.getD_some, enA, en, stE, okb, narV, rf_toNat, rf_nn, List.getElem?_cons_zero, List.getElem?_cons_succ, w32_id, w64_id, ite_t, ite_f, Int.toNat_add, Int.toNat_mul, dec_t, dec_f, h1, h2, h3, h4, h5, h6, h7]
set_option maxRecDepth 100000 in theorem lv_n3 {x : Int} (h : ¬ (x = 42)) : ¬ lvO x = 3 := by
  intro q
  unfold lvO at q
  by_cases c1 : x = 16 ∨ x = 17
  · rw [if_pos c1] at q; omega
  · rw [if_neg c1] at q
    by_cases c2 : x = 60 ∨ x = 61
    · rw [if_pos c2] at q; omega
    · rw [if_neg c2] at q
      by_cases c3 : x = 43 ∨ x = 45
      · rw [if_pos c3] at q; omega
      · rw [if_neg c3] at q
        by_cases c4 : x = 42
        · rw [if_pos c4] at q; omega
        · rw [if_neg c4] at q; omega
set_option maxRecDepth 100000 in theorem lv_n2 {x : Int} (h : ¬ (x = 43 ∨ x = 45)) : ¬ lvO x = 2 := by
  intro q
  unfold lvO at q
  by_cases c1 : x = 16 ∨ x = 17
  · rw [if_pos c1] at q; omega
  · rw [if_neg c1] at q
    by_cases c2 : x = 60 ∨ x = 61
    · rw [if_pos c2] at q; omega
    · rw [if_neg c2] at q
      by_cases c3 : x = 43 ∨ x = 45
      · rw [if_pos c3] at q; omega
      · rw [if_neg c3] at q
        by_cases c4 : x = 42
        · rw [if_pos c4] at q; omega
        · rw [if_neg c4] at q; omega
set_option maxRecDepth 100000 in theorem lv_n1 {x : Int} (h : ¬ (x = 60 ∨ x = 61)) : ¬ lvO x = 1 := by
  intro q
  unfold lvO at q
  by_cases c1 : x = 16 ∨ x = 17
  · rw [if_pos c1] at q; omega
  · rw [if_neg c1] at q
    by_cases c2 : x = 60 ∨ x = 61
    · rw [if_pos c2] at q; omega
    · rw [if_neg c2] at q
      by_cases c3 : x = 43 ∨ x = 45
      · rw [if_pos c3] at q; omega
      · rw [if_neg c3] at q
        by_cases c4 : x = 42
        · rw [if_pos c4] at q; omega
        · rw [if_neg c4] at q; omega
set_option maxRecDepth 100000 in theorem lv_n0 {x : Int} (h : ¬ (x = 16 ∨ x = 17)) : ¬ lvO x = 0 := by
  intro q
  unfold lvO at q
  by_cases c1 : x = 16 ∨ x = 17
  · rw [if_pos c1] at q; omega
  · rw [if_neg c1] at q
    by_cases c2 : x = 60 ∨ x = 61
    · rw [if_pos c2] at q; omega
    · rw [if_neg c2] at q
      by_cases c3 : x = 43 ∨ x = 45
      · rw [if_pos c3] at q; omega
      · rw [if_neg c3] at q
        by_cases c4 : x = 42
        · rw [if_pos c4] at q; omega
        · rw [if_neg c4] at q; omega
set_option maxRecDepth 100000 in theorem joint2 {kb kc kb' kc' : Nat} {cC cM : Cn} {bC uC bM uM : Sx} {shc shm : Shp} (S : Nat → Ev → Mem → Ev → Mem → Prop) (Q : Rs → Rs → Prop) (step : ∀ z eC mC eM mM, S z eC mC eM mM → (∃ z' eC' mC' eM' mM', z' < z ∧ turnS kb kc cC bC uC shc eC mC = some (.inl (eC', mC')) ∧ turnS kb' kc' cM bM uM shm eM mM = some (.inl (eM', mM')) ∧ S z' eC' mC' eM' mM') ∨ (∃ rC rM, loopS kb kc cC bC uC shc eC mC = some rC ∧ loopS kb' kc' cM bM uM shm eM mM = some rM ∧ Q rC rM)) : ∀ z eC mC eM mM, S z eC mC eM mM → ∃ rC rM, loopS kb kc cC bC uC shc eC mC = some rC ∧ loopS kb' kc' cM bM uM shm eM mM = some rM ∧ Q rC rM := by
  intro z
  induction z using Nat.strongRecOn with
  | _ z ih =>
    intro eC mC eM mM h
    rcases step z eC mC eM mM h with ⟨z', eC', mC', eM', mM', hz, t1, t2, h'⟩ | h'
    · rw [turn_go t1, turn_go t2]
      exact ih z' hz eC' mC' eM' mM' h'
    · exact h'
set_option maxRecDepth 100000 in theorem b_lev4 {mC mM bC bM : Mem} {c : Nat → Int} {N T d cc t w x y : Nat} {W : List Int} {s : Int} (ih : EPd mC mM bC bM c N T d cc W t s w x y) : EJd mC mM bC bM c N T d cc W t s 4 3 w (x + 1) y := by
  intro μC μM a j D h hj D0 D1
  rw [gJ0, show ((4 : Nat) : Int) = 4 from rfl]
  rcases ih μC μM a j D h hj D0 (by omega) with ⟨a', j', m2, k2, e2, e3, h2, l1, l2⟩ | ⟨m2, k2, e2, e3, fx⟩
  · refine .inl ⟨a', j', m2, k2, ?_, e3, h2, l1, l2⟩
    simp -implicitDefEqProofs (disch := omega) [bX8_readJoined, v_cop, v_c1, v_c2, v_c3, v_c4, v_c5, v_bin, v_bn, v_bn2, v_div, v_dv, v_dv2, v_une, v_un, v_loc, v_num, v_get, v_gt, v_ald, v_al, v_al2, v_len, v_ln, v_rl0, v_rl1, v_rl2, v_rl3, v_rl4, v_rl5, v_cmp, v_cp, v_cp2, v_zC, v_zc, v_con, v_kc, v_and, v_an1, v_an0, v_or, v_or1, v_or0, v_not, v_nt, v_boo, v_bo, v_cnd, v_cd1, v_cd0, v_cnc, v_cc1, v_cc0, v_ev0, v_ev, v_e1, v_e2, v_cve, v_cv, v_cse, v_cs, v_skip, v_seq, v_sq0, v_sq1, v_sqr, v_sts, v_st, v_inc, v_put, v_pt, v_pt2, v_fop, v_fo, v_fo2, v_ast, v_as, v_as2, v_as3, v_aop, v_ao, v_ao2, v_ao3, v_exs, v_ex, v_ifs, v_if1, v_if0, v_ret, v_rt, v_rez, v_rz, v_rev, v_brk, v_sws, v_sw, v_sw2, v_run, v_rb, v_turn, v_tu1, v_tu0, v_tu2, v_tu3, fst1, snd1, Option.map_some, Option.getD_some, enA, en, stE, okb, narV, rf_toNat, rf_nn, List.getElem?_cons_zero, List.getElem?_cons_succ, w32_id, w64_id, ite_t, ite_f, Int.toNat_add, Int.toNat_mul, dec_t, dec_f, sC_27, e2]
  · refine .inr ⟨m2, k2, ?_, e3, fx⟩
    simp -implicitDefEqProofs (disch := omega) [bX8_readJoined, v_cop, v_c1, v_c2, v_c3, v_c4, v_c5, v_bin, v_bn, v_bn2, v_div, v_dv, v_dv2, v_une, v_un, v_loc, v_num, v_get, v_gt, v_ald, v_al, v_al2, v_len, v_ln, v_rl0, v_rl1, v_rl2, v_rl3, v_rl4, v_rl5, v_cmp, v_cp, v_cp2, v_zC, v_zc, v_con, v_kc, v_and, v_an1, v_an0, v_or, v_or1, v_or0, v_not, v_nt, v_boo, v_bo, v_cnd, v_cd1, v_cd0, v_cnc, v_cc1, v_cc0, v_ev0, v_ev, v_e1, v_e2, v_cve, v_cv, v_cse, v_cs, v_skip, v_seq, v_sq0, v_sq1, v_sqr, v_sts, v_st, v_inc, v_put, v_pt, v_pt2, v_fop, v_fo, v_fo2, v_ast, v_as, v_as2, v_as3, v_aop, v_ao, v_ao2, v_ao3, v_exs, v_ex, v_ifs, v_if1, v_if0, v_ret, v_rt, v_rez, v_rz, v_rev, v_brk, v_sws, v_sw, v_sw2, v_run, v_rb, v_turn, v_tu1, v_tu0, v_tu2, v_tu3, fst1, snd1, Option.map_some, Option.getD_some, enA, en, stE, okb, narV, rf_toNat, rf_nn, List.getElem?_cons_zero, List.getElem?_cons_succ, w32_id, w64_id, ite_t, ite_f, Int.toNat_add, Int.toNat_mul, dec_t, dec_f, sC_27, e2]
def LQd (mC mM bC bM : Mem) (c : Nat → Int) (N T d cc : Nat) (W : List Int) (t : Nat) (s : Int) (a j : Nat) (D : Int) (rC rM : Rs) : Prop := (∃ a' j' μC μM eC eM, rC = (0, 0, eC, μC) ∧ rM = (0, 0, eM, μM) ∧ LwS mC mM bC bM c N T d cc W t s μC μM a' j' (D + 1) ∧ a ≤ a' ∧ j' + a ≤ j + a') ∨ (∃ μC μM eC eM, rC = (1, 0, eC, μC) ∧ rM = (0, 0, eM, μM) ∧ FX mC mM c N T d t a j μC μM)
set_option maxRecDepth 100000 in theorem fx_f {mC mM μC μM : Mem} {c : Nat → Int} {N T d t a j : Nat} (h : FX mC mM c N T d t a j μC μM) : ∃ F b, 0 < F ∧ μM 0 8 = F ∧ MDq μM c N T b := by
  obtain ⟨F, a, K, h1, h2, h3, h4, -⟩ := h
  exact ⟨F, a, h1, h3, h4⟩

set_option maxRecDepth 100000 in theorem b_loop3 {mC mM bC bM : Mem} {c : Nat → Int} {N T d cc t w x y a j : Nat} {W : List Int} {s D : Int} (w5 : w ≤ 5) (ih : EJd mC mM bC bM c N T d cc W t s 4 3 w x y) (D0 : 0 ≤ D) (D1 : D ≤ 4 * (w : Int) + 3) (hj : t + j + 1 ≤ a) : ∀ z eC mC' eM mM', (∃ (b i : Nat) (j1 : Nat) (t5 : Nat × Int), z = T - b ∧ eC = [(2, rf 27), (0, 3), (0, (w : Int)), (0, 1000), (0, (i : Int)), t5] ∧ eM = [(2, rf 0), (0, (w : Int))] ∧ LwS mC mM bC bM c N T d cc W t s mC' mM' b j1 (D + 1) ∧ a ≤ b ∧ j1 + a ≤ j + b ∧ i ≤ b) → ∃ rC rM, loopS 2 3 (kX8_readJoined_0c (gGX8_readJoined x)) (kX8_readJoined_0b (gGX8_readJoined x)) (kX8_readJoined_0u (gGX8_readJoined x)) shC eC mC' = some rC ∧ loopS 2 3 (kX12_products_0c (gGX12_all y)) (kX12_products_0b (gGX12_all y)) (kX12_products_0u (gGX12_all y)) shM eM mM' = some rM ∧ LQd mC mM bC bM c N T d cc W t s a j D rC rM := by
  refine joint2 (S := fun z eC mC' eM mM' => ∃ (b i : Nat) (j1 : Nat) (t5 : Nat × Int), z = T - b ∧ eC = [(2, rf 27), (0, 3), (0, (w : Int)), (0, 1000), (0, (i : Int)), t5] ∧ eM = [(2, rf 0), (0, (w : Int))] ∧ LwS mC mM bC bM c N T d cc W t s mC' mM' b j1 (D + 1) ∧ a ≤ b ∧ j1 + a ≤ j + b ∧ i ≤ b) (Q := LQd mC mM bC bM c N T d cc W t s a j D) ?_
  rintro z eC μC eM μM ⟨b, i, j1, t5, rfl, rfl, rfl, h, ab, jb, ib⟩
  have p := h.1
  have lT := p.la
  have lb := p.mq.pl.2.2
  have t2' := p.rq.t2
  have r0 := p.rq.2.2.2.1
  have q4 := h.2.2.1
  have a7 := p.a7
  have f0 := p.f0
  have hc := h.2.1.c
  have lv := c_level μC (tkA c N b)

  have i42 := r_hasSign (x := 42) p.mq p.f0 (by decide)
  by_cases op : tkA c N b = 42
  · have bT := p.lt (by omega)
    have lvl : lvO (tkA c N b) = 3 := by
      rw [op]; decide
    rw [lvl] at lv
    obtain ⟨m1, e1, h1⟩ := h.adv bT
    have sub := ih m1 (ud μM 0 7 ((b : Int) + 1)) (b + 1) j1 (D + 1) h1 (by omega) (by omega) (by omega)
    rw [show ((4 : Nat) : Int) = 4 from rfl] at sub
    rcases sub with ⟨a2, j2, m2, k2, e2, e3, h2, l1, l2⟩ | ⟨m2, k2, e2, e3, fx⟩
    · have q42 := h2.2.2.1
      have o := op
      rw [o] at t2' lv
      have ad := h2.addT (by omega) (v := 42) (k := 42) rfl (by decide)
      obtain ⟨em, h3⟩ := h2.emit (o := 6) (v := 0) (by omega) ⟨by decide, by decide, fun q => absurd q (by decide), fun q => absurd q (by decide)⟩ ⟨by omega, fun q => absurd q (by decide), fun q => absurd q (by decide), fun _ _ => by omega⟩
      rw [if_neg (by decide), if_neg (by decide), show D + 1 + 1 + -1 = D + 1 by omega] at h3
      have en1 : enI W 6 0 = -1 - 42 := by
        unfold enI tkI
        rw [if_neg (by decide), if_neg (by decide)]
        decide
      rw [en1] at h3
      rw [if_pos ⟨rfl, o⟩, if_pos ⟨rfl, o⟩] at i42
      refine .inl ⟨T - a2, [(2, rf 27), (0, 3), (0, (w : Int)), (0, 1000), (0, ((i + 1 : Nat) : Int)), (0, 42)], _, [(2, rf 0), (0, (w : Int))], _, by omega, ?_, ?_, a2, i + 1, j2 + 1, _, rfl, rfl, rfl, h3, by omega, by omega, by omega⟩
      · clear h3 em ih
        generalize ud (ud m2 (cc + 1) j2 (-1 - 42)) cc 2 ((j2 + 1 : Nat) : Int) = m3 at *
        simp -implicitDefEqProofs (disch := omega) [kX8_readJoined_0c, kX8_readJoined_0b, kX8_readJoined_0u, v_cop, v_c1, v_c2, v_c3, v_c4, v_c5, v_bin, v_bn, v_bn2, v_div, v_dv, v_dv2, v_une, v_un, v_loc, v_num, v_get, v_gt, v_ald, v_al, v_al2, v_len, v_ln, v_rl0, v_rl1, v_rl2, v_rl3, v_rl4, v_rl5, v_cmp, v_cp, v_cp2, v_zC, v_zc, v_con, v_kc, v_and, v_an1, v_an0, v_or, v_or1, v_or0, v_not, v_nt, v_boo, v_bo, v_cnd, v_cd1, v_cd0, v_cnc, v_cc1, v_cc0, v_ev0, v_ev, v_e1, v_e2, v_cve, v_cv, v_cse, v_cs, v_skip, v_seq, v_sq0, v_sq1, v_sqr, v_sts, v_st, v_inc, v_put, v_pt, v_pt2, v_fop, v_fo, v_fo2, v_ast, v_as, v_as2, v_as3, v_aop, v_ao, v_ao2, v_ao3, v_exs, v_ex, v_ifs, v_if1, v_if0, v_ret, v_rt, v_rez, v_rz, v_rev, v_brk, v_sws, v_sw, v_sw2, v_run, v_rb, v_turn, v_tu1, v_tu0, v_tu2, v_tu3, fst1, snd1, Option.map_some, Option.getD_some, enA, en, stE, okb, narV, rf_toNat, rf_nn, List.getElem?_cons_zero, List.getElem?_cons_succ, w32_id, w64_id, ite_t, ite_f, Int.toNat_add, Int.toNat_mul, dec_t, dec_f, sC_27, sC_1, h.cc.1.1, r0, t2', lv, e1, e2, q42, ad]
      · clear h3 ad ih
        generalize emM k2 (t + j2) 6 0 = k3 at *
        generalize hk1 : ud μM 0 7 ((b : Int) + 1) = k1 at *
        simp -implicitDefEqProofs (disch := omega) [kX12_products_0c, kX12_products_0b, kX12_products_0u, v_cop, v_c1, v_c2, v_c3, v_c4, v_c5, v_bin, v_bn, v_bn2, v_div, v_dv, v_dv2, v_une, v_un, v_loc, v_num, v_get, v_gt, v_ald, v_al, v_al2, v_len, v_ln, v_rl0, v_rl1, v_rl2, v_rl3, v_rl4, v_rl5, v_cmp, v_cp, v_cp2, v_zC, v_zc, v_con, v_kc, v_and, v_an1, v_an0, v_or, v_or1, v_or0, v_not, v_nt, v_boo, v_bo, v_cnd, v_cd1, v_cd0, v_cnc, v_cc1, v_cc0, v_ev0, v_ev, v_e1, v_e2, v_cve, v_cv, v_cse, v_cs, v_skip, v_seq, v_sq0, v_sq1, v_sqr, v_sts, v_st, v_inc, v_put, v_pt, v_pt2, v_fop, v_fo, v_fo2, v_ast, v_as, v_as2, v_as3, v_aop, v_ao, v_ao2, v_ao3, v_exs, v_ex, v_ifs, v_if1, v_if0, v_ret, v_rt, v_rez, v_rz, v_rev, v_brk, v_sws, v_sw, v_sw2, v_run, v_rb, v_turn, v_tu1, v_tu0, v_tu2, v_tu3, fst1, snd1, Option.map_some, Option.getD_some, enA, en, stE, okb, narV, rf_toNat, rf_nn, List.getElem?_cons_zero, List.getElem?_cons_succ, w32_id, w64_id, ite_t, ite_f, Int.toNat_add, Int.toNat_mul, dec_t, dec_f, sM_0, a7, i42, hk1, e3, em]
    · -- a fault within
      have o := op
      rw [o] at t2' lv
      obtain ⟨k3, em, fx2, z8, z9, b3, mq3⟩ := fx.emit (o := 6) (v := 0) (a := b) (Nat.le_refl _) (by omega) lT.2
      rw [if_pos ⟨rfl, o⟩, if_pos ⟨rfl, o⟩] at i42
      have tM : turnS 2 3 (kX12_products_0c (gGX12_all y)) (kX12_products_0b (gGX12_all y)) (kX12_products_0u (gGX12_all y)) shM [(2, rf 0), (0, (w : Int))] μM = some (.inl ([(2, rf 0), (0, (w : Int))], k3)) := by
        clear ih fx fx2
        generalize hk1 : ud μM 0 7 ((b : Int) + 1) = k1 at *
        simp -implicitDefEqProofs (disch := omega) [kX12_products_0c, kX12_products_0b, kX12_products_0u, v_cop, v_c1, v_c2, v_c3, v_c4, v_c5, v_bin, v_bn, v_bn2, v_div, v_dv, v_dv2, v_une, v_un, v_loc, v_num, v_get, v_gt, v_ald, v_al, v_al2, v_len, v_ln, v_rl0, v_rl1, v_rl2, v_rl3, v_rl4, v_rl5, v_cmp, v_cp, v_cp2, v_zC, v_zc, v_con, v_kc, v_and, v_an1, v_an0, v_or, v_or1, v_or0, v_not, v_nt, v_boo, v_bo, v_cnd, v_cd1, v_cd0, v_cnc, v_cc1, v_cc0, v_ev0, v_ev, v_e1, v_e2, v_cve, v_cv, v_cse, v_cs, v_skip, v_seq, v_sq0, v_sq1, v_sqr, v_sts, v_st, v_inc, v_put, v_pt, v_pt2, v_fop, v_fo, v_fo2, v_ast, v_as, v_as2, v_as3, v_aop, v_ao, v_ao2, v_ao3, v_exs, v_ex, v_ifs, v_if1, v_if0, v_ret, v_rt, v_rez, v_rz, v_rev, v_brk, v_sws, v_sw, v_sw2, v_run, v_rb, v_turn, v_tu1, v_tu0, v_tu2, v_tu3, fst1, snd1, Option.map_some, Option.getD_some, enA, en, stE, okb, narV, rf_toNat, rf_nn, List.getElem?_cons_zero, List.getElem?_cons_succ, w32_id, w64_id, ite_t, ite_f, Int.toNat_add, Int.toNat_mul, dec_t, dec_f, sM_0, a7, i42, hk1, e3, em]
      have n42 := r_hasSign (x := 42) mq3 rfl (by decide)
      rw [if_neg (by omega), if_neg (by omega)] at n42
      have tM2 : turnS 2 3 (kX12_products_0c (gGX12_all y)) (kX12_products_0b (gGX12_all y)) (kX12_products_0u (gGX12_all y)) shM [(2, rf 0), (0, (w : Int))] k3 = some (.inr (0, 0, [(2, rf 0), (0, (w : Int))], k3)) := by
        simp -implicitDefEqProofs (disch := omega) [kX12_products_0c, v_cop, v_c1, v_c2, v_c3, v_c4, v_c5, v_bin, v_bn, v_bn2, v_div, v_dv, v_dv2, v_une, v_un, v_loc, v_num, v_get, v_gt, v_ald, v_al, v_al2, v_len, v_ln, v_rl0, v_rl1, v_rl2, v_rl3, v_rl4, v_rl5, v_cmp, v_cp, v_cp2, v_zC, v_zc, v_con, v_kc, v_and, v_an1, v_an0, v_or, v_or1, v_or0, v_not, v_nt, v_boo, v_bo, v_cnd, v_cd1, v_cd0, v_cnc, v_cc1, v_cc0, v_ev0, v_ev, v_e1, v_e2, v_cve, v_cv, v_cse, v_cs, v_skip, v_seq, v_sq0, v_sq1, v_sqr, v_sts, v_st, v_inc, v_put, v_pt, v_pt2, v_fop, v_fo, v_fo2, v_ast, v_as, v_as2, v_as3, v_aop, v_ao, v_ao2, v_ao3, v_exs, v_ex, v_ifs, v_if1, v_if0, v_ret, v_rt, v_rez, v_rz, v_rev, v_brk, v_sws, v_sw, v_sw2, v_run, v_rb, v_turn, v_tu1, v_tu0, v_tu2, v_tu3, fst1, snd1, Option.map_some, Option.getD_some, enA, en, stE, okb, narV, rf_toNat, rf_nn, List.getElem?_cons_zero, List.getElem?_cons_succ, w32_id, w64_id, ite_t, ite_f, Int.toNat_add, Int.toNat_mul, dec_t, dec_f, sM_0, n42]
      have tC : turnS 2 3 (kX8_readJoined_0c (gGX8_readJoined x)) (kX8_readJoined_0b (gGX8_readJoined x)) (kX8_readJoined_0u (gGX8_readJoined x)) shC [(2, rf 27), (0, 3), (0, (w : Int)), (0, 1000), (0, (i : Int)), t5] μC = some (.inr (1, 0, [(2, rf 27), (0, 3), (0, (w : Int)), (0, 1000), (0, (i : Int)), (0, 42)], m2)) := by
        clear ih fx fx2 tM tM2
        simp -implicitDefEqProofs (disch := omega) [kX8_readJoined_0c, kX8_readJoined_0b, kX8_readJoined_0u, v_cop, v_c1, v_c2, v_c3, v_c4, v_c5, v_bin, v_bn, v_bn2, v_div, v_dv, v_dv2, v_une, v_un, v_loc, v_num, v_get, v_gt, v_ald, v_al, v_al2, v_len, v_ln, v_rl0, v_rl1, v_rl2, v_rl3, v_rl4, v_rl5, v_cmp, v_cp, v_cp2, v_zC, v_zc, v_con, v_kc, v_and, v_an1, v_an0, v_or, v_or1, v_or0, v_not, v_nt, v_boo, v_bo, v_cnd, v_cd1, v_cd0, v_cnc, v_cc1, v_cc0, v_ev0, v_ev, v_e1, v_e2, v_cve, v_cv, v_cse, v_cs, v_skip, v_seq, v_sq0, v_sq1, v_sqr, v_sts, v_st, v_inc, v_put, v_pt, v_pt2, v_fop, v_fo, v_fo2, v_ast, v_as, v_as2, v_as3, v_aop, v_ao, v_ao2, v_ao3, v_exs, v_ex, v_ifs, v_if1, v_if0, v_ret, v_rt, v_rez, v_rz, v_rev, v_brk, v_sws, v_sw, v_sw2, v_run, v_rb, v_turn, v_tu1, v_tu0, v_tu2, v_tu3, fst1, snd1, Option.map_some, Option.getD_some, enA, en, stE, okb, narV, rf_toNat, rf_nn, List.getElem?_cons_zero, List.getElem?_cons_succ, w32_id, w64_id, ite_t, ite_f, Int.toNat_add, Int.toNat_mul, dec_t, dec_f, sC_27, sC_1, r0, t2', lv, e1, e2]
      exact .inr ⟨_, _, turn_end tC, (turn_go tM).trans (turn_end tM2), .inr ⟨m2, k3, _, _, rfl, rfl, fx2.le ab jb⟩⟩
  · have lvl := lv_n3 op
    rw [if_neg (fun q => op q.2), if_neg (fun q => op q.2)] at i42
    have tM : turnS 2 3 (kX12_products_0c (gGX12_all y)) (kX12_products_0b (gGX12_all y)) (kX12_products_0u (gGX12_all y)) shM [(2, rf 0), (0, (w : Int))] μM = some (.inr (0, 0, [(2, rf 0), (0, (w : Int))], μM)) := by
      clear ih
      simp -implicitDefEqProofs (disch := omega) [kX12_products_0c, v_cop, v_c1, v_c2, v_c3, v_c4, v_c5, v_bin, v_bn, v_bn2, v_div, v_dv, v_dv2, v_une, v_un, v_loc, v_num, v_get, v_gt, v_ald, v_al, v_al2, v_len, v_ln, v_rl0, v_rl1, v_rl2, v_rl3, v_rl4, v_rl5, v_cmp, v_cp, v_cp2, v_zC, v_zc, v_con, v_kc, v_and, v_an1, v_an0, v_or, v_or1, v_or0, v_not, v_nt, v_boo, v_bo, v_cnd, v_cd1, v_cd0, v_cnc, v_cc1, v_cc0, v_ev0, v_ev, v_e1, v_e2, v_cve, v_cv, v_cse, v_cs, v_skip, v_seq, v_sq0, v_sq1, v_sqr, v_sts, v_st, v_inc, v_put, v_pt, v_pt2, v_fop, v_fo, v_fo2, v_ast, v_as, v_as2, v_as3, v_aop, v_ao, v_ao2, v_ao3, v_exs, v_ex, v_ifs, v_if1, v_if0, v_ret, v_rt, v_rez, v_rz, v_rev, v_brk, v_sws, v_sw, v_sw2, v_run, v_rb, v_turn, v_tu1, v_tu0, v_tu2, v_tu3, fst1, snd1, Option.map_some, Option.getD_some, enA, en, stE, okb, narV, rf_toNat, rf_nn, List.getElem?_cons_zero, List.getElem?_cons_succ, w32_id, w64_id, ite_t, ite_f, Int.toNat_add, Int.toNat_mul, dec_t, dec_f, sM_0, i42]
    have tC : turnS 2 3 (kX8_readJoined_0c (gGX8_readJoined x)) (kX8_readJoined_0b (gGX8_readJoined x)) (kX8_readJoined_0u (gGX8_readJoined x)) shC [(2, rf 27), (0, 3), (0, (w : Int)), (0, 1000), (0, (i : Int)), t5] μC = some (.inr (0, 0, [(2, rf 27), (0, 3), (0, (w : Int)), (0, 1000), (0, (i : Int)), t5], μC)) := by
      clear ih tM op
      generalize lvO (tkA c N b) = V at *
      by_cases i1 : i < 1000
      · simp -implicitDefEqProofs (disch := omega) [kX8_readJoined_0c, v_cop, v_c1, v_c2, v_c3, v_c4, v_c5, v_bin, v_bn, v_bn2, v_div, v_dv, v_dv2, v_une, v_un, v_loc, v_num, v_get, v_gt, v_ald, v_al, v_al2, v_len, v_ln, v_rl0, v_rl1, v_rl2, v_rl3, v_rl4, v_rl5, v_cmp, v_cp, v_cp2, v_zC, v_zc, v_con, v_kc, v_and, v_an1, v_an0, v_or, v_or1, v_or0, v_not, v_nt, v_boo, v_bo, v_cnd, v_cd1, v_cd0, v_cnc, v_cc1, v_cc0, v_ev0, v_ev, v_e1, v_e2, v_cve, v_cv, v_cse, v_cs, v_skip, v_seq, v_sq0, v_sq1, v_sqr, v_sts, v_st, v_inc, v_put, v_pt, v_pt2, v_fop, v_fo, v_fo2, v_ast, v_as, v_as2, v_as3, v_aop, v_ao, v_ao2, v_ao3, v_exs, v_ex, v_ifs, v_if1, v_if0, v_ret, v_rt, v_rez, v_rz, v_rev, v_brk, v_sws, v_sw, v_sw2, v_run, v_rb, v_turn, v_tu1, v_tu0, v_tu2, v_tu3, fst1, snd1, Option.map_some, Option.getD_some, enA, en, stE, okb, narV, rf_toNat, rf_nn, List.getElem?_cons_zero, List.getElem?_cons_succ, w32_id, w64_id, ite_t, ite_f, Int.toNat_add, Int.toNat_mul, dec_t, dec_f, sC_27, sC_1, r0, t2', lv, lvl]
      · simp -implicitDefEqProofs (disch := omega) [kX8_readJoined_0c, v_cop, v_c1, v_c2, v_c3, v_c4, v_c5, v_bin, v_bn, v_bn2, v_div, v_dv, v_dv2, v_une, v_un, v_loc, v_num, v_get, v_gt, v_ald, v_al, v_al2, v_len, v_ln, v_rl0, v_rl1, v_rl2, v_rl3, v_rl4, v_rl5, v_cmp, v_cp, v_cp2, v_zC, v_zc, v_con, v_kc, v_and, v_an1, v_an0, v_or, v_or1, v_or0, v_not, v_nt, v_boo, v_bo, v_cnd, v_cd1, v_cd0, v_cnc, v_cc1, v_cc0, v_ev0, v_ev, v_e1, v_e2, v_cve, v_cv, v_cse, v_cs, v_skip, v_seq, v_sq0, v_sq1, v_sqr, v_sts, v_st, v_inc, v_put, v_pt, v_pt2, v_fop, v_fo, v_fo2, v_ast, v_as, v_as2, v_as3, v_aop, v_ao, v_ao2, v_ao3, v_exs, v_ex, v_ifs, v_if1, v_if0, v_ret, v_rt, v_rez, v_rz, v_rev, v_brk, v_sws, v_sw, v_sw2, v_run, v_rb, v_turn, v_tu1, v_tu0, v_tu2, v_tu3, fst1, snd1, Option.map_some, Option.getD_some, enA, en, stE, okb, narV, rf_toNat, rf_nn, List.getElem?_cons_zero, List.getElem?_cons_succ, w32_id, w64_id, ite_t, ite_f, Int.toNat_add, Int.toNat_mul, dec_t, dec_f, sC_27, sC_1, r0, t2', lv, lvl]
    exact .inr ⟨_, _, turn_end tC, turn_end tM, .inl ⟨b, j1, μC, μM, _, _, rfl, rfl, h, ab, jb⟩⟩
set_option maxRecDepth 100000 in theorem b_lev3 {mC mM bC bM : Mem} {c : Nat → Int} {N T d cc t w x y : Nat} {W : List Int} {s : Int} (w5 : w ≤ 5) (ih : EJd mC mM bC bM c N T d cc W t s 4 3 w x y) : EJd mC mM bC bM c N T d cc W t s 3 1 w (x + 1) (y + 1) := by
  intro μC μM a j D h hj D0 D1
  rw [gJ0, gA1, show ((3 : Nat) : Int) = 3 from rfl]
  have sub := ih μC μM a j D h hj D0 (by omega)
  rw [show ((4 : Nat) : Int) = 4 from rfl] at sub
  rcases sub with ⟨a2, j2, m2, k2, e2, e3, h2, l1, l2⟩ | ⟨m2, k2, e2, e3, fx⟩
  · obtain ⟨rC, rM, lC, lM, hq⟩ := b_loop3 w5 ih D0 D1 hj (T - a2) [(2, rf 27), (0, 3), (0, (w : Int)), (0, 1000), (0, ((0 : Nat) : Int)), (3, 0)] m2 [(2, rf 0), (0, (w : Int))] k2 ⟨a2, 0, j2, (3, 0), rfl, rfl, rfl, h2, l1, l2, Nat.zero_le _⟩
    rw [show ((0 : Nat) : Int) = 0 from rfl] at lC
    rcases hq with ⟨a', j', m3, k3, eC, eM, rfl, rfl, h3, g1, g2⟩ | ⟨m3, k3, eC, eM, rfl, rfl, fx⟩
    · refine .inl ⟨a', j', m3, k3, ?_, ?_, h3, g1, g2⟩
      · clear ih
        simp -implicitDefEqProofs (disch := omega) [bX8_readJoined, kX8_readJoined_0, v_cop, v_c1, v_c2, v_c3, v_c4, v_c5, v_bin, v_bn, v_bn2, v_div, v_dv, v_dv2, v_une, v_un, v_loc, v_num, v_get, v_gt, v_ald, v_al, v_al2, v_len, v_ln, v_rl0, v_rl1, v_rl2, v_rl3, v_rl4, v_rl5, v_cmp, v_cp, v_cp2, v_zC, v_zc, v_con, v_kc, v_and, v_an1, v_an0, v_or, v_or1, v_or0, v_not, v_nt, v_boo, v_bo, v_cnd, v_cd1, v_cd0, v_cnc, v_cc1, v_cc0, v_ev0, v_ev, v_e1, v_e2, v_cve, v_cv, v_cse, v_cs, v_skip, v_seq, v_sq0, v_sq1, v_sqr, v_sts, v_st, v_inc, v_put, v_pt, v_pt2, v_fop, v_fo, v_fo2, v_ast, v_as, v_as2, v_as3, v_aop, v_ao, v_ao2, v_ao3, v_exs, v_ex, v_ifs, v_if1, v_if0, v_ret, v_rt, v_rez, v_rz, v_rev, v_brk, v_sws, v_sw, v_sw2, v_run, v_rb, v_turn, v_tu1, v_tu0, v_tu2, v_tu3, fst1, snd1, Option.map_some, Option.getD_some, enA, en, stE, okb, narV, rf_toNat, rf_nn, List.getElem?_cons_zero, List.getElem?_cons_succ, w32_id, w64_id, ite_t, ite_f, Int.toNat_add, Int.toNat_mul, dec_t, dec_f, sC_27, e2, lC]
      · clear ih
        simp -implicitDefEqProofs (disch := omega) [bX12_products, kX12_products_0, v_cop, v_c1, v_c2, v_c3, v_c4, v_c5, v_bin, v_bn, v_bn2, v_div, v_dv, v_dv2, v_une, v_un, v_loc, v_num, v_get, v_gt, v_ald, v_al, v_al2, v_len, v_ln, v_rl0, v_rl1, v_rl2, v_rl3, v_rl4, v_rl5, v_cmp, v_cp, v_cp2, v_zC, v_zc, v_con, v_kc, v_and, v_an1, v_an0, v_or, v_or1, v_or0, v_not, v_nt, v_boo, v_bo, v_cnd, v_cd1, v_cd0, v_cnc, v_cc1, v_cc0, v_ev0, v_ev, v_e1, v_e2, v_cve, v_cv, v_cse, v_cs, v_skip, v_seq, v_sq0, v_sq1, v_sqr, v_sts, v_st, v_inc, v_put, v_pt, v_pt2, v_fop, v_fo, v_fo2, v_ast, v_as, v_as2, v_as3, v_aop, v_ao, v_ao2, v_ao3, v_exs, v_ex, v_ifs, v_if1, v_if0, v_ret, v_rt, v_rez, v_rz, v_rev, v_brk, v_sws, v_sw, v_sw2, v_run, v_rb, v_turn, v_tu1, v_tu0, v_tu2, v_tu3, fst1, snd1, Option.map_some, Option.getD_some, enA, en, stE, okb, narV, rf_toNat, rf_nn, List.getElem?_cons_zero, List.getElem?_cons_succ, w32_id, w64_id, ite_t, ite_f, Int.toNat_add, Int.toNat_mul, dec_t, dec_f, sM_0, e3, lM]
    · refine .inr ⟨m3, k3, ?_, ?_, fx⟩
      · clear ih
        simp -implicitDefEqProofs (disch := omega) [bX8_readJoined, kX8_readJoined_0, v_cop, v_c1, v_c2, v_c3, v_c4, v_c5, v_bin, v_bn, v_bn2, v_div, v_dv, v_dv2, v_une, v_un, v_loc, v_num, v_get, v_gt, v_ald, v_al, v_al2, v_len, v_ln, v_rl0, v_rl1, v_rl2, v_rl3, v_rl4, v_rl5, v_cmp, v_cp, v_cp2, v_zC, v_zc, v_con, v_kc, v_and, v_an1, v_an0, v_or, v_or1, v_or0, v_not, v_nt, v_boo, v_bo, v_cnd, v_cd1, v_cd0, v_cnc, v_cc1, v_cc0, v_ev0, v_ev, v_e1, v_e2, v_cve, v_cv, v_cse, v_cs, v_skip, v_seq, v_sq0, v_sq1, v_sqr, v_sts, v_st, v_inc, v_put, v_pt, v_pt2, v_fop, v_fo, v_fo2, v_ast, v_as, v_as2, v_as3, v_aop, v_ao, v_ao2, v_ao3, v_exs, v_ex, v_ifs, v_if1, v_if0, v_ret, v_rt, v_rez, v_rz, v_rev, v_brk, v_sws, v_sw, v_sw2, v_run, v_rb, v_turn, v_tu1, v_tu0, v_tu2, v_tu3, fst1, snd1, Option.map_some, Option.getD_some, enA, en, stE, okb, narV, rf_toNat, rf_nn, List.getElem?_cons_zero, List.getElem?_cons_succ, w32_id, w64_id, ite_t, ite_f, Int.toNat_add, Int.toNat_mul, dec_t, dec_f, sC_27, e2, lC]
      · clear ih
        simp -implicitDefEqProofs (disch := omega) [bX12_products, kX12_products_0, v_cop, v_c1, v_c2, v_c3, v_c4, v_c5, v_bin, v_bn, v_bn2, v_div, v_dv, v_dv2, v_une, v_un, v_loc, v_num, v_get, v_gt, v_ald, v_al, v_al2, v_len, v_ln, v_rl0, v_rl1, v_rl2, v_rl3, v_rl4, v_rl5, v_cmp, v_cp, v_cp2, v_zC, v_zc, v_con, v_kc, v_and, v_an1, v_an0, v_or, v_or1, v_or0, v_not, v_nt, v_boo, v_bo, v_cnd, v_cd1, v_cd0, v_cnc, v_cc1, v_cc0, v_ev0, v_ev, v_e1, v_e2, v_cve, v_cv, v_cse, v_cs, v_skip, v_seq, v_sq0, v_sq1, v_sqr, v_sts, v_st, v_inc, v_put, v_pt, v_pt2, v_fop, v_fo, v_fo2, v_ast, v_as, v_as2, v_as3, v_aop, v_ao, v_ao2, v_ao3, v_exs, v_ex, v_ifs, v_if1, v_if0, v_ret, v_rt, v_rez, v_rz, v_rev, v_brk, v_sws, v_sw, v_sw2, v_run, v_rb, v_turn, v_tu1, v_tu0, v_tu2, v_tu3, fst1, snd1, Option.map_some, Option.getD_some, enA, en, stE, okb, narV, rf_toNat, rf_nn, List.getElem?_cons_zero, List.getElem?_cons_succ, w32_id, w64_id, ite_t, ite_f, Int.toNat_add, Int.toNat_mul, dec_t, dec_f, sM_0, e3, lM]
  · obtain ⟨F, b3, z1, z2, mq3⟩ := fx_f fx
    have n42 := r_hasSign (x := 42) mq3 z2 (by decide)
    rw [if_neg (by omega), if_neg (by omega)] at n42
    have lM : loopS 2 3 (kX12_products_0c (gGX12_all y)) (kX12_products_0b (gGX12_all y)) (kX12_products_0u (gGX12_all y)) shM [(2, rf 0), (0, (w : Int))] k2 = some (0, 0, [(2, rf 0), (0, (w : Int))], k2) := turn_end (by
      simp -implicitDefEqProofs (disch := omega) [kX12_products_0c, v_cop, v_c1, v_c2, v_c3, v_c4, v_c5, v_bin, v_bn, v_bn2, v_div, v_dv, v_dv2, v_une, v_un, v_loc, v_num, v_get, v_gt, v_ald, v_al, v_al2, v_len, v_ln, v_rl0, v_rl1, v_rl2, v_rl3, v_rl4, v_rl5, v_cmp, v_cp, v_cp2, v_zC, v_zc, v_con, v_kc, v_and, v_an1, v_an0, v_or, v_or1, v_or0, v_not, v_nt, v_boo, v_bo, v_cnd, v_cd1, v_cd0, v_cnc, v_cc1, v_cc0, v_ev0, v_ev, v_e1, v_e2, v_cve, v_cv, v_cse, v_cs, v_skip, v_seq, v_sq0, v_sq1, v_sqr, v_sts, v_st, v_inc, v_put, v_pt, v_pt2, v_fop, v_fo, v_fo2, v_ast, v_as, v_as2, v_as3, v_aop, v_ao, v_ao2, v_ao3, v_exs, v_ex, v_ifs, v_if1, v_if0, v_ret, v_rt, v_rez, v_rz, v_rev, v_brk, v_sws, v_sw, v_sw2, v_run, v_rb, v_turn, v_tu1, v_tu0, v_tu2, v_tu3, fst1, snd1, Option.map_some, Option.getD_some, enA, en, stE, okb, narV, rf_toNat, rf_nn, List.getElem?_cons_zero, List.getElem?_cons_succ, w32_id, w64_id, ite_t, ite_f, Int.toNat_add, Int.toNat_mul, dec_t, dec_f, sM_0, n42])
    refine .inr ⟨m2, k2, ?_, ?_, fx⟩
    · clear ih
      simp -implicitDefEqProofs (disch := omega) [bX8_readJoined, v_cop, v_c1, v_c2, v_c3, v_c4, v_c5, v_bin, v_bn, v_bn2, v_div, v_dv, v_dv2, v_une, v_un, v_loc, v_num, v_get, v_gt, v_ald, v_al, v_al2, v_len, v_ln, v_rl0, v_rl1, v_rl2, v_rl3, v_rl4, v_rl5, v_cmp, v_cp, v_cp2, v_zC, v_zc, v_con, v_kc, v_and, v_an1, v_an0, v_or, v_or1, v_or0, v_not, v_nt, v_boo, v_bo, v_cnd, v_cd1, v_cd0, v_cnc, v_cc1, v_cc0, v_ev0, v_ev, v_e1, v_e2, v_cve, v_cv, v_cse, v_cs, v_skip, v_seq, v_sq0, v_sq1, v_sqr, v_sts, v_st, v_inc, v_put, v_pt, v_pt2, v_fop, v_fo, v_fo2, v_ast, v_as, v_as2, v_as3, v_aop, v_ao, v_ao2, v_ao3, v_exs, v_ex, v_ifs, v_if1, v_if0, v_ret, v_rt, v_rez, v_rz, v_rev, v_brk, v_sws, v_sw, v_sw2, v_run, v_rb, v_turn, v_tu1, v_tu0, v_tu2, v_tu3, fst1, snd1, Option.map_some, Option.getD_some, enA, en, stE, okb, narV, rf_toNat, rf_nn, List.getElem?_cons_zero, List.getElem?_cons_succ, w32_id, w64_id, ite_t, ite_f, Int.toNat_add, Int.toNat_mul, dec_t, dec_f, sC_27, e2]
    · clear ih
      simp -implicitDefEqProofs (disch := omega) [bX12_products, kX12_products_0, v_cop, v_c1, v_c2, v_c3, v_c4, v_c5, v_bin, v_bn, v_bn2, v_div, v_dv, v_dv2, v_une, v_un, v_loc, v_num, v_get, v_gt, v_ald, v_al, v_al2, v_len, v_ln, v_rl0, v_rl1, v_rl2, v_rl3, v_rl4, v_rl5, v_cmp, v_cp, v_cp2, v_zC, v_zc, v_con, v_kc, v_and, v_an1, v_an0, v_or, v_or1, v_or0, v_not, v_nt, v_boo, v_bo, v_cnd, v_cd1, v_cd0, v_cnc, v_cc1, v_cc0, v_ev0, v_ev, v_e1, v_e2, v_cve, v_cv, v_cse, v_cs, v_skip, v_seq, v_sq0, v_sq1, v_sqr, v_sts, v_st, v_inc, v_put, v_pt, v_pt2, v_fop, v_fo, v_fo2, v_ast, v_as, v_as2, v_as3, v_aop, v_ao, v_ao2, v_ao3, v_exs, v_ex, v_ifs, v_if1, v_if0, v_ret, v_rt, v_rez, v_rz, v_rev, v_brk, v_sws, v_sw, v_sw2, v_run, v_rb, v_turn, v_tu1, v_tu0, v_tu2, v_tu3, fst1, snd1, Option.map_some, Option.getD_some, enA, en, stE, okb, narV, rf_toNat, rf_nn, List.getElem?_cons_zero, List.getElem?_cons_succ, w32_id, w64_id, ite_t, ite_f, Int.toNat_add, Int.toNat_mul, dec_t, dec_f, sM_0, e3, lM]
set_option maxRecDepth 100000 in theorem b_loop2 {mC mM bC bM : Mem} {c : Nat → Int} {N T d cc t w x y a j : Nat} {W : List Int} {s D : Int} (w5 : w ≤ 5) (ih : EJd mC mM bC bM c N T d cc W t s 3 1 w x y) (D0 : 0 ≤ D) (D1 : D ≤ 4 * (w : Int) + 2) (hj : t + j + 1 ≤ a) : ∀ z eC mC' eM mM', (∃ (b i : Nat) (j1 : Nat) (t5 t2 : Nat × Int), z = T - b ∧ eC = [(2, rf 27), (0, 2), (0, (w : Int)), (0, 1000), (0, (i : Int)), t5] ∧ eM = [(2, rf 0), (0, (w : Int)), t2] ∧ LwS mC mM bC bM c N T d cc W t s mC' mM' b j1 (D + 1) ∧ a ≤ b ∧ j1 + a ≤ j + b ∧ i ≤ b) → ∃ rC rM, loopS 2 3 (kX8_readJoined_0c (gGX8_readJoined x)) (kX8_readJoined_0b (gGX8_readJoined x)) (kX8_readJoined_0u (gGX8_readJoined x)) shC eC mC' = some rC ∧ loopS 2 3 (kX12_sums_0c (gGX12_all y)) (kX12_sums_0b (gGX12_all y)) (kX12_sums_0u (gGX12_all y)) shM eM mM' = some rM ∧ LQd mC mM bC bM c N T d cc W t s a j D rC rM := by
  refine joint2 (S := fun z eC mC' eM mM' => ∃ (b i : Nat) (j1 : Nat) (t5 t2 : Nat × Int), z = T - b ∧ eC = [(2, rf 27), (0, 2), (0, (w : Int)), (0, 1000), (0, (i : Int)), t5] ∧ eM = [(2, rf 0), (0, (w : Int)), t2] ∧ LwS mC mM bC bM c N T d cc W t s mC' mM' b j1 (D + 1) ∧ a ≤ b ∧ j1 + a ≤ j + b ∧ i ≤ b) (Q := LQd mC mM bC bM c N T d cc W t s a j D) ?_
  rintro z eC μC eM μM ⟨b, i, j1, t5, t2, rfl, rfl, rfl, h, ab, jb, ib⟩
  have p := h.1
  have lT := p.la
  have lb := p.mq.pl.2.2
  have t2' := p.rq.t2
  have r0 := p.rq.2.2.2.1
  have q4 := h.2.2.1
  have a7 := p.a7
  have f0 := p.f0
  have hc := h.2.1.c
  have lv := c_level μC (tkA c N b)

  have i43 := r_isSig (x := 43) p.mq p.f0 (by decide)
  have i45 := r_isSig (x := 45) p.mq p.f0 (by decide)
  by_cases op : tkA c N b = 43 ∨ tkA c N b = 45
  · have bT := p.lt (by omega)
    have lvl : lvO (tkA c N b) = 2 := by
      rcases op with o | o <;> rw [o] <;> decide
    rw [lvl] at lv
    obtain ⟨m1, e1, h1⟩ := h.adv bT
    have sub := ih m1 (ud μM 0 7 ((b : Int) + 1)) (b + 1) j1 (D + 1) h1 (by omega) (by omega) (by omega)
    rw [show ((3 : Nat) : Int) = 3 from rfl] at sub
    rcases sub with ⟨a2, j2, m2, k2, e2, e3, h2, l1, l2⟩ | ⟨m2, k2, e2, e3, fx⟩
    · have q42 := h2.2.2.1
      rcases op with o | o
      · rw [o] at t2' lv
        have ad := h2.addT (by omega) (v := 43) (k := 43) rfl (by decide)
        obtain ⟨em, h3⟩ := h2.emit (o := 4) (v := 0) (by omega) ⟨by decide, by decide, fun q => absurd q (by decide), fun q => absurd q (by decide)⟩ ⟨by omega, fun q => absurd q (by decide), fun q => absurd q (by decide), fun _ _ => by omega⟩
        rw [if_neg (by decide), if_neg (by decide), show D + 1 + 1 + -1 = D + 1 by omega] at h3
        have en1 : enI W 4 0 = -1 - 43 := by
          unfold enI tkI
          rw [if_neg (by decide), if_neg (by decide)]
          decide
        rw [en1] at h3
        rw [if_pos ⟨rfl, o⟩] at i43
        rw [if_neg (fun q => by have := q.2; omega)] at i45
        refine .inl ⟨T - a2, [(2, rf 27), (0, 2), (0, (w : Int)), (0, 1000), (0, ((i + 1 : Nat) : Int)), (0, 43)], _, [(2, rf 0), (0, (w : Int)), (0, 1)], _, by omega, ?_, ?_, a2, i + 1, j2 + 1, _, _, rfl, rfl, rfl, h3, by omega, by omega, by omega⟩
        · clear h3 em ih
          generalize ud (ud m2 (cc + 1) j2 (-1 - 43)) cc 2 ((j2 + 1 : Nat) : Int) = m3 at *
          simp -implicitDefEqProofs (disch := omega) [kX8_readJoined_0c, kX8_readJoined_0b, kX8_readJoined_0u, v_cop, v_c1, v_c2, v_c3, v_c4, v_c5, v_bin, v_bn, v_bn2, v_div, v_dv, v_dv2, v_une, v_un, v_loc, v_num, v_get, v_gt, v_ald, v_al, v_al2, v_len, v_ln, v_rl0, v_rl1, v_rl2, v_rl3, v_rl4, v_rl5, v_cmp, v_cp, v_cp2, v_zC, v_zc, v_con, v_kc, v_and, v_an1, v_an0, v_or, v_or1, v_or0, v_not, v_nt, v_boo, v_bo, v_cnd, v_cd1, v_cd0, v_cnc, v_cc1, v_cc0, v_ev0, v_ev, v_e1, v_e2, v_cve, v_cv, v_cse, v_cs, v_skip, v_seq, v_sq0, v_sq1, v_sqr, v_sts, v_st, v_inc, v_put, v_pt, v_pt2, v_fop, v_fo, v_fo2, v_ast, v_as, v_as2, v_as3, v_aop, v_ao, v_ao2, v_ao3, v_exs, v_ex, v_ifs, v_if1, v_if0, v_ret, v_rt, v_rez, v_rz, v_rev, v_brk, v_sws, v_sw, v_sw2, v_run, v_rb, v_turn, v_tu1, v_tu0, v_tu2, v_tu3, fst1, snd1, Option.map_some, Option.getD_some, enA, en, stE, okb, narV, rf_toNat, rf_nn, List.getElem?_cons_zero, List.getElem?_cons_succ, w32_id, w64_id, ite_t, ite_f, Int.toNat_add, Int.toNat_mul, dec_t, dec_f, sC_27, sC_1, h.cc.1.1, r0, t2', lv, e1, e2, q42, ad]
        · clear h3 ad ih
          generalize emM k2 (t + j2) 4 0 = k3 at *
          generalize hk1 : ud μM 0 7 ((b : Int) + 1) = k1 at *
          simp -implicitDefEqProofs (disch := omega) [kX12_sums_0c, kX12_sums_0b, kX12_sums_0u, v_cop, v_c1, v_c2, v_c3, v_c4, v_c5, v_bin, v_bn, v_bn2, v_div, v_dv, v_dv2, v_une, v_un, v_loc, v_num, v_get, v_gt, v_ald, v_al, v_al2, v_len, v_ln, v_rl0, v_rl1, v_rl2, v_rl3, v_rl4, v_rl5, v_cmp, v_cp, v_cp2, v_zC, v_zc, v_con, v_kc, v_and, v_an1, v_an0, v_or, v_or1, v_or0, v_not, v_nt, v_boo, v_bo, v_cnd, v_cd1, v_cd0, v_cnc, v_cc1, v_cc0, v_ev0, v_ev, v_e1, v_e2, v_cve, v_cv, v_cse, v_cs, v_skip, v_seq, v_sq0, v_sq1, v_sqr, v_sts, v_st, v_inc, v_put, v_pt, v_pt2, v_fop, v_fo, v_fo2, v_ast, v_as, v_as2, v_as3, v_aop, v_ao, v_ao2, v_ao3, v_exs, v_ex, v_ifs, v_if1, v_if0, v_ret, v_rt, v_rez, v_rz, v_rev, v_brk, v_sws, v_sw, v_sw2, v_run, v_rb, v_turn, v_tu1, v_tu0, v_tu2, v_tu3, fst1, snd1, Option.map_some, Option.getD_some, enA, en, stE, okb, narV, rf_toNat, rf_nn, List.getElem?_cons_zero, List.getElem?_cons_succ, w32_id, w64_id, ite_t, ite_f, Int.toNat_add, Int.toNat_mul, dec_t, dec_f, sM_0, a7, i43, i45, hk1, e3, em]
      · rw [o] at t2' lv
        have ad := h2.addT (by omega) (v := 45) (k := 45) rfl (by decide)
        obtain ⟨em, h3⟩ := h2.emit (o := 5) (v := 0) (by omega) ⟨by decide, by decide, fun q => absurd q (by decide), fun q => absurd q (by decide)⟩ ⟨by omega, fun q => absurd q (by decide), fun q => absurd q (by decide), fun _ _ => by omega⟩
        rw [if_neg (by decide), if_neg (by decide), show D + 1 + 1 + -1 = D + 1 by omega] at h3
        have en1 : enI W 5 0 = -1 - 45 := by
          unfold enI tkI
          rw [if_neg (by decide), if_neg (by decide)]
          decide
        rw [en1] at h3
        rw [if_neg (fun q => by have := q.2; omega)] at i43
        rw [if_pos ⟨rfl, o⟩] at i45
        refine .inl ⟨T - a2, [(2, rf 27), (0, 2), (0, (w : Int)), (0, 1000), (0, ((i + 1 : Nat) : Int)), (0, 45)], _, [(2, rf 0), (0, (w : Int)), (0, 0)], _, by omega, ?_, ?_, a2, i + 1, j2 + 1, _, _, rfl, rfl, rfl, h3, by omega, by omega, by omega⟩
        · clear h3 em ih
          generalize ud (ud m2 (cc + 1) j2 (-1 - 45)) cc 2 ((j2 + 1 : Nat) : Int) = m3 at *
          simp -implicitDefEqProofs (disch := omega) [kX8_readJoined_0c, kX8_readJoined_0b, kX8_readJoined_0u, v_cop, v_c1, v_c2, v_c3, v_c4, v_c5, v_bin, v_bn, v_bn2, v_div, v_dv, v_dv2, v_une, v_un, v_loc, v_num, v_get, v_gt, v_ald, v_al, v_al2, v_len, v_ln, v_rl0, v_rl1, v_rl2, v_rl3, v_rl4, v_rl5, v_cmp, v_cp, v_cp2, v_zC, v_zc, v_con, v_kc, v_and, v_an1, v_an0, v_or, v_or1, v_or0, v_not, v_nt, v_boo, v_bo, v_cnd, v_cd1, v_cd0, v_cnc, v_cc1, v_cc0, v_ev0, v_ev, v_e1, v_e2, v_cve, v_cv, v_cse, v_cs, v_skip, v_seq, v_sq0, v_sq1, v_sqr, v_sts, v_st, v_inc, v_put, v_pt, v_pt2, v_fop, v_fo, v_fo2, v_ast, v_as, v_as2, v_as3, v_aop, v_ao, v_ao2, v_ao3, v_exs, v_ex, v_ifs, v_if1, v_if0, v_ret, v_rt, v_rez, v_rz, v_rev, v_brk, v_sws, v_sw, v_sw2, v_run, v_rb, v_turn, v_tu1, v_tu0, v_tu2, v_tu3, fst1, snd1, Option.map_some, Option.getD_some, enA, en, stE, okb, narV, rf_toNat, rf_nn, List.getElem?_cons_zero, List.getElem?_cons_succ, w32_id, w64_id, ite_t, ite_f, Int.toNat_add, Int.toNat_mul, dec_t, dec_f, sC_27, sC_1, h.cc.1.1, r0, t2', lv, e1, e2, q42, ad]
        · clear h3 ad ih
          generalize emM k2 (t + j2) 5 0 = k3 at *
          generalize hk1 : ud μM 0 7 ((b : Int) + 1) = k1 at *
          simp -implicitDefEqProofs (disch := omega) [kX12_sums_0c, kX12_sums_0b, kX12_sums_0u, v_cop, v_c1, v_c2, v_c3, v_c4, v_c5, v_bin, v_bn, v_bn2, v_div, v_dv, v_dv2, v_une, v_un, v_loc, v_num, v_get, v_gt, v_ald, v_al, v_al2, v_len, v_ln, v_rl0, v_rl1, v_rl2, v_rl3, v_rl4, v_rl5, v_cmp, v_cp, v_cp2, v_zC, v_zc, v_con, v_kc, v_and, v_an1, v_an0, v_or, v_or1, v_or0, v_not, v_nt, v_boo, v_bo, v_cnd, v_cd1, v_cd0, v_cnc, v_cc1, v_cc0, v_ev0, v_ev, v_e1, v_e2, v_cve, v_cv, v_cse, v_cs, v_skip, v_seq, v_sq0, v_sq1, v_sqr, v_sts, v_st, v_inc, v_put, v_pt, v_pt2, v_fop, v_fo, v_fo2, v_ast, v_as, v_as2, v_as3, v_aop, v_ao, v_ao2, v_ao3, v_exs, v_ex, v_ifs, v_if1, v_if0, v_ret, v_rt, v_rez, v_rz, v_rev, v_brk, v_sws, v_sw, v_sw2, v_run, v_rb, v_turn, v_tu1, v_tu0, v_tu2, v_tu3, fst1, snd1, Option.map_some, Option.getD_some, enA, en, stE, okb, narV, rf_toNat, rf_nn, List.getElem?_cons_zero, List.getElem?_cons_succ, w32_id, w64_id, ite_t, ite_f, Int.toNat_add, Int.toNat_mul, dec_t, dec_f, sM_0, a7, i43, i45, hk1, e3, em]
    · -- a fault within
      rcases op with o | o
      · rw [o] at t2' lv
        obtain ⟨k3, em, fx2, z8, z9, b3, mq3⟩ := fx.emit (o := 4) (v := 0) (a := b) (Nat.le_refl _) (by omega) lT.2
        rw [if_pos ⟨rfl, o⟩] at i43
        rw [if_neg (fun q => by have := q.2; omega)] at i45
        have tM : turnS 2 3 (kX12_sums_0c (gGX12_all y)) (kX12_sums_0b (gGX12_all y)) (kX12_sums_0u (gGX12_all y)) shM [(2, rf 0), (0, (w : Int)), t2] μM = some (.inl ([(2, rf 0), (0, (w : Int)), (0, 1)], k3)) := by
          clear ih fx fx2
          generalize hk1 : ud μM 0 7 ((b : Int) + 1) = k1 at *
          simp -implicitDefEqProofs (disch := omega) [kX12_sums_0c, kX12_sums_0b, kX12_sums_0u, v_cop, v_c1, v_c2, v_c3, v_c4, v_c5, v_bin, v_bn, v_bn2, v_div, v_dv, v_dv2, v_une, v_un, v_loc, v_num, v_get, v_gt, v_ald, v_al, v_al2, v_len, v_ln, v_rl0, v_rl1, v_rl2, v_rl3, v_rl4, v_rl5, v_cmp, v_cp, v_cp2, v_zC, v_zc, v_con, v_kc, v_and, v_an1, v_an0, v_or, v_or1, v_or0, v_not, v_nt, v_boo, v_bo, v_cnd, v_cd1, v_cd0, v_cnc, v_cc1, v_cc0, v_ev0, v_ev, v_e1, v_e2, v_cve, v_cv, v_cse, v_cs, v_skip, v_seq, v_sq0, v_sq1, v_sqr, v_sts, v_st, v_inc, v_put, v_pt, v_pt2, v_fop, v_fo, v_fo2, v_ast, v_as, v_as2, v_as3, v_aop, v_ao, v_ao2, v_ao3, v_exs, v_ex, v_ifs, v_if1, v_if0, v_ret, v_rt, v_rez, v_rz, v_rev, v_brk, v_sws, v_sw, v_sw2, v_run, v_rb, v_turn, v_tu1, v_tu0, v_tu2, v_tu3, fst1, snd1, Option.map_some, Option.getD_some, enA, en, stE, okb, narV, rf_toNat, rf_nn, List.getElem?_cons_zero, List.getElem?_cons_succ, w32_id, w64_id, ite_t, ite_f, Int.toNat_add, Int.toNat_mul, dec_t, dec_f, sM_0, a7, i43, i45, hk1, e3, em]
        have n43 := r_isSig (x := 43) mq3 rfl (by decide)
        rw [if_neg (by omega)] at n43
        have n45 := r_isSig (x := 45) mq3 rfl (by decide)
        rw [if_neg (by omega)] at n45
        have tM2 : turnS 2 3 (kX12_sums_0c (gGX12_all y)) (kX12_sums_0b (gGX12_all y)) (kX12_sums_0u (gGX12_all y)) shM [(2, rf 0), (0, (w : Int)), (0, 1)] k3 = some (.inr (0, 0, [(2, rf 0), (0, (w : Int)), (0, 1)], k3)) := by
          simp -implicitDefEqProofs (disch := omega) [kX12_sums_0c, v_cop, v_c1, v_c2, v_c3, v_c4, v_c5, v_bin, v_bn, v_bn2, v_div, v_dv, v_dv2, v_une, v_un, v_loc, v_num, v_get, v_gt, v_ald, v_al, v_al2, v_len, v_ln, v_rl0, v_rl1, v_rl2, v_rl3, v_rl4, v_rl5, v_cmp, v_cp, v_cp2, v_zC, v_zc, v_con, v_kc, v_and, v_an1, v_an0, v_or, v_or1, v_or0, v_not, v_nt, v_boo, v_bo, v_cnd, v_cd1, v_cd0, v_cnc, v_cc1, v_cc0, v_ev0, v_ev, v_e1, v_e2, v_cve, v_cv, v_cse, v_cs, v_skip, v_seq, v_sq0, v_sq1, v_sqr, v_sts, v_st, v_inc, v_put, v_pt, v_pt2, v_fop, v_fo, v_fo2, v_ast, v_as, v_as2, v_as3, v_aop, v_ao, v_ao2, v_ao3, v_exs, v_ex, v_ifs, v_if1, v_if0, v_ret, v_rt, v_rez, v_rz, v_rev, v_brk, v_sws, v_sw, v_sw2, v_run, v_rb, v_turn, v_tu1, v_tu0, v_tu2, v_tu3, fst1, snd1, Option.map_some, Option.getD_some, enA, en, stE, okb, narV, rf_toNat, rf_nn, List.getElem?_cons_zero, List.getElem?_cons_succ, w32_id, w64_id, ite_t, ite_f, Int.toNat_add, Int.toNat_mul, dec_t, dec_f, sM_0, n43, n45]
        have tC : turnS 2 3 (kX8_readJoined_0c (gGX8_readJoined x)) (kX8_readJoined_0b (gGX8_readJoined x)) (kX8_readJoined_0u (gGX8_readJoined x)) shC [(2, rf 27), (0, 2), (0, (w : Int)), (0, 1000), (0, (i : Int)), t5] μC = some (.inr (1, 0, [(2, rf 27), (0, 2), (0, (w : Int)), (0, 1000), (0, (i : Int)), (0, 43)], m2)) := by
          clear ih fx fx2 tM tM2
          simp -implicitDefEqProofs (disch := omega) [kX8_readJoined_0c, kX8_readJoined_0b, kX8_readJoined_0u, v_cop, v_c1, v_c2, v_c3, v_c4, v_c5, v_bin, v_bn, v_bn2, v_div, v_dv, v_dv2, v_une, v_un, v_loc, v_num, v_get, v_gt, v_ald, v_al, v_al2, v_len, v_ln, v_rl0, v_rl1, v_rl2, v_rl3, v_rl4, v_rl5, v_cmp, v_cp, v_cp2, v_zC, v_zc, v_con, v_kc, v_and, v_an1, v_an0, v_or, v_or1, v_or0, v_not, v_nt, v_boo, v_bo, v_cnd, v_cd1, v_cd0, v_cnc, v_cc1, v_cc0, v_ev0, v_ev, v_e1, v_e2, v_cve, v_cv, v_cse, v_cs, v_skip, v_seq, v_sq0, v_sq1, v_sqr, v_sts, v_st, v_inc, v_put, v_pt, v_pt2, v_fop, v_fo, v_fo2, v_ast, v_as, v_as2, v_as3, v_aop, v_ao, v_ao2, v_ao3, v_exs, v_ex, v_ifs, v_if1, v_if0, v_ret, v_rt, v_rez, v_rz, v_rev, v_brk, v_sws, v_sw, v_sw2, v_run, v_rb, v_turn, v_tu1, v_tu0, v_tu2, v_tu3, fst1, snd1, Option.map_some, Option.getD_some, enA, en, stE, okb, narV, rf_toNat, rf_nn, List.getElem?_cons_zero, List.getElem?_cons_succ, w32_id, w64_id, ite_t, ite_f, Int.toNat_add, Int.toNat_mul, dec_t, dec_f, sC_27, sC_1, r0, t2', lv, e1, e2]
        exact .inr ⟨_, _, turn_end tC, (turn_go tM).trans (turn_end tM2), .inr ⟨m2, k3, _, _, rfl, rfl, fx2.le ab jb⟩⟩
      · rw [o] at t2' lv
        obtain ⟨k3, em, fx2, z8, z9, b3, mq3⟩ := fx.emit (o := 5) (v := 0) (a := b) (Nat.le_refl _) (by omega) lT.2
        rw [if_neg (fun q => by have := q.2; omega)] at i43
        rw [if_pos ⟨rfl, o⟩] at i45
        have tM : turnS 2 3 (kX12_sums_0c (gGX12_all y)) (kX12_sums_0b (gGX12_all y)) (kX12_sums_0u (gGX12_all y)) shM [(2, rf 0), (0, (w : Int)), t2] μM = some (.inl ([(2, rf 0), (0, (w : Int)), (0, 0)], k3)) := by
          clear ih fx fx2
          generalize hk1 : ud μM 0 7 ((b : Int) + 1) = k1 at *
          simp -implicitDefEqProofs (disch := omega) [kX12_sums_0c, kX12_sums_0b, kX12_sums_0u, v_cop, v_c1, v_c2, v_c3, v_c4, v_c5, v_bin, v_bn, v_bn2, v_div, v_dv, v_dv2, v_une, v_un, v_loc, v_num, v_get, v_gt, v_ald, v_al, v_al2, v_len, v_ln, v_rl0, v_rl1, v_rl2, v_rl3, v_rl4, v_rl5, v_cmp, v_cp, v_cp2, v_zC, v_zc, v_con, v_kc, v_and, v_an1, v_an0, v_or, v_or1, v_or0, v_not, v_nt, v_boo, v_bo, v_cnd, v_cd1, v_cd0, v_cnc, v_cc1, v_cc0, v_ev0, v_ev, v_e1, v_e2, v_cve, v_cv, v_cse, v_cs, v_skip, v_seq, v_sq0, v_sq1, v_sqr, v_sts, v_st, v_inc, v_put, v_pt, v_pt2, v_fop, v_fo, v_fo2, v_ast, v_as, v_as2, v_as3, v_aop, v_ao, v_ao2, v_ao3, v_exs, v_ex, v_ifs, v_if1, v_if0, v_ret, v_rt, v_rez, v_rz, v_rev, v_brk, v_sws, v_sw, v_sw2, v_run, v_rb, v_turn, v_tu1, v_tu0, v_tu2, v_tu3, fst1, snd1, Option.map_some, Option.getD_some, enA, en, stE, okb, narV, rf_toNat, rf_nn, List.getElem?_cons_zero, List.getElem?_cons_succ, w32_id, w64_id, ite_t, ite_f, Int.toNat_add, Int.toNat_mul, dec_t, dec_f, sM_0, a7, i43, i45, hk1, e3, em]
        have n43 := r_isSig (x := 43) mq3 rfl (by decide)
        rw [if_neg (by omega)] at n43
        have n45 := r_isSig (x := 45) mq3 rfl (by decide)
        rw [if_neg (by omega)] at n45
        have tM2 : turnS 2 3 (kX12_sums_0c (gGX12_all y)) (kX12_sums_0b (gGX12_all y)) (kX12_sums_0u (gGX12_all y)) shM [(2, rf 0), (0, (w : Int)), (0, 0)] k3 = some (.inr (0, 0, [(2, rf 0), (0, (w : Int)), (0, 0)], k3)) := by
          simp -implicitDefEqProofs (disch := omega) [kX12_sums_0c, v_cop, v_c1, v_c2, v_c3, v_c4, v_c5, v_bin, v_bn, v_bn2, v_div, v_dv, v_dv2, v_une, v_un, v_loc, v_num, v_get, v_gt, v_ald, v_al, v_al2, v_len, v_ln, v_rl0, v_rl1, v_rl2, v_rl3, v_rl4, v_rl5, v_cmp, v_cp, v_cp2, v_zC, v_zc, v_con, v_kc, v_and, v_an1, v_an0, v_or, v_or1, v_or0, v_not, v_nt, v_boo, v_bo, v_cnd, v_cd1, v_cd0, v_cnc, v_cc1, v_cc0, v_ev0, v_ev, v_e1, v_e2, v_cve, v_cv, v_cse, v_cs, v_skip, v_seq, v_sq0, v_sq1, v_sqr, v_sts, v_st, v_inc, v_put, v_pt, v_pt2, v_fop, v_fo, v_fo2, v_ast, v_as, v_as2, v_as3, v_aop, v_ao, v_ao2, v_ao3, v_exs, v_ex, v_ifs, v_if1, v_if0, v_ret, v_rt, v_rez, v_rz, v_rev, v_brk, v_sws, v_sw, v_sw2, v_run, v_rb, v_turn, v_tu1, v_tu0, v_tu2, v_tu3, fst1, snd1, Option.map_some, Option.getD_some, enA, en, stE, okb, narV, rf_toNat, rf_nn, List.getElem?_cons_zero, List.getElem?_cons_succ, w32_id, w64_id, ite_t, ite_f, Int.toNat_add, Int.toNat_mul, dec_t, dec_f, sM_0, n43, n45]
        have tC : turnS 2 3 (kX8_readJoined_0c (gGX8_readJoined x)) (kX8_readJoined_0b (gGX8_readJoined x)) (kX8_readJoined_0u (gGX8_readJoined x)) shC [(2, rf 27), (0, 2), (0, (w : Int)), (0, 1000), (0, (i : Int)), t5] μC = some (.inr (1, 0, [(2, rf 27), (0, 2), (0, (w : Int)), (0, 1000), (0, (i : Int)), (0, 45)], m2)) := by
          clear ih fx fx2 tM tM2
          simp -implicitDefEqProofs (disch := omega) [kX8_readJoined_0c, kX8_readJoined_0b, kX8_readJoined_0u, v_cop, v_c1, v_c2, v_c3, v_c4, v_c5, v_bin, v_bn, v_bn2, v_div, v_dv, v_dv2, v_une, v_un, v_loc, v_num, v_get, v_gt, v_ald, v_al, v_al2, v_len, v_ln, v_rl0, v_rl1, v_rl2, v_rl3, v_rl4, v_rl5, v_cmp, v_cp, v_cp2, v_zC, v_zc, v_con, v_kc, v_and, v_an1, v_an0, v_or, v_or1, v_or0, v_not, v_nt, v_boo, v_bo, v_cnd, v_cd1, v_cd0, v_cnc, v_cc1, v_cc0, v_ev0, v_ev, v_e1, v_e2, v_cve, v_cv, v_cse, v_cs, v_skip, v_seq, v_sq0, v_sq1, v_sqr, v_sts, v_st, v_inc, v_put, v_pt, v_pt2, v_fop, v_fo, v_fo2, v_ast, v_as, v_as2, v_as3, v_aop, v_ao, v_ao2, v_ao3, v_exs, v_ex, v_ifs, v_if1, v_if0, v_ret, v_rt, v_rez, v_rz, v_rev, v_brk, v_sws, v_sw, v_sw2, v_run, v_rb, v_turn, v_tu1, v_tu0, v_tu2, v_tu3, fst1, snd1, Option.map_some, Option.getD_some, enA, en, stE, okb, narV, rf_toNat, rf_nn, List.getElem?_cons_zero, List.getElem?_cons_succ, w32_id, w64_id, ite_t, ite_f, Int.toNat_add, Int.toNat_mul, dec_t, dec_f, sC_27, sC_1, r0, t2', lv, e1, e2]
        exact .inr ⟨_, _, turn_end tC, (turn_go tM).trans (turn_end tM2), .inr ⟨m2, k3, _, _, rfl, rfl, fx2.le ab jb⟩⟩
  · have lvl := lv_n2 op
    rw [if_neg (fun q => op (by omega))] at i43
    rw [if_neg (fun q => op (by omega))] at i45
    have tM : turnS 2 3 (kX12_sums_0c (gGX12_all y)) (kX12_sums_0b (gGX12_all y)) (kX12_sums_0u (gGX12_all y)) shM [(2, rf 0), (0, (w : Int)), t2] μM = some (.inr (0, 0, [(2, rf 0), (0, (w : Int)), t2], μM)) := by
      clear ih
      simp -implicitDefEqProofs (disch := omega) [kX12_sums_0c, v_cop, v_c1, v_c2, v_c3, v_c4, v_c5, v_bin, v_bn, v_bn2, v_div, v_dv, v_dv2, v_une, v_un, v_loc, v_num, v_get, v_gt, v_ald, v_al, v_al2, v_len, v_ln, v_rl0, v_rl1, v_rl2, v_rl3, v_rl4, v_rl5, v_cmp, v_cp, v_cp2, v_zC, v_zc, v_con, v_kc, v_and, v_an1, v_an0, v_or, v_or1, v_or0, v_not, v_nt, v_boo, v_bo, v_cnd, v_cd1, v_cd0, v_cnc, v_cc1, v_cc0, v_ev0, v_ev, v_e1, v_e2, v_cve, v_cv, v_cse, v_cs, v_skip, v_seq, v_sq0, v_sq1, v_sqr, v_sts, v_st, v_inc, v_put, v_pt, v_pt2, v_fop, v_fo, v_fo2, v_ast, v_as, v_as2, v_as3, v_aop, v_ao, v_ao2, v_ao3, v_exs, v_ex, v_ifs, v_if1, v_if0, v_ret, v_rt, v_rez, v_rz, v_rev, v_brk, v_sws, v_sw, v_sw2, v_run, v_rb, v_turn, v_tu1, v_tu0, v_tu2, v_tu3, fst1, snd1, Option.map_some, Option.getD_some, enA, en, stE, okb, narV, rf_toNat, rf_nn, List.getElem?_cons_zero, List.getElem?_cons_succ, w32_id, w64_id, ite_t, ite_f, Int.toNat_add, Int.toNat_mul, dec_t, dec_f, sM_0, i43, i45]
    have tC : turnS 2 3 (kX8_readJoined_0c (gGX8_readJoined x)) (kX8_readJoined_0b (gGX8_readJoined x)) (kX8_readJoined_0u (gGX8_readJoined x)) shC [(2, rf 27), (0, 2), (0, (w : Int)), (0, 1000), (0, (i : Int)), t5] μC = some (.inr (0, 0, [(2, rf 27), (0, 2), (0, (w : Int)), (0, 1000), (0, (i : Int)), t5], μC)) := by
      clear ih tM op
      generalize lvO (tkA c N b) = V at *
      by_cases i1 : i < 1000
      · simp -implicitDefEqProofs (disch := omega) [kX8_readJoined_0c, v_cop, v_c1, v_c2, v_c3, v_c4, v_c5, v_bin, v_bn, v_bn2, v_div, v_dv, v_dv2, v_une, v_un, v_loc, v_num, v_get, v_gt, v_ald, v_al, v_al2, v_len, v_ln, v_rl0, v_rl1, v_rl2, v_rl3, v_rl4, v_rl5, v_cmp, v_cp, v_cp2, v_zC, v_zc, v_con, v_kc, v_and, v_an1, v_an0, v_or, v_or1, v_or0, v_not, v_nt, v_boo, v_bo, v_cnd, v_cd1, v_cd0, v_cnc, v_cc1, v_cc0, v_ev0, v_ev, v_e1, v_e2, v_cve, v_cv, v_cse, v_cs, v_skip, v_seq, v_sq0, v_sq1, v_sqr, v_sts, v_st, v_inc, v_put, v_pt, v_pt2, v_fop, v_fo, v_fo2, v_ast, v_as, v_as2, v_as3, v_aop, v_ao, v_ao2, v_ao3, v_exs, v_ex, v_ifs, v_if1, v_if0, v_ret, v_rt, v_rez, v_rz, v_rev, v_brk, v_sws, v_sw, v_sw2, v_run, v_rb, v_turn, v_tu1, v_tu0, v_tu2, v_tu3, fst1, snd1, Option.map_some, Option.getD_some, enA, en, stE, okb, narV, rf_toNat, rf_nn, List.getElem?_cons_zero, List.getElem?_cons_succ, w32_id, w64_id, ite_t, ite_f, Int.toNat_add, Int.toNat_mul, dec_t, dec_f, sC_27, sC_1, r0, t2', lv, lvl]
      · simp -implicitDefEqProofs (disch := omega) [kX8_readJoined_0c, v_cop, v_c1, v_c2, v_c3, v_c4, v_c5, v_bin, v_bn, v_bn2, v_div, v_dv, v_dv2, v_une, v_un, v_loc, v_num, v_get, v_gt, v_ald, v_al, v_al2, v_len, v_ln, v_rl0, v_rl1, v_rl2, v_rl3, v_rl4, v_rl5, v_cmp, v_cp, v_cp2, v_zC, v_zc, v_con, v_kc, v_and, v_an1, v_an0, v_or, v_or1, v_or0, v_not, v_nt, v_boo, v_bo, v_cnd, v_cd1, v_cd0, v_cnc, v_cc1, v_cc0, v_ev0, v_ev, v_e1, v_e2, v_cve, v_cv, v_cse, v_cs, v_skip, v_seq, v_sq0, v_sq1, v_sqr, v_sts, v_st, v_inc, v_put, v_pt, v_pt2, v_fop, v_fo, v_fo2, v_ast, v_as, v_as2, v_as3, v_aop, v_ao, v_ao2, v_ao3, v_exs, v_ex, v_ifs, v_if1, v_if0, v_ret, v_rt, v_rez, v_rz, v_rev, v_brk, v_sws, v_sw, v_sw2, v_run, v_rb, v_turn, v_tu1, v_tu0, v_tu2, v_tu3, fst1, snd1, Option.map_some, Option.getD_some, enA, en, stE, okb, narV, rf_toNat, rf_nn, List.getElem?_cons_zero, List.getElem?_cons_succ, w32_id, w64_id, ite_t, ite_f, Int.toNat_add, Int.toNat_mul, dec_t, dec_f, sC_27, sC_1, r0, t2', lv, lvl]
    exact .inr ⟨_, _, turn_end tC, turn_end tM, .inl ⟨b, j1, μC, μM, _, _, rfl, rfl, h, ab, jb⟩⟩
set_option maxRecDepth 100000 in theorem b_lev2 {mC mM bC bM : Mem} {c : Nat → Int} {N T d cc t w x y : Nat} {W : List Int} {s : Int} (w5 : w ≤ 5) (ih : EJd mC mM bC bM c N T d cc W t s 3 1 w x y) : EJd mC mM bC bM c N T d cc W t s 2 2 w (x + 1) (y + 1) := by
  intro μC μM a j D h hj D0 D1
  rw [gJ0, gA2, show ((2 : Nat) : Int) = 2 from rfl]
  have sub := ih μC μM a j D h hj D0 (by omega)
  rw [show ((3 : Nat) : Int) = 3 from rfl] at sub
  rcases sub with ⟨a2, j2, m2, k2, e2, e3, h2, l1, l2⟩ | ⟨m2, k2, e2, e3, fx⟩
  · obtain ⟨rC, rM, lC, lM, hq⟩ := b_loop2 w5 ih D0 D1 hj (T - a2) [(2, rf 27), (0, 2), (0, (w : Int)), (0, 1000), (0, ((0 : Nat) : Int)), (3, 0)] m2 [(2, rf 0), (0, (w : Int)), (3, 0)] k2 ⟨a2, 0, j2, (3, 0), (3, 0), rfl, rfl, rfl, h2, l1, l2, Nat.zero_le _⟩
    rw [show ((0 : Nat) : Int) = 0 from rfl] at lC
    rcases hq with ⟨a', j', m3, k3, eC, eM, rfl, rfl, h3, g1, g2⟩ | ⟨m3, k3, eC, eM, rfl, rfl, fx⟩
    · refine .inl ⟨a', j', m3, k3, ?_, ?_, h3, g1, g2⟩
      · clear ih
        simp -implicitDefEqProofs (disch := omega) [bX8_readJoined, kX8_readJoined_0, v_cop, v_c1, v_c2, v_c3, v_c4, v_c5, v_bin, v_bn, v_bn2, v_div, v_dv, v_dv2, v_une, v_un, v_loc, v_num, v_get, v_gt, v_ald, v_al, v_al2, v_len, v_ln, v_rl0, v_rl1, v_rl2, v_rl3, v_rl4, v_rl5, v_cmp, v_cp, v_cp2, v_zC, v_zc, v_con, v_kc, v_and, v_an1, v_an0, v_or, v_or1, v_or0, v_not, v_nt, v_boo, v_bo, v_cnd, v_cd1, v_cd0, v_cnc, v_cc1, v_cc0, v_ev0, v_ev, v_e1, v_e2, v_cve, v_cv, v_cse, v_cs, v_skip, v_seq, v_sq0, v_sq1, v_sqr, v_sts, v_st, v_inc, v_put, v_pt, v_pt2, v_fop, v_fo, v_fo2, v_ast, v_as, v_as2, v_as3, v_aop, v_ao, v_ao2, v_ao3, v_exs, v_ex, v_ifs, v_if1, v_if0, v_ret, v_rt, v_rez, v_rz, v_rev, v_brk, v_sws, v_sw, v_sw2, v_run, v_rb, v_turn, v_tu1, v_tu0, v_tu2, v_tu3, fst1, snd1, Option.map_some, Option.getD_some, enA, en, stE, okb, narV, rf_toNat, rf_nn, List.getElem?_cons_zero, List.getElem?_cons_succ, w32_id, w64_id, ite_t, ite_f, Int.toNat_add, Int.toNat_mul, dec_t, dec_f, sC_27, e2, lC]
      · clear ih
        simp -implicitDefEqProofs (disch := omega) [bX12_sums, kX12_sums_0, v_cop, v_c1, v_c2, v_c3, v_c4, v_c5, v_bin, v_bn, v_bn2, v_div, v_dv, v_dv2, v_une, v_un, v_loc, v_num, v_get, v_gt, v_ald, v_al, v_al2, v_len, v_ln, v_rl0, v_rl1, v_rl2, v_rl3, v_rl4, v_rl5, v_cmp, v_cp, v_cp2, v_zC, v_zc, v_con, v_kc, v_and, v_an1, v_an0, v_or, v_or1, v_or0, v_not, v_nt, v_boo, v_bo, v_cnd, v_cd1, v_cd0, v_cnc, v_cc1, v_cc0, v_ev0, v_ev, v_e1, v_e2, v_cve, v_cv, v_cse, v_cs, v_skip, v_seq, v_sq0, v_sq1, v_sqr, v_sts, v_st, v_inc, v_put, v_pt, v_pt2, v_fop, v_fo, v_fo2, v_ast, v_as, v_as2, v_as3, v_aop, v_ao, v_ao2, v_ao3, v_exs, v_ex, v_ifs, v_if1, v_if0, v_ret, v_rt, v_rez, v_rz, v_rev, v_brk, v_sws, v_sw, v_sw2, v_run, v_rb, v_turn, v_tu1, v_tu0, v_tu2, v_tu3, fst1, snd1, Option.map_some, Option.getD_some, enA, en, stE, okb, narV, rf_toNat, rf_nn, List.getElem?_cons_zero, List.getElem?_cons_succ, w32_id, w64_id, ite_t, ite_f, Int.toNat_add, Int.toNat_mul, dec_t, dec_f, sM_0, e3, lM]
    · refine .inr ⟨m3, k3, ?_, ?_, fx⟩
      · clear ih
        simp -implicitDefEqProofs (disch := omega) [bX8_readJoined, kX8_readJoined_0, v_cop, v_c1, v_c2, v_c3, v_c4, v_c5, v_bin, v_bn, v_bn2, v_div, v_dv, v_dv2, v_une, v_un, v_loc, v_num, v_get, v_gt, v_ald, v_al, v_al2, v_len, v_ln, v_rl0, v_rl1, v_rl2, v_rl3, v_rl4, v_rl5, v_cmp, v_cp, v_cp2, v_zC, v_zc, v_con, v_kc, v_and, v_an1, v_an0, v_or, v_or1, v_or0, v_not, v_nt, v_boo, v_bo, v_cnd, v_cd1, v_cd0, v_cnc, v_cc1, v_cc0, v_ev0, v_ev, v_e1, v_e2, v_cve, v_cv, v_cse, v_cs, v_skip, v_seq, v_sq0, v_sq1, v_sqr, v_sts, v_st, v_inc, v_put, v_pt, v_pt2, v_fop, v_fo, v_fo2, v_ast, v_as, v_as2, v_as3, v_aop, v_ao, v_ao2, v_ao3, v_exs, v_ex, v_ifs, v_if1, v_if0, v_ret, v_rt, v_rez, v_rz, v_rev, v_brk, v_sws, v_sw, v_sw2, v_run, v_rb, v_turn, v_tu1, v_tu0, v_tu2, v_tu3, fst1, snd1, Option.map_some, Option.getD_some, enA, en, stE, okb, narV, rf_toNat, rf_nn, List.getElem?_cons_zero, List.getElem?_cons_succ, w32_id, w64_id, ite_t, ite_f, Int.toNat_add, Int.toNat_mul, dec_t, dec_f, sC_27, e2, lC]
      · clear ih
        simp -implicitDefEqProofs (disch := omega) [bX12_sums, kX12_sums_0, v_cop, v_c1, v_c2, v_c3, v_c4, v_c5, v_bin, v_bn, v_bn2, v_div, v_dv, v_dv2, v_une, v_un, v_loc, v_num, v_get, v_gt, v_ald, v_al, v_al2, v_len, v_ln, v_rl0, v_rl1, v_rl2, v_rl3, v_rl4, v_rl5, v_cmp, v_cp, v_cp2, v_zC, v_zc, v_con, v_kc, v_and, v_an1, v_an0, v_or, v_or1, v_or0, v_not, v_nt, v_boo, v_bo, v_cnd, v_cd1, v_cd0, v_cnc, v_cc1, v_cc0, v_ev0, v_ev, v_e1, v_e2, v_cve, v_cv, v_cse, v_cs, v_skip, v_seq, v_sq0, v_sq1, v_sqr, v_sts, v_st, v_inc, v_put, v_pt, v_pt2, v_fop, v_fo, v_fo2, v_ast, v_as, v_as2, v_as3, v_aop, v_ao, v_ao2, v_ao3, v_exs, v_ex, v_ifs, v_if1, v_if0, v_ret, v_rt, v_rez, v_rz, v_rev, v_brk, v_sws, v_sw, v_sw2, v_run, v_rb, v_turn, v_tu1, v_tu0, v_tu2, v_tu3, fst1, snd1, Option.map_some, Option.getD_some, enA, en, stE, okb, narV, rf_toNat, rf_nn, List.getElem?_cons_zero, List.getElem?_cons_succ, w32_id, w64_id, ite_t, ite_f, Int.toNat_add, Int.toNat_mul, dec_t, dec_f, sM_0, e3, lM]
  · obtain ⟨F, b3, z1, z2, mq3⟩ := fx_f fx
    have n43 := r_isSig (x := 43) mq3 z2 (by decide)
    rw [if_neg (by omega)] at n43
    have n45 := r_isSig (x := 45) mq3 z2 (by decide)
    rw [if_neg (by omega)] at n45
    have lM : loopS 2 3 (kX12_sums_0c (gGX12_all y)) (kX12_sums_0b (gGX12_all y)) (kX12_sums_0u (gGX12_all y)) shM [(2, rf 0), (0, (w : Int)), (3, 0)] k2 = some (0, 0, [(2, rf 0), (0, (w : Int)), (3, 0)], k2) := turn_end (by
      simp -implicitDefEqProofs (disch := omega) [kX12_sums_0c, v_cop, v_c1, v_c2, v_c3, v_c4, v_c5, v_bin, v_bn, v_bn2, v_div, v_dv, v_dv2, v_une, v_un, v_loc, v_num, v_get, v_gt, v_ald, v_al, v_al2, v_len, v_ln, v_rl0, v_rl1, v_rl2, v_rl3, v_rl4, v_rl5, v_cmp, v_cp, v_cp2, v_zC, v_zc, v_con, v_kc, v_and, v_an1, v_an0, v_or, v_or1, v_or0, v_not, v_nt, v_boo, v_bo, v_cnd, v_cd1, v_cd0, v_cnc, v_cc1, v_cc0, v_ev0, v_ev, v_e1, v_e2, v_cve, v_cv, v_cse, v_cs, v_skip, v_seq, v_sq0, v_sq1, v_sqr, v_sts, v_st, v_inc, v_put, v_pt, v_pt2, v_fop, v_fo, v_fo2, v_ast, v_as, v_as2, v_as3, v_aop, v_ao, v_ao2, v_ao3, v_exs, v_ex, v_ifs, v_if1, v_if0, v_ret, v_rt, v_rez, v_rz, v_rev, v_brk, v_sws, v_sw, v_sw2, v_run, v_rb, v_turn, v_tu1, v_tu0, v_tu2, v_tu3, fst1, snd1, Option.map_some, Option.getD_some, enA, en, stE, okb, narV, rf_toNat, rf_nn, List.getElem?_cons_zero, List.getElem?_cons_succ, w32_id, w64_id, ite_t, ite_f, Int.toNat_add, Int.toNat_mul, dec_t, dec_f, sM_0, n43, n45])
    refine .inr ⟨m2, k2, ?_, ?_, fx⟩
    · clear ih
      simp -implicitDefEqProofs (disch := omega) [bX8_readJoined, v_cop, v_c1, v_c2, v_c3, v_c4, v_c5, v_bin, v_bn, v_bn2, v_div, v_dv, v_dv2, v_une, v_un, v_loc, v_num, v_get, v_gt, v_ald, v_al, v_al2, v_len, v_ln, v_rl0, v_rl1, v_rl2, v_rl3, v_rl4, v_rl5, v_cmp, v_cp, v_cp2, v_zC, v_zc, v_con, v_kc, v_and, v_an1, v_an0, v_or, v_or1, v_or0, v_not, v_nt, v_boo, v_bo, v_cnd, v_cd1, v_cd0, v_cnc, v_cc1, v_cc0, v_ev0, v_ev, v_e1, v_e2, v_cve, v_cv, v_cse, v_cs, v_skip, v_seq, v_sq0, v_sq1, v_sqr, v_sts, v_st, v_inc, v_put, v_pt, v_pt2, v_fop, v_fo, v_fo2, v_ast, v_as, v_as2, v_as3, v_aop, v_ao, v_ao2, v_ao3, v_exs, v_ex, v_ifs, v_if1, v_if0, v_ret, v_rt, v_rez, v_rz, v_rev, v_brk, v_sws, v_sw, v_sw2, v_run, v_rb, v_turn, v_tu1, v_tu0, v_tu2, v_tu3, fst1, snd1, Option.map_some, Option.getD_some, enA, en, stE, okb, narV, rf_toNat, rf_nn, List.getElem?_cons_zero, List.getElem?_cons_succ, w32_id, w64_id, ite_t, ite_f, Int.toNat_add, Int.toNat_mul, dec_t, dec_f, sC_27, e2]
    · clear ih
      simp -implicitDefEqProofs (disch := omega) [bX12_sums, kX12_sums_0, v_cop, v_c1, v_c2, v_c3, v_c4, v_c5, v_bin, v_bn, v_bn2, v_div, v_dv, v_dv2, v_une, v_un, v_loc, v_num, v_get, v_gt, v_ald, v_al, v_al2, v_len, v_ln, v_rl0, v_rl1, v_rl2, v_rl3, v_rl4, v_rl5, v_cmp, v_cp, v_cp2, v_zC, v_zc, v_con, v_kc, v_and, v_an1, v_an0, v_or, v_or1, v_or0, v_not, v_nt, v_boo, v_bo, v_cnd, v_cd1, v_cd0, v_cnc, v_cc1, v_cc0, v_ev0, v_ev, v_e1, v_e2, v_cve, v_cv, v_cse, v_cs, v_skip, v_seq, v_sq0, v_sq1, v_sqr, v_sts, v_st, v_inc, v_put, v_pt, v_pt2, v_fop, v_fo, v_fo2, v_ast, v_as, v_as2, v_as3, v_aop, v_ao, v_ao2, v_ao3, v_exs, v_ex, v_ifs, v_if1, v_if0, v_ret, v_rt, v_rez, v_rz, v_rev, v_brk, v_sws, v_sw, v_sw2, v_run, v_rb, v_turn, v_tu1, v_tu0, v_tu2, v_tu3, fst1, snd1, Option.map_some, Option.getD_some, enA, en, stE, okb, narV, rf_toNat, rf_nn, List.getElem?_cons_zero, List.getElem?_cons_succ, w32_id, w64_id, ite_t, ite_f, Int.toNat_add, Int.toNat_mul, dec_t, dec_f, sM_0, e3, lM]
set_option maxRecDepth 100000 in theorem b_loop0 {mC mM bC bM : Mem} {c : Nat → Int} {N T d cc t w x y a j : Nat} {W : List Int} {s D : Int} (w5 : w ≤ 5) (ih : EJd mC mM bC bM c N T d cc W t s 1 4 w x y) (D0 : 0 ≤ D) (D1 : D ≤ 4 * (w : Int) + 0) (hj : t + j + 1 ≤ a) : ∀ z eC mC' eM mM', (∃ (b i : Nat) (j1 : Nat) (t5 t2 : Nat × Int), z = T - b ∧ eC = [(2, rf 27), (0, 0), (0, (w : Int)), (0, 1000), (0, (i : Int)), t5] ∧ eM = [(2, rf 0), (0, (w : Int)), t2] ∧ LwS mC mM bC bM c N T d cc W t s mC' mM' b j1 (D + 1) ∧ a ≤ b ∧ j1 + a ≤ j + b ∧ i ≤ b) → ∃ rC rM, loopS 2 3 (kX8_readJoined_0c (gGX8_readJoined x)) (kX8_readJoined_0b (gGX8_readJoined x)) (kX8_readJoined_0u (gGX8_readJoined x)) shC eC mC' = some rC ∧ loopS 2 3 (kX12_all_0c (gGX12_all y)) (kX12_all_0b (gGX12_all y)) (kX12_all_0u (gGX12_all y)) shM eM mM' = some rM ∧ LQd mC mM bC bM c N T d cc W t s a j D rC rM := by
  refine joint2 (S := fun z eC mC' eM mM' => ∃ (b i : Nat) (j1 : Nat) (t5 t2 : Nat × Int), z = T - b ∧ eC = [(2, rf 27), (0, 0), (0, (w : Int)), (0, 1000), (0, (i : Int)), t5] ∧ eM = [(2, rf 0), (0, (w : Int)), t2] ∧ LwS mC mM bC bM c N T d cc W t s mC' mM' b j1 (D + 1) ∧ a ≤ b ∧ j1 + a ≤ j + b ∧ i ≤ b) (Q := LQd mC mM bC bM c N T d cc W t s a j D) ?_
  rintro z eC μC eM μM ⟨b, i, j1, t5, t2, rfl, rfl, rfl, h, ab, jb, ib⟩
  have p := h.1
  have lT := p.la
  have lb := p.mq.pl.2.2
  have t2' := p.rq.t2
  have r0 := p.rq.2.2.2.1
  have q4 := h.2.2.1
  have a7 := p.a7
  have f0 := p.f0
  have hc := h.2.1.c
  have lv := c_level μC (tkA c N b)

  have i16 := r_isWord (w := 16) p.mq p.f0 (by decide)
  rw [show ((16 : Nat) : Int) = 16 from rfl] at i16
  have i17 := r_isWord (w := 17) p.mq p.f0 (by decide)
  rw [show ((17 : Nat) : Int) = 17 from rfl] at i17
  by_cases op : tkA c N b = 16 ∨ tkA c N b = 17
  · have bT := p.lt (by omega)
    have lvl : lvO (tkA c N b) = 0 := by
      rcases op with o | o <;> rw [o] <;> decide
    rw [lvl] at lv
    obtain ⟨m1, e1, h1⟩ := h.adv bT
    have sub := ih m1 (ud μM 0 7 ((b : Int) + 1)) (b + 1) j1 (D + 1) h1 (by omega) (by omega) (by omega)
    rw [show ((1 : Nat) : Int) = 1 from rfl] at sub
    rcases sub with ⟨a2, j2, m2, k2, e2, e3, h2, l1, l2⟩ | ⟨m2, k2, e2, e3, fx⟩
    · have q42 := h2.2.2.1
      rcases op with o | o
      · rw [o] at t2' lv
        have ad := h2.addT (by omega) (v := 16) (k := 16) rfl (by decide)
        obtain ⟨em, h3⟩ := h2.emit (o := 9) (v := 0) (by omega) ⟨by decide, by decide, fun q => absurd q (by decide), fun q => absurd q (by decide)⟩ ⟨by omega, fun q => absurd q (by decide), fun q => absurd q (by decide), fun _ _ => by omega⟩
        rw [if_neg (by decide), if_neg (by decide), show D + 1 + 1 + -1 = D + 1 by omega] at h3
        have en1 : enI W 9 0 = -1 - 16 := by
          unfold enI tkI
          rw [if_neg (by decide), if_neg (by decide)]
          decide
        rw [en1] at h3
        rw [if_pos ⟨rfl, o⟩] at i16
        rw [if_neg (fun q => by have := q.2; omega)] at i17
        refine .inl ⟨T - a2, [(2, rf 27), (0, 0), (0, (w : Int)), (0, 1000), (0, ((i + 1 : Nat) : Int)), (0, 16)], _, [(2, rf 0), (0, (w : Int)), (0, 1)], _, by omega, ?_, ?_, a2, i + 1, j2 + 1, _, _, rfl, rfl, rfl, h3, by omega, by omega, by omega⟩
        · clear h3 em ih
          generalize ud (ud m2 (cc + 1) j2 (-1 - 16)) cc 2 ((j2 + 1 : Nat) : Int) = m3 at *
          simp -implicitDefEqProofs (disch := omega) [kX8_readJoined_0c, kX8_readJoined_0b, kX8_readJoined_0u, v_cop, v_c1, v_c2, v_c3, v_c4, v_c5, v_bin, v_bn, v_bn2, v_div, v_dv, v_dv2, v_une, v_un, v_loc, v_num, v_get, v_gt, v_ald, v_al, v_al2, v_len, v_ln, v_rl0, v_rl1, v_rl2, v_rl3, v_rl4, v_rl5, v_cmp, v_cp, v_cp2, v_zC, v_zc, v_con, v_kc, v_and, v_an1, v_an0, v_or, v_or1, v_or0, v_not, v_nt, v_boo, v_bo, v_cnd, v_cd1, v_cd0, v_cnc, v_cc1, v_cc0, v_ev0, v_ev, v_e1, v_e2, v_cve, v_cv, v_cse, v_cs, v_skip, v_seq, v_sq0, v_sq1, v_sqr, v_sts, v_st, v_inc, v_put, v_pt, v_pt2, v_fop, v_fo, v_fo2, v_ast, v_as, v_as2, v_as3, v_aop, v_ao, v_ao2, v_ao3, v_exs, v_ex, v_ifs, v_if1, v_if0, v_ret, v_rt, v_rez, v_rz, v_rev, v_brk, v_sws, v_sw, v_sw2, v_run, v_rb, v_turn, v_tu1, v_tu0, v_tu2, v_tu3, fst1, snd1, Option.map_some, Option.getD_some, enA, en, stE, okb, narV, rf_toNat, rf_nn, List.getElem?_cons_zero, List.getElem?_cons_succ, w32_id, w64_id, ite_t, ite_f, Int.toNat_add, Int.toNat_mul, dec_t, dec_f, sC_27, sC_1, h.cc.1.1, r0, t2', lv, e1, e2, q42, ad]
        · clear h3 ad ih
          generalize emM k2 (t + j2) 9 0 = k3 at *
          generalize hk1 : ud μM 0 7 ((b : Int) + 1) = k1 at *
          simp -implicitDefEqProofs (disch := omega) [kX12_all_0c, kX12_all_0b, kX12_all_0u, v_cop, v_c1, v_c2, v_c3, v_c4, v_c5, v_bin, v_bn, v_bn2, v_div, v_dv, v_dv2, v_une, v_un, v_loc, v_num, v_get, v_gt, v_ald, v_al, v_al2, v_len, v_ln, v_rl0, v_rl1, v_rl2, v_rl3, v_rl4, v_rl5, v_cmp, v_cp, v_cp2, v_zC, v_zc, v_con, v_kc, v_and, v_an1, v_an0, v_or, v_or1, v_or0, v_not, v_nt, v_boo, v_bo, v_cnd, v_cd1, v_cd0, v_cnc, v_cc1, v_cc0, v_ev0, v_ev, v_e1, v_e2, v_cve, v_cv, v_cse, v_cs, v_skip, v_seq, v_sq0, v_sq1, v_sqr, v_sts, v_st, v_inc, v_put, v_pt, v_pt2, v_fop, v_fo, v_fo2, v_ast, v_as, v_as2, v_as3, v_aop, v_ao, v_ao2, v_ao3, v_exs, v_ex, v_ifs, v_if1, v_if0, v_ret, v_rt, v_rez, v_rz, v_rev, v_brk, v_sws, v_sw, v_sw2, v_run, v_rb, v_turn, v_tu1, v_tu0, v_tu2, v_tu3, fst1, snd1, Option.map_some, Option.getD_some, enA, en, stE, okb, narV, rf_toNat, rf_nn, List.getElem?_cons_zero, List.getElem?_cons_succ, w32_id, w64_id, ite_t, ite_f, Int.toNat_add, Int.toNat_mul, dec_t, dec_f, sM_0, a7, i16, i17, hk1, e3, em]
      · rw [o] at t2' lv
        have ad := h2.addT (by omega) (v := 17) (k := 17) rfl (by decide)
        obtain ⟨em, h3⟩ := h2.emit (o := 10) (v := 0) (by omega) ⟨by decide, by decide, fun q => absurd q (by decide), fun q => absurd q (by decide)⟩ ⟨by omega, fun q => absurd q (by decide), fun q => absurd q (by decide), fun _ _ => by omega⟩
        rw [if_neg (by decide), if_neg (by decide), show D + 1 + 1 + -1 = D + 1 by omega] at h3
        have en1 : enI W 10 0 = -1 - 17 := by
          unfold enI tkI
          rw [if_neg (by decide), if_neg (by decide)]
          decide
        rw [en1] at h3
        rw [if_neg (fun q => by have := q.2; omega)] at i16
        rw [if_pos ⟨rfl, o⟩] at i17
        refine .inl ⟨T - a2, [(2, rf 27), (0, 0), (0, (w : Int)), (0, 1000), (0, ((i + 1 : Nat) : Int)), (0, 17)], _, [(2, rf 0), (0, (w : Int)), (0, 0)], _, by omega, ?_, ?_, a2, i + 1, j2 + 1, _, _, rfl, rfl, rfl, h3, by omega, by omega, by omega⟩
        · clear h3 em ih
          generalize ud (ud m2 (cc + 1) j2 (-1 - 17)) cc 2 ((j2 + 1 : Nat) : Int) = m3 at *
          simp -implicitDefEqProofs (disch := omega) [kX8_readJoined_0c, kX8_readJoined_0b, kX8_readJoined_0u, v_cop, v_c1, v_c2, v_c3, v_c4, v_c5, v_bin, v_bn, v_bn2, v_div, v_dv, v_dv2, v_une, v_un, v_loc, v_num, v_get, v_gt, v_ald, v_al, v_al2, v_len, v_ln, v_rl0, v_rl1, v_rl2, v_rl3, v_rl4, v_rl5, v_cmp, v_cp, v_cp2, v_zC, v_zc, v_con, v_kc, v_and, v_an1, v_an0, v_or, v_or1, v_or0, v_not, v_nt, v_boo, v_bo, v_cnd, v_cd1, v_cd0, v_cnc, v_cc1, v_cc0, v_ev0, v_ev, v_e1, v_e2, v_cve, v_cv, v_cse, v_cs, v_skip, v_seq, v_sq0, v_sq1, v_sqr, v_sts, v_st, v_inc, v_put, v_pt, v_pt2, v_fop, v_fo, v_fo2, v_ast, v_as, v_as2, v_as3, v_aop, v_ao, v_ao2, v_ao3, v_exs, v_ex, v_ifs, v_if1, v_if0, v_ret, v_rt, v_rez, v_rz, v_rev, v_brk, v_sws, v_sw, v_sw2, v_run, v_rb, v_turn, v_tu1, v_tu0, v_tu2, v_tu3, fst1, snd1, Option.map_some, Option.getD_some, enA, en, stE, okb, narV, rf_toNat, rf_nn, List.getElem?_cons_zero, List.getElem?_cons_succ, w32_id, w64_id, ite_t, ite_f, Int.toNat_add, Int.toNat_mul, dec_t, dec_f, sC_27, sC_1, h.cc.1.1, r0, t2', lv, e1, e2, q42, ad]
        · clear h3 ad ih
          generalize emM k2 (t + j2) 10 0 = k3 at *
          generalize hk1 : ud μM 0 7 ((b : Int) + 1) = k1 at *
          simp -implicitDefEqProofs (disch := omega) [kX12_all_0c, kX12_all_0b, kX12_all_0u, v_cop, v_c1, v_c2, v_c3, v_c4, v_c5, v_bin, v_bn, v_bn2, v_div, v_dv, v_dv2, v_une, v_un, v_loc, v_num, v_get, v_gt, v_ald, v_al, v_al2, v_len, v_ln, v_rl0, v_rl1, v_rl2, v_rl3, v_rl4, v_rl5, v_cmp, v_cp, v_cp2, v_zC, v_zc, v_con, v_kc, v_and, v_an1, v_an0, v_or, v_or1, v_or0, v_not, v_nt, v_boo, v_bo, v_cnd, v_cd1, v_cd0, v_cnc, v_cc1, v_cc0, v_ev0, v_ev, v_e1, v_e2, v_cve, v_cv, v_cse, v_cs, v_skip, v_seq, v_sq0, v_sq1, v_sqr, v_sts, v_st, v_inc, v_put, v_pt, v_pt2, v_fop, v_fo, v_fo2, v_ast, v_as, v_as2, v_as3, v_aop, v_ao, v_ao2, v_ao3, v_exs, v_ex, v_ifs, v_if1, v_if0, v_ret, v_rt, v_rez, v_rz, v_rev, v_brk, v_sws, v_sw, v_sw2, v_run, v_rb, v_turn, v_tu1, v_tu0, v_tu2, v_tu3, fst1, snd1, Option.map_some, Option.getD_some, enA, en, stE, okb, narV, rf_toNat, rf_nn, List.getElem?_cons_zero, List.getElem?_cons_succ, w32_id, w64_id, ite_t, ite_f, Int.toNat_add, Int.toNat_mul, dec_t, dec_f, sM_0, a7, i16, i17, hk1, e3, em]
    · -- a fault within
      rcases op with o | o
      · rw [o] at t2' lv
        obtain ⟨k3, em, fx2, z8, z9, b3, mq3⟩ := fx.emit (o := 9) (v := 0) (a := b) (Nat.le_refl _) (by omega) lT.2
        rw [if_pos ⟨rfl, o⟩] at i16
        rw [if_neg (fun q => by have := q.2; omega)] at i17
        have tM : turnS 2 3 (kX12_all_0c (gGX12_all y)) (kX12_all_0b (gGX12_all y)) (kX12_all_0u (gGX12_all y)) shM [(2, rf 0), (0, (w : Int)), t2] μM = some (.inl ([(2, rf 0), (0, (w : Int)), (0, 1)], k3)) := by
          clear ih fx fx2
          generalize hk1 : ud μM 0 7 ((b : Int) + 1) = k1 at *
          simp -implicitDefEqProofs (disch := omega) [kX12_all_0c, kX12_all_0b, kX12_all_0u, v_cop, v_c1, v_c2, v_c3, v_c4, v_c5, v_bin, v_bn, v_bn2, v_div, v_dv, v_dv2, v_une, v_un, v_loc, v_num, v_get, v_gt, v_ald, v_al, v_al2, v_len, v_ln, v_rl0, v_rl1, v_rl2, v_rl3, v_rl4, v_rl5, v_cmp, v_cp, v_cp2, v_zC, v_zc, v_con, v_kc, v_and, v_an1, v_an0, v_or, v_or1, v_or0, v_not, v_nt, v_boo, v_bo, v_cnd, v_cd1, v_cd0, v_cnc, v_cc1, v_cc0, v_ev0, v_ev, v_e1, v_e2, v_cve, v_cv, v_cse, v_cs, v_skip, v_seq, v_sq0, v_sq1, v_sqr, v_sts, v_st, v_inc, v_put, v_pt, v_pt2, v_fop, v_fo, v_fo2, v_ast, v_as, v_as2, v_as3, v_aop, v_ao, v_ao2, v_ao3, v_exs, v_ex, v_ifs, v_if1, v_if0, v_ret, v_rt, v_rez, v_rz, v_rev, v_brk, v_sws, v_sw, v_sw2, v_run, v_rb, v_turn, v_tu1, v_tu0, v_tu2, v_tu3, fst1, snd1, Option.map_some, Option.getD_some, enA, en, stE, okb, narV, rf_toNat, rf_nn, List.getElem?_cons_zero, List.getElem?_cons_succ, w32_id, w64_id, ite_t, ite_f, Int.toNat_add, Int.toNat_mul, dec_t, dec_f, sM_0, a7, i16, i17, hk1, e3, em]
        have n16 := r_isWord (w := 16) mq3 rfl (by decide)
        rw [show ((16 : Nat) : Int) = 16 from rfl, if_neg (by omega)] at n16
        have n17 := r_isWord (w := 17) mq3 rfl (by decide)
        rw [show ((17 : Nat) : Int) = 17 from rfl, if_neg (by omega)] at n17
        have tM2 : turnS 2 3 (kX12_all_0c (gGX12_all y)) (kX12_all_0b (gGX12_all y)) (kX12_all_0u (gGX12_all y)) shM [(2, rf 0), (0, (w : Int)), (0, 1)] k3 = some (.inr (0, 0, [(2, rf 0), (0, (w : Int)), (0, 1)], k3)) := by
          simp -implicitDefEqProofs (disch := omega) [kX12_all_0c, v_cop, v_c1, v_c2, v_c3, v_c4, v_c5, v_bin, v_bn, v_bn2, v_div, v_dv, v_dv2, v_une, v_un, v_loc, v_num, v_get, v_gt, v_ald, v_al, v_al2, v_len, v_ln, v_rl0, v_rl1, v_rl2, v_rl3, v_rl4, v_rl5, v_cmp, v_cp, v_cp2, v_zC, v_zc, v_con, v_kc, v_and, v_an1, v_an0, v_or, v_or1, v_or0, v_not, v_nt, v_boo, v_bo, v_cnd, v_cd1, v_cd0, v_cnc, v_cc1, v_cc0, v_ev0, v_ev, v_e1, v_e2, v_cve, v_cv, v_cse, v_cs, v_skip, v_seq, v_sq0, v_sq1, v_sqr, v_sts, v_st, v_inc, v_put, v_pt, v_pt2, v_fop, v_fo, v_fo2, v_ast, v_as, v_as2, v_as3, v_aop, v_ao, v_ao2, v_ao3, v_exs, v_ex, v_ifs, v_if1, v_if0, v_ret, v_rt, v_rez, v_rz, v_rev, v_brk, v_sws, v_sw, v_sw2, v_run, v_rb, v_turn, v_tu1, v_tu0, v_tu2, v_tu3, fst1, snd1, Option.map_some, Option.getD_some, enA, en, stE, okb, narV, rf_toNat, rf_nn, List.getElem?_cons_zero, List.getElem?_cons_succ, w32_id, w64_id, ite_t, ite_f, Int.toNat_add, Int.toNat_mul, dec_t, dec_f, sM_0, n16, n17]
        have tC : turnS 2 3 (kX8_readJoined_0c (gGX8_readJoined x)) (kX8_readJoined_0b (gGX8_readJoined x)) (kX8_readJoined_0u (gGX8_readJoined x)) shC [(2, rf 27), (0, 0), (0, (w : Int)), (0, 1000), (0, (i : Int)), t5] μC = some (.inr (1, 0, [(2, rf 27), (0, 0), (0, (w : Int)), (0, 1000), (0, (i : Int)), (0, 16)], m2)) := by
          clear ih fx fx2 tM tM2
          simp -implicitDefEqProofs (disch := omega) [kX8_readJoined_0c, kX8_readJoined_0b, kX8_readJoined_0u, v_cop, v_c1, v_c2, v_c3, v_c4, v_c5, v_bin, v_bn, v_bn2, v_div, v_dv, v_dv2, v_une, v_un, v_loc, v_num, v_get, v_gt, v_ald, v_al, v_al2, v_len, v_ln, v_rl0, v_rl1, v_rl2, v_rl3, v_rl4, v_rl5, v_cmp, v_cp, v_cp2, v_zC, v_zc, v_con, v_kc, v_and, v_an1, v_an0, v_or, v_or1, v_or0, v_not, v_nt, v_boo, v_bo, v_cnd, v_cd1, v_cd0, v_cnc, v_cc1, v_cc0, v_ev0, v_ev, v_e1, v_e2, v_cve, v_cv, v_cse, v_cs, v_skip, v_seq, v_sq0, v_sq1, v_sqr, v_sts, v_st, v_inc, v_put, v_pt, v_pt2, v_fop, v_fo, v_fo2, v_ast, v_as, v_as2, v_as3, v_aop, v_ao, v_ao2, v_ao3, v_exs, v_ex, v_ifs, v_if1, v_if0, v_ret, v_rt, v_rez, v_rz, v_rev, v_brk, v_sws, v_sw, v_sw2, v_run, v_rb, v_turn, v_tu1, v_tu0, v_tu2, v_tu3, fst1, snd1, Option.map_some, Option.getD_some, enA, en, stE, okb, narV, rf_toNat, rf_nn, List.getElem?_cons_zero, List.getElem?_cons_succ, w32_id, w64_id, ite_t, ite_f, Int.toNat_add, Int.toNat_mul, dec_t, dec_f, sC_27, sC_1, r0, t2', lv, e1, e2]
        exact .inr ⟨_, _, turn_end tC, (turn_go tM).trans (turn_end tM2), .inr ⟨m2, k3, _, _, rfl, rfl, fx2.le ab jb⟩⟩
      · rw [o] at t2' lv
        obtain ⟨k3, em, fx2, z8, z9, b3, mq3⟩ := fx.emit (o := 10) (v := 0) (a := b) (Nat.le_refl _) (by omega) lT.2
        rw [if_neg (fun q => by have := q.2; omega)] at i16
        rw [if_pos ⟨rfl, o⟩] at i17
        have tM : turnS 2 3 (kX12_all_0c (gGX12_all y)) (kX12_all_0b (gGX12_all y)) (kX12_all_0u (gGX12_all y)) shM [(2, rf 0), (0, (w : Int)), t2] μM = some (.inl ([(2, rf 0), (0, (w : Int)), (0, 0)], k3)) := by
          clear ih fx fx2
          generalize hk1 : ud μM 0 7 ((b : Int) + 1) = k1 at *
          simp -implicitDefEqProofs (disch := omega) [kX12_all_0c, kX12_all_0b, kX12_all_0u, v_cop, v_c1, v_c2, v_c3, v_c4, v_c5, v_bin, v_bn, v_bn2, v_div, v_dv, v_dv2, v_une, v_un, v_loc, v_num, v_get, v_gt, v_ald, v_al, v_al2, v_len, v_ln, v_rl0, v_rl1, v_rl2, v_rl3, v_rl4, v_rl5, v_cmp, v_cp, v_cp2, v_zC, v_zc, v_con, v_kc, v_and, v_an1, v_an0, v_or, v_or1, v_or0, v_not, v_nt, v_boo, v_bo, v_cnd, v_cd1, v_cd0, v_cnc, v_cc1, v_cc0, v_ev0, v_ev, v_e1, v_e2, v_cve, v_cv, v_cse, v_cs, v_skip, v_seq, v_sq0, v_sq1, v_sqr, v_sts, v_st, v_inc, v_put, v_pt, v_pt2, v_fop, v_fo, v_fo2, v_ast, v_as, v_as2, v_as3, v_aop, v_ao, v_ao2, v_ao3, v_exs, v_ex, v_ifs, v_if1, v_if0, v_ret, v_rt, v_rez, v_rz, v_rev, v_brk, v_sws, v_sw, v_sw2, v_run, v_rb, v_turn, v_tu1, v_tu0, v_tu2, v_tu3, fst1, snd1, Option.map_some, Option.getD_some, enA, en, stE, okb, narV, rf_toNat, rf_nn, List.getElem?_cons_zero, List.getElem?_cons_succ, w32_id, w64_id, ite_t, ite_f, Int.toNat_add, Int.toNat_mul, dec_t, dec_f, sM_0, a7, i16, i17, hk1, e3, em]
        have n16 := r_isWord (w := 16) mq3 rfl (by decide)
        rw [show ((16 : Nat) : Int) = 16 from rfl, if_neg (by omega)] at n16
        have n17 := r_isWord (w := 17) mq3 rfl (by decide)
        rw [show ((17 : Nat) : Int) = 17 from rfl, if_neg (by omega)] at n17
        have tM2 : turnS 2 3 (kX12_all_0c (gGX12_all y)) (kX12_all_0b (gGX12_all y)) (kX12_all_0u (gGX12_all y)) shM [(2, rf 0), (0, (w : Int)), (0, 0)] k3 = some (.inr (0, 0, [(2, rf 0), (0, (w : Int)), (0, 0)], k3)) := by
          simp -implicitDefEqProofs (disch := omega) [kX12_all_0c, v_cop, v_c1, v_c2, v_c3, v_c4, v_c5, v_bin, v_bn, v_bn2, v_div, v_dv, v_dv2, v_une, v_un, v_loc, v_num, v_get, v_gt, v_ald, v_al, v_al2, v_len, v_ln, v_rl0, v_rl1, v_rl2, v_rl3, v_rl4, v_rl5, v_cmp, v_cp, v_cp2, v_zC, v_zc, v_con, v_kc, v_and, v_an1, v_an0, v_or, v_or1, v_or0, v_not, v_nt, v_boo, v_bo, v_cnd, v_cd1, v_cd0, v_cnc, v_cc1, v_cc0, v_ev0, v_ev, v_e1, v_e2, v_cve, v_cv, v_cse, v_cs, v_skip, v_seq, v_sq0, v_sq1, v_sqr, v_sts, v_st, v_inc, v_put, v_pt, v_pt2, v_fop, v_fo, v_fo2, v_ast, v_as, v_as2, v_as3, v_aop, v_ao, v_ao2, v_ao3, v_exs, v_ex, v_ifs, v_if1, v_if0, v_ret, v_rt, v_rez, v_rz, v_rev, v_brk, v_sws, v_sw, v_sw2, v_run, v_rb, v_turn, v_tu1, v_tu0, v_tu2, v_tu3, fst1, snd1, Option.map_some, Option.getD_some, enA, en, stE, okb, narV, rf_toNat, rf_nn, List.getElem?_cons_zero, List.getElem?_cons_succ, w32_id, w64_id, ite_t, ite_f, Int.toNat_add, Int.toNat_mul, dec_t, dec_f, sM_0, n16, n17]
        have tC : turnS 2 3 (kX8_readJoined_0c (gGX8_readJoined x)) (kX8_readJoined_0b (gGX8_readJoined x)) (kX8_readJoined_0u (gGX8_readJoined x)) shC [(2, rf 27), (0, 0), (0, (w : Int)), (0, 1000), (0, (i : Int)), t5] μC = some (.inr (1, 0, [(2, rf 27), (0, 0), (0, (w : Int)), (0, 1000), (0, (i : Int)), (0, 17)], m2)) := by
          clear ih fx fx2 tM tM2
          simp -implicitDefEqProofs (disch := omega) [kX8_readJoined_0c, kX8_readJoined_0b, kX8_readJoined_0u, v_cop, v_c1, v_c2, v_c3, v_c4, v_c5, v_bin, v_bn, v_bn2, v_div, v_dv, v_dv2, v_une, v_un, v_loc, v_num, v_get, v_gt, v_ald, v_al, v_al2, v_len, v_ln, v_rl0, v_rl1, v_rl2, v_rl3, v_rl4, v_rl5, v_cmp, v_cp, v_cp2, v_zC, v_zc, v_con, v_kc, v_and, v_an1, v_an0, v_or, v_or1, v_or0, v_not, v_nt, v_boo, v_bo, v_cnd, v_cd1, v_cd0, v_cnc, v_cc1, v_cc0, v_ev0, v_ev, v_e1, v_e2, v_cve, v_cv, v_cse, v_cs, v_skip, v_seq, v_sq0, v_sq1, v_sqr, v_sts, v_st, v_inc, v_put, v_pt, v_pt2, v_fop, v_fo, v_fo2, v_ast, v_as, v_as2, v_as3, v_aop, v_ao, v_ao2, v_ao3, v_exs, v_ex, v_ifs, v_if1, v_if0, v_ret, v_rt, v_rez, v_rz, v_rev, v_brk, v_sws, v_sw, v_sw2, v_run, v_rb, v_turn, v_tu1, v_tu0, v_tu2, v_tu3, fst1, snd1, Option.map_some, Option.getD_some, enA, en, stE, okb, narV, rf_toNat, rf_nn, List.getElem?_cons_zero, List.getElem?_cons_succ, w32_id, w64_id, ite_t, ite_f, Int.toNat_add, Int.toNat_mul, dec_t, dec_f, sC_27, sC_1, r0, t2', lv, e1, e2]
        exact .inr ⟨_, _, turn_end tC, (turn_go tM).trans (turn_end tM2), .inr ⟨m2, k3, _, _, rfl, rfl, fx2.le ab jb⟩⟩
  · have lvl := lv_n0 op
    rw [if_neg (fun q => op (by omega))] at i16
    rw [if_neg (fun q => op (by omega))] at i17
    have tM : turnS 2 3 (kX12_all_0c (gGX12_all y)) (kX12_all_0b (gGX12_all y)) (kX12_all_0u (gGX12_all y)) shM [(2, rf 0), (0, (w : Int)), t2] μM = some (.inr (0, 0, [(2, rf 0), (0, (w : Int)), t2], μM)) := by
      clear ih
      simp -implicitDefEqProofs (disch := omega) [kX12_all_0c, v_cop, v_c1, v_c2, v_c3, v_c4, v_c5, v_bin, v_bn, v_bn2, v_div, v_dv, v_dv2, v_une, v_un, v_loc, v_num, v_get, v_gt, v_ald, v_al, v_al2, v_len, v_ln, v_rl0, v_rl1, v_rl2, v_rl3, v_rl4, v_rl5, v_cmp, v_cp, v_cp2, v_zC, v_zc, v_con, v_kc, v_and, v_an1, v_an0, v_or, v_or1, v_or0, v_not, v_nt, v_boo, v_bo, v_cnd, v_cd1, v_cd0, v_cnc, v_cc1, v_cc0, v_ev0, v_ev, v_e1, v_e2, v_cve, v_cv, v_cse, v_cs, v_skip, v_seq, v_sq0, v_sq1, v_sqr, v_sts, v_st, v_inc, v_put, v_pt, v_pt2, v_fop, v_fo, v_fo2, v_ast, v_as, v_as2, v_as3, v_aop, v_ao, v_ao2, v_ao3, v_exs, v_ex, v_ifs, v_if1, v_if0, v_ret, v_rt, v_rez, v_rz, v_rev, v_brk, v_sws, v_sw, v_sw2, v_run, v_rb, v_turn, v_tu1, v_tu0, v_tu2, v_tu3, fst1, snd1, Option.map_some, Option.getD_some, enA, en, stE, okb, narV, rf_toNat, rf_nn, List.getElem?_cons_zero, List.getElem?_cons_succ, w32_id, w64_id, ite_t, ite_f, Int.toNat_add, Int.toNat_mul, dec_t, dec_f, sM_0, i16, i17]
    have tC : turnS 2 3 (kX8_readJoined_0c (gGX8_readJoined x)) (kX8_readJoined_0b (gGX8_readJoined x)) (kX8_readJoined_0u (gGX8_readJoined x)) shC [(2, rf 27), (0, 0), (0, (w : Int)), (0, 1000), (0, (i : Int)), t5] μC = some (.inr (0, 0, [(2, rf 27), (0, 0), (0, (w : Int)), (0, 1000), (0, (i : Int)), t5], μC)) := by
      clear ih tM op
      generalize lvO (tkA c N b) = V at *
      by_cases i1 : i < 1000
      · simp -implicitDefEqProofs (disch := omega) [kX8_readJoined_0c, v_cop, v_c1, v_c2, v_c3, v_c4, v_c5, v_bin, v_bn, v_bn2, v_div, v_dv, v_dv2, v_une, v_un, v_loc, v_num, v_get, v_gt, v_ald, v_al, v_al2, v_len, v_ln, v_rl0, v_rl1, v_rl2, v_rl3, v_rl4, v_rl5, v_cmp, v_cp, v_cp2, v_zC, v_zc, v_con, v_kc, v_and, v_an1, v_an0, v_or, v_or1, v_or0, v_not, v_nt, v_boo, v_bo, v_cnd, v_cd1, v_cd0, v_cnc, v_cc1, v_cc0, v_ev0, v_ev, v_e1, v_e2, v_cve, v_cv, v_cse, v_cs, v_skip, v_seq, v_sq0, v_sq1, v_sqr, v_sts, v_st, v_inc, v_put, v_pt, v_pt2, v_fop, v_fo, v_fo2, v_ast, v_as, v_as2, v_as3, v_aop, v_ao, v_ao2, v_ao3, v_exs, v_ex, v_ifs, v_if1, v_if0, v_ret, v_rt, v_rez, v_rz, v_rev, v_brk, v_sws, v_sw, v_sw2, v_run, v_rb, v_turn, v_tu1, v_tu0, v_tu2, v_tu3, fst1, snd1, Option.map_some, Option.getD_some, enA, en, stE, okb, narV, rf_toNat, rf_nn, List.getElem?_cons_zero, List.getElem?_cons_succ, w32_id, w64_id, ite_t, ite_f, Int.toNat_add, Int.toNat_mul, dec_t, dec_f, sC_27, sC_1, r0, t2', lv, lvl]
      · simp -implicitDefEqProofs (disch := omega) [kX8_readJoined_0c, v_cop, v_c1, v_c2, v_c3, v_c4, v_c5, v_bin, v_bn, v_bn2, v_div, v_dv, v_dv2, v_une, v_un, v_loc, v_num, v_get, v_gt, v_ald, v_al, v_al2, v_len, v_ln, v_rl0, v_rl1, v_rl2, v_rl3, v_rl4, v_rl5, v_cmp, v_cp, v_cp2, v_zC, v_zc, v_con, v_kc, v_and, v_an1, v_an0, v_or, v_or1, v_or0, v_not, v_nt, v_boo, v_bo, v_cnd, v_cd1, v_cd0, v_cnc, v_cc1, v_cc0, v_ev0, v_ev, v_e1, v_e2, v_cve, v_cv, v_cse, v_cs, v_skip, v_seq, v_sq0, v_sq1, v_sqr, v_sts, v_st, v_inc, v_put, v_pt, v_pt2, v_fop, v_fo, v_fo2, v_ast, v_as, v_as2, v_as3, v_aop, v_ao, v_ao2, v_ao3, v_exs, v_ex, v_ifs, v_if1, v_if0, v_ret, v_rt, v_rez, v_rz, v_rev, v_brk, v_sws, v_sw, v_sw2, v_run, v_rb, v_turn, v_tu1, v_tu0, v_tu2, v_tu3, fst1, snd1, Option.map_some, Option.getD_some, enA, en, stE, okb, narV, rf_toNat, rf_nn, List.getElem?_cons_zero, List.getElem?_cons_succ, w32_id, w64_id, ite_t, ite_f, Int.toNat_add, Int.toNat_mul, dec_t, dec_f, sC_27, sC_1, r0, t2', lv, lvl]
    exact .inr ⟨_, _, turn_end tC, turn_end tM, .inl ⟨b, j1, μC, μM, _, _, rfl, rfl, h, ab, jb⟩⟩
set_option maxRecDepth 100000 in theorem b_lev0 {mC mM bC bM : Mem} {c : Nat → Int} {N T d cc t w x y : Nat} {W : List Int} {s : Int} (w5 : w ≤ 5) (ih : EJd mC mM bC bM c N T d cc W t s 1 4 w x y) : EJd mC mM bC bM c N T d cc W t s 0 0 w (x + 1) (y + 1) := by
  intro μC μM a j D h hj D0 D1
  rw [gJ0, gA0, show ((0 : Nat) : Int) = 0 from rfl]
  have sub := ih μC μM a j D h hj D0 (by omega)
  rw [show ((1 : Nat) : Int) = 1 from rfl] at sub
  rcases sub with ⟨a2, j2, m2, k2, e2, e3, h2, l1, l2⟩ | ⟨m2, k2, e2, e3, fx⟩
  · obtain ⟨rC, rM, lC, lM, hq⟩ := b_loop0 w5 ih D0 D1 hj (T - a2) [(2, rf 27), (0, 0), (0, (w : Int)), (0, 1000), (0, ((0 : Nat) : Int)), (3, 0)] m2 [(2, rf 0), (0, (w : Int)), (3, 0)] k2 ⟨a2, 0, j2, (3, 0), (3, 0), rfl, rfl, rfl, h2, l1, l2, Nat.zero_le _⟩
    rw [show ((0 : Nat) : Int) = 0 from rfl] at lC
    rcases hq with ⟨a', j', m3, k3, eC, eM, rfl, rfl, h3, g1, g2⟩ | ⟨m3, k3, eC, eM, rfl, rfl, fx⟩
    · refine .inl ⟨a', j', m3, k3, ?_, ?_, h3, g1, g2⟩
      · clear ih
        simp -implicitDefEqProofs (disch := omega) [bX8_readJoined, kX8_readJoined_0, v_cop, v_c1, v_c2, v_c3, v_c4, v_c5, v_bin, v_bn, v_bn2, v_div, v_dv, v_dv2, v_une, v_un, v_loc, v_num, v_get, v_gt, v_ald, v_al, v_al2, v_len, v_ln, v_rl0, v_rl1, v_rl2, v_rl3, v_rl4, v_rl5, v_cmp, v_cp, v_cp2, v_zC, v_zc, v_con, v_kc, v_and, v_an1, v_an0, v_or, v_or1, v_or0, v_not, v_nt, v_boo, v_bo, v_cnd, v_cd1, v_cd0, v_cnc, v_cc1, v_cc0, v_ev0, v_ev, v_e1, v_e2, v_cve, v_cv, v_cse, v_cs, v_skip, v_seq, v_sq0, v_sq1, v_sqr, v_sts, v_st, v_inc, v_put, v_pt, v_pt2, v_fop, v_fo, v_fo2, v_ast, v_as, v_as2, v_as3, v_aop, v_ao, v_ao2, v_ao3, v_exs, v_ex, v_ifs, v_if1, v_if0, v_ret, v_rt, v_rez, v_rz, v_rev, v_brk, v_sws, v_sw, v_sw2, v_run, v_rb, v_turn, v_tu1, v_tu0, v_tu2, v_tu3, fst1, snd1, Option.map_some, Option.getD_some, enA, en, stE, okb, narV, rf_toNat, rf_nn, List.getElem?_cons_zero, List.getElem?_cons_succ, w32_id, w64_id, ite_t, ite_f, Int.toNat_add, Int.toNat_mul, dec_t, dec_f, sC_27, e2, lC]
      · clear ih
        simp -implicitDefEqProofs (disch := omega) [bX12_all, kX12_all_0, v_cop, v_c1, v_c2, v_c3, v_c4, v_c5, v_bin, v_bn, v_bn2, v_div, v_dv, v_dv2, v_une, v_un, v_loc, v_num, v_get, v_gt, v_ald, v_al, v_al2, v_len, v_ln, v_rl0, v_rl1, v_rl2, v_rl3, v_rl4, v_rl5, v_cmp, v_cp, v_cp2, v_zC, v_zc, v_con, v_kc, v_and, v_an1, v_an0, v_or, v_or1, v_or0, v_not, v_nt, v_boo, v_bo, v_cnd, v_cd1, v_cd0, v_cnc, v_cc1, v_cc0, v_ev0, v_ev, v_e1, v_e2, v_cve, v_cv, v_cse, v_cs, v_skip, v_seq, v_sq0, v_sq1, v_sqr, v_sts, v_st, v_inc, v_put, v_pt, v_pt2, v_fop, v_fo, v_fo2, v_ast, v_as, v_as2, v_as3, v_aop, v_ao, v_ao2, v_ao3, v_exs, v_ex, v_ifs, v_if1, v_if0, v_ret, v_rt, v_rez, v_rz, v_rev, v_brk, v_sws, v_sw, v_sw2, v_run, v_rb, v_turn, v_tu1, v_tu0, v_tu2, v_tu3, fst1, snd1, Option.map_some, Option.getD_some, enA, en, stE, okb, narV, rf_toNat, rf_nn, List.getElem?_cons_zero, List.getElem?_cons_succ, w32_id, w64_id, ite_t, ite_f, Int.toNat_add, Int.toNat_mul, dec_t, dec_f, sM_0, e3, lM]
    · refine .inr ⟨m3, k3, ?_, ?_, fx⟩
      · clear ih
        simp -implicitDefEqProofs (disch := omega) [bX8_readJoined, kX8_readJoined_0, v_cop, v_c1, v_c2, v_c3, v_c4, v_c5, v_bin, v_bn, v_bn2, v_div, v_dv, v_dv2, v_une, v_un, v_loc, v_num, v_get, v_gt, v_ald, v_al, v_al2, v_len, v_ln, v_rl0, v_rl1, v_rl2, v_rl3, v_rl4, v_rl5, v_cmp, v_cp, v_cp2, v_zC, v_zc, v_con, v_kc, v_and, v_an1, v_an0, v_or, v_or1, v_or0, v_not, v_nt, v_boo, v_bo, v_cnd, v_cd1, v_cd0, v_cnc, v_cc1, v_cc0, v_ev0, v_ev, v_e1, v_e2, v_cve, v_cv, v_cse, v_cs, v_skip, v_seq, v_sq0, v_sq1, v_sqr, v_sts, v_st, v_inc, v_put, v_pt, v_pt2, v_fop, v_fo, v_fo2, v_ast, v_as, v_as2, v_as3, v_aop, v_ao, v_ao2, v_ao3, v_exs, v_ex, v_ifs, v_if1, v_if0, v_ret, v_rt, v_rez, v_rz, v_rev, v_brk, v_sws, v_sw, v_sw2, v_run, v_rb, v_turn, v_tu1, v_tu0, v_tu2, v_tu3, fst1, snd1, Option.map_some, Option.getD_some, enA, en, stE, okb, narV, rf_toNat, rf_nn, List.getElem?_cons_zero, List.getElem?_cons_succ, w32_id, w64_id, ite_t, ite_f, Int.toNat_add, Int.toNat_mul, dec_t, dec_f, sC_27, e2, lC]
      · clear ih
        simp -implicitDefEqProofs (disch := omega) [bX12_all, kX12_all_0, v_cop, v_c1, v_c2, v_c3, v_c4, v_c5, v_bin, v_bn, v_bn2, v_div, v_dv, v_dv2, v_une, v_un, v_loc, v_num, v_get, v_gt, v_ald, v_al, v_al2, v_len, v_ln, v_rl0, v_rl1, v_rl2, v_rl3, v_rl4, v_rl5, v_cmp, v_cp, v_cp2, v_zC, v_zc, v_con, v_kc, v_and, v_an1, v_an0, v_or, v_or1, v_or0, v_not, v_nt, v_boo, v_bo, v_cnd, v_cd1, v_cd0, v_cnc, v_cc1, v_cc0, v_ev0, v_ev, v_e1, v_e2, v_cve, v_cv, v_cse, v_cs, v_skip, v_seq, v_sq0, v_sq1, v_sqr, v_sts, v_st, v_inc, v_put, v_pt, v_pt2, v_fop, v_fo, v_fo2, v_ast, v_as, v_as2, v_as3, v_aop, v_ao, v_ao2, v_ao3, v_exs, v_ex, v_ifs, v_if1, v_if0, v_ret, v_rt, v_rez, v_rz, v_rev, v_brk, v_sws, v_sw, v_sw2, v_run, v_rb, v_turn, v_tu1, v_tu0, v_tu2, v_tu3, fst1, snd1, Option.map_some, Option.getD_some, enA, en, stE, okb, narV, rf_toNat, rf_nn, List.getElem?_cons_zero, List.getElem?_cons_succ, w32_id, w64_id, ite_t, ite_f, Int.toNat_add, Int.toNat_mul, dec_t, dec_f, sM_0, e3, lM]
  · obtain ⟨F, b3, z1, z2, mq3⟩ := fx_f fx
    have n16 := r_isWord (w := 16) mq3 z2 (by decide)
    rw [show ((16 : Nat) : Int) = 16 from rfl, if_neg (by omega)] at n16
    have n17 := r_isWord (w := 17) mq3 z2 (by decide)
    rw [show ((17 : Nat) : Int) = 17 from rfl, if_neg (by omega)] at n17
    have lM : loopS 2 3 (kX12_all_0c (gGX12_all y)) (kX12_all_0b (gGX12_all y)) (kX12_all_0u (gGX12_all y)) shM [(2, rf 0), (0, (w : Int)), (3, 0)] k2 = some (0, 0, [(2, rf 0), (0, (w : Int)), (3, 0)], k2) := turn_end (by
      simp -implicitDefEqProofs (disch := omega) [kX12_all_0c, v_cop, v_c1, v_c2, v_c3, v_c4, v_c5, v_bin, v_bn, v_bn2, v_div, v_dv, v_dv2, v_une, v_un, v_loc, v_num, v_get, v_gt, v_ald, v_al, v_al2, v_len, v_ln, v_rl0, v_rl1, v_rl2, v_rl3, v_rl4, v_rl5, v_cmp, v_cp, v_cp2, v_zC, v_zc, v_con, v_kc, v_and, v_an1, v_an0, v_or, v_or1, v_or0, v_not, v_nt, v_boo, v_bo, v_cnd, v_cd1, v_cd0, v_cnc, v_cc1, v_cc0, v_ev0, v_ev, v_e1, v_e2, v_cve, v_cv, v_cse, v_cs, v_skip, v_seq, v_sq0, v_sq1, v_sqr, v_sts, v_st, v_inc, v_put, v_pt, v_pt2, v_fop, v_fo, v_fo2, v_ast, v_as, v_as2, v_as3, v_aop, v_ao, v_ao2, v_ao3, v_exs, v_ex, v_ifs, v_if1, v_if0, v_ret, v_rt, v_rez, v_rz, v_rev, v_brk, v_sws, v_sw, v_sw2, v_run, v_rb, v_turn, v_tu1, v_tu0, v_tu2, v_tu3, fst1, snd1, Option.map_some, Option.getD_some, enA, en, stE, okb, narV, rf_toNat, rf_nn, List.getElem?_cons_zero, List.getElem?_cons_succ, w32_id, w64_id, ite_t, ite_f, Int.toNat_add, Int.toNat_mul, dec_t, dec_f, sM_0, n16, n17])
    refine .inr ⟨m2, k2, ?_, ?_, fx⟩
    · clear ih
      simp -implicitDefEqProofs (disch := omega) [bX8_readJoined, v_cop, v_c1, v_c2, v_c3, v_c4, v_c5, v_bin, v_bn, v_bn2, v_div, v_dv, v_dv2, v_une, v_un, v_loc, v_num, v_get, v_gt, v_ald, v_al, v_al2, v_len, v_ln, v_rl0, v_rl1, v_rl2, v_rl3, v_rl4, v_rl5, v_cmp, v_cp, v_cp2, v_zC, v_zc, v_con, v_kc, v_and, v_an1, v_an0, v_or, v_or1, v_or0, v_not, v_nt, v_boo, v_bo, v_cnd, v_cd1, v_cd0, v_cnc, v_cc1, v_cc0, v_ev0, v_ev, v_e1, v_e2, v_cve, v_cv, v_cse, v_cs, v_skip, v_seq, v_sq0, v_sq1, v_sqr, v_sts, v_st, v_inc, v_put, v_pt, v_pt2, v_fop, v_fo, v_fo2, v_ast, v_as, v_as2, v_as3, v_aop, v_ao, v_ao2, v_ao3, v_exs, v_ex, v_ifs, v_if1, v_if0, v_ret, v_rt, v_rez, v_rz, v_rev, v_brk, v_sws, v_sw, v_sw2, v_run, v_rb, v_turn, v_tu1, v_tu0, v_tu2, v_tu3, fst1, snd1, Option.map_some, Option.getD_some, enA, en, stE, okb, narV, rf_toNat, rf_nn, List.getElem?_cons_zero, List.getElem?_cons_succ, w32_id, w64_id, ite_t, ite_f, Int.toNat_add, Int.toNat_mul, dec_t, dec_f, sC_27, e2]
    · clear ih
      simp -implicitDefEqProofs (disch := omega) [bX12_all, kX12_all_0, v_cop, v_c1, v_c2, v_c3, v_c4, v_c5, v_bin, v_bn, v_bn2, v_div, v_dv, v_dv2, v_une, v_un, v_loc, v_num, v_get, v_gt, v_ald, v_al, v_al2, v_len, v_ln, v_rl0, v_rl1, v_rl2, v_rl3, v_rl4, v_rl5, v_cmp, v_cp, v_cp2, v_zC, v_zc, v_con, v_kc, v_and, v_an1, v_an0, v_or, v_or1, v_or0, v_not, v_nt, v_boo, v_bo, v_cnd, v_cd1, v_cd0, v_cnc, v_cc1, v_cc0, v_ev0, v_ev, v_e1, v_e2, v_cve, v_cv, v_cse, v_cs, v_skip, v_seq, v_sq0, v_sq1, v_sqr, v_sts, v_st, v_inc, v_put, v_pt, v_pt2, v_fop, v_fo, v_fo2, v_ast, v_as, v_as2, v_as3, v_aop, v_ao, v_ao2, v_ao3, v_exs, v_ex, v_ifs, v_if1, v_if0, v_ret, v_rt, v_rez, v_rz, v_rev, v_brk, v_sws, v_sw, v_sw2, v_run, v_rb, v_turn, v_tu1, v_tu0, v_tu2, v_tu3, fst1, snd1, Option.map_some, Option.getD_some, enA, en, stE, okb, narV, rf_toNat, rf_nn, List.getElem?_cons_zero, List.getElem?_cons_succ, w32_id, w64_id, ite_t, ite_f, Int.toNat_add, Int.toNat_mul, dec_t, dec_f, sM_0, e3, lM]
