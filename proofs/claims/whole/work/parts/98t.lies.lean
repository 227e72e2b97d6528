/-! one beast lies down: the reference -/
noncomputable def nearI (fl : Nat → Int) (n P : Nat) (nw : Nat → Int) (b : Nat) : Int := by
  classical
  exact if nearS fl n P nw b then 1 else 0
noncomputable def mayI (fl : Nat → Int) (n P : Nat) (nw : Nat → Int) (b : Nat) (p : Int) : Int := by
  classical
  exact if mayS fl n P nw b p then 1 else 0
set_option maxRecDepth 100000 in theorem near01 (fl : Nat → Int) (n P : Nat) (nw : Nat → Int) (b : Nat) : (nearI fl n P nw b = 1 ∧ nearS fl n P nw b) ∨ (nearI fl n P nw b = 0 ∧ ¬ nearS fl n P nw b) := by
  unfold nearI
  by_cases c : nearS fl n P nw b
  · exact .inl ⟨if_pos c, c⟩
  · exact .inr ⟨if_neg c, c⟩
set_option maxRecDepth 100000 in theorem may01 (fl : Nat → Int) (n P : Nat) (nw : Nat → Int) (b : Nat) (p : Int) : (mayI fl n P nw b p = 1 ∧ mayS fl n P nw b p) ∨ (mayI fl n P nw b p = 0 ∧ ¬ mayS fl n P nw b p) := by
  unfold mayI
  by_cases c : mayS fl n P nw b p
  · exact .inl ⟨if_pos c, c⟩
  · exact .inr ⟨if_neg c, c⟩
set_option maxRecDepth 100000 in theorem by_b {fl nw : Nat → Int} {n P b : Nat} (W : NW nw n P) : -1 ≤ byS fl nw b ∧ byS fl nw b < (P : Int) := by
  unfold byS
  have := W.rg (b - 1)
  split <;> omega
set_option maxRecDepth 100000 in theorem x_by {μ : Mem} {n P M : Nat} {st nw : Nat → Int} (Q : RQ μ n P M st) (C : RD μ nw) {b : Nat} (hb : b < n) (r : List Vl) : condE (andC (cmpC 0 (cvE 12 fX12_kindOf [(2, (locE 2 0)), (0, (locE 0 1))]) (numE 2)) (zC 4 (locE 0 1))) (aldE 100 (getE 12 23 2 (locE 2 0)) (binE (fun x y => w32 (x - y)) (binE (fun x y => w32 (x + y)) (numE 2) (locE 0 1)) (numE 1))) (numE (-1)) shM ((2, rf 0) :: (0, (b : Int)) :: r) μ = some (byS (μ 6) nw b, μ) := by
  have n1 := Q.2.1.n1
  have e1 := r_kindOf Q.1 (b := b) (by omega)
  unfold byS
  by_cases c1 : μ 6 (3 + 2 * b) = 2
  · by_cases c2 : 0 < b
    · obtain ⟨c, rfl⟩ : ∃ c, b = c + 1 := ⟨b - 1, by omega⟩
      have e2 := C c (by omega)
      rw [if_pos ⟨c1, c2⟩]
      have i0 : (2 : Int) + ((c : Int) + 1) - 1 = 2 + (c : Int) := by omega
      have c3 : (0 : Int) < (c : Int) + 1 := by omega
      simp only [Int.natCast_add, Int.cast_ofNat_Int] at e1
      simp -implicitDefEqProofs (disch := omega) [v_cop, v_c1, v_c2, v_c3, v_c4, v_c5, v_bin, v_bn, v_bn2, v_div, v_dv, v_dv2, v_une, v_un, v_loc, v_num, v_get, v_gt, v_ald, v_al, v_al2, v_len, v_ln, v_rl0, v_rl1, v_rl2, v_rl3, v_rl4, v_rl5, v_cmp, v_cp, v_cp2, v_zC, v_zc, v_con, v_kc, v_and, v_an1, v_an0, v_or, v_or1, v_or0, v_not, v_nt, v_boo, v_bo, v_cnd, v_cd1, v_cd0, v_cnc, v_cc1, v_cc0, v_ev0, v_ev, v_e1, v_e2, v_cve, v_cv, v_cse, v_cs, v_skip, v_seq, v_sq0, v_sq1, v_sqr, v_sts, v_st, v_inc, v_put, v_pt, v_pt2, v_fop, v_fo, v_fo2, v_ast, v_as, v_as2, v_as3, v_aop, v_ao, v_ao2, v_ao3, v_exs, v_ex, v_ifs, v_if1, v_if0, v_ret, v_rt, v_rez, v_rz, v_rev, v_brk, v_sws, v_sw, v_sw2, v_run, v_rb, v_turn, v_tu1, v_tu0, v_tu2, v_tu3, fst1, snd1, Option.map_some, Option.getD_some, enA, en, stE, okb, narV, rf_toNat, rf_nn, List.getElem?_cons_zero, List.getElem?_cons_succ, w32_id, w64_id, ite_t, ite_f, Int.toNat_add, Int.toNat_mul, dec_t, dec_f, sM_0, sM_15, Q.1.p23, e1, c1, c3, i0, e2]
    · rw [if_neg (fun z => c2 z.2)]
      have c3 : ¬ (0 : Int) < (b : Int) := by omega
      simp -implicitDefEqProofs (disch := omega) [v_cop, v_c1, v_c2, v_c3, v_c4, v_c5, v_bin, v_bn, v_bn2, v_div, v_dv, v_dv2, v_une, v_un, v_loc, v_num, v_get, v_gt, v_ald, v_al, v_al2, v_len, v_ln, v_rl0, v_rl1, v_rl2, v_rl3, v_rl4, v_rl5, v_cmp, v_cp, v_cp2, v_zC, v_zc, v_con, v_kc, v_and, v_an1, v_an0, v_or, v_or1, v_or0, v_not, v_nt, v_boo, v_bo, v_cnd, v_cd1, v_cd0, v_cnc, v_cc1, v_cc0, v_ev0, v_ev, v_e1, v_e2, v_cve, v_cv, v_cse, v_cs, v_skip, v_seq, v_sq0, v_sq1, v_sqr, v_sts, v_st, v_inc, v_put, v_pt, v_pt2, v_fop, v_fo, v_fo2, v_ast, v_as, v_as2, v_as3, v_aop, v_ao, v_ao2, v_ao3, v_exs, v_ex, v_ifs, v_if1, v_if0, v_ret, v_rt, v_rez, v_rz, v_rev, v_brk, v_sws, v_sw, v_sw2, v_run, v_rb, v_turn, v_tu1, v_tu0, v_tu2, v_tu3, fst1, snd1, Option.map_some, Option.getD_some, enA, en, stE, okb, narV, rf_toNat, rf_nn, List.getElem?_cons_zero, List.getElem?_cons_succ, w32_id, w64_id, ite_t, ite_f, Int.toNat_add, Int.toNat_mul, dec_t, dec_f, sM_0, e1, c1, c2, c3]
  · rw [if_neg (fun z => c1 z.1)]
    simp -implicitDefEqProofs (disch := omega) [v_cop, v_c1, v_c2, v_c3, v_c4, v_c5, v_bin, v_bn, v_bn2, v_div, v_dv, v_dv2, v_une, v_un, v_loc, v_num, v_get, v_gt, v_ald, v_al, v_al2, v_len, v_ln, v_rl0, v_rl1, v_rl2, v_rl3, v_rl4, v_rl5, v_cmp, v_cp, v_cp2, v_zC, v_zc, v_con, v_kc, v_and, v_an1, v_an0, v_or, v_or1, v_or0, v_not, v_nt, v_boo, v_bo, v_cnd, v_cd1, v_cd0, v_cnc, v_cc1, v_cc0, v_ev0, v_ev, v_e1, v_e2, v_cve, v_cv, v_cse, v_cs, v_skip, v_seq, v_sq0, v_sq1, v_sqr, v_sts, v_st, v_inc, v_put, v_pt, v_pt2, v_fop, v_fo, v_fo2, v_ast, v_as, v_as2, v_as3, v_aop, v_ao, v_ao2, v_ao3, v_exs, v_ex, v_ifs, v_if1, v_if0, v_ret, v_rt, v_rez, v_rz, v_rev, v_brk, v_sws, v_sw, v_sw2, v_run, v_rb, v_turn, v_tu1, v_tu0, v_tu2, v_tu3, fst1, snd1, Option.map_some, Option.getD_some, enA, en, stE, okb, narV, rf_toNat, rf_nn, List.getElem?_cons_zero, List.getElem?_cons_succ, w32_id, w64_id, ite_t, ite_f, Int.toNat_add, Int.toNat_mul, dec_t, dec_f, sM_0, e1, c1]
set_option maxRecDepth 100000 in theorem x_near {μ : Mem} {n P M : Nat} {st nw : Nat → Int} (Q : RQ μ n P M st) (C : RD μ nw) (W : NW nw n P) {b : Nat} (t : Vl) (r : List Vl) : boolE (andC (zC 3 (locE 0 2)) (orC (zC 1 (cvE 12 fX12_isFree [(2, (locE 2 0)), (0, (binE (fun x y => w32 (x - y)) (locE 0 2) (numE 1)))])) (zC 1 (cvE 12 fX12_isFree [(2, (locE 2 0)), (0, (binE (fun x y => w32 (x + y)) (locE 0 2) (numE 1)))])))) shM ((2, rf 0) :: t :: (0, byS (μ 6) nw b) :: r) μ = some (nearI (μ 6) n P nw b, μ) := by
  have bb := by_b (fl := μ 6) (b := b) W
  have P2 := Q.2.1.P2
  have e1 := r_isFree Q C (byS (μ 6) nw b - 1)
  have e2 := r_isFree Q C (byS (μ 6) nw b + 1)
  unfold nearI nearS
  generalize byS (μ 6) nw b = y at *
  by_cases c1 : 0 ≤ y
  · rcases fre01 n P nw (y - 1) with ⟨z1, z2⟩ | ⟨z1, z2⟩
    · rw [if_pos ⟨c1, .inl z2⟩]
      rw [z1] at e1
      simp -implicitDefEqProofs (disch := omega) [v_cop, v_c1, v_c2, v_c3, v_c4, v_c5, v_bin, v_bn, v_bn2, v_div, v_dv, v_dv2, v_une, v_un, v_loc, v_num, v_get, v_gt, v_ald, v_al, v_al2, v_len, v_ln, v_rl0, v_rl1, v_rl2, v_rl3, v_rl4, v_rl5, v_cmp, v_cp, v_cp2, v_zC, v_zc, v_con, v_kc, v_and, v_an1, v_an0, v_or, v_or1, v_or0, v_not, v_nt, v_boo, v_bo, v_cnd, v_cd1, v_cd0, v_cnc, v_cc1, v_cc0, v_ev0, v_ev, v_e1, v_e2, v_cve, v_cv, v_cse, v_cs, v_skip, v_seq, v_sq0, v_sq1, v_sqr, v_sts, v_st, v_inc, v_put, v_pt, v_pt2, v_fop, v_fo, v_fo2, v_ast, v_as, v_as2, v_as3, v_aop, v_ao, v_ao2, v_ao3, v_exs, v_ex, v_ifs, v_if1, v_if0, v_ret, v_rt, v_rez, v_rz, v_rev, v_brk, v_sws, v_sw, v_sw2, v_run, v_rb, v_turn, v_tu1, v_tu0, v_tu2, v_tu3, fst1, snd1, Option.map_some, Option.getD_some, enA, en, stE, okb, narV, rf_toNat, rf_nn, List.getElem?_cons_zero, List.getElem?_cons_succ, w32_id, w64_id, ite_t, ite_f, Int.toNat_add, Int.toNat_mul, dec_t, dec_f, sM_0, c1, e1]
    · rw [z1] at e1
      rcases fre01 n P nw (y + 1) with ⟨z3, z4⟩ | ⟨z3, z4⟩
      · rw [if_pos ⟨c1, .inr z4⟩]
        rw [z3] at e2
        simp -implicitDefEqProofs (disch := omega) [v_cop, v_c1, v_c2, v_c3, v_c4, v_c5, v_bin, v_bn, v_bn2, v_div, v_dv, v_dv2, v_une, v_un, v_loc, v_num, v_get, v_gt, v_ald, v_al, v_al2, v_len, v_ln, v_rl0, v_rl1, v_rl2, v_rl3, v_rl4, v_rl5, v_cmp, v_cp, v_cp2, v_zC, v_zc, v_con, v_kc, v_and, v_an1, v_an0, v_or, v_or1, v_or0, v_not, v_nt, v_boo, v_bo, v_cnd, v_cd1, v_cd0, v_cnc, v_cc1, v_cc0, v_ev0, v_ev, v_e1, v_e2, v_cve, v_cv, v_cse, v_cs, v_skip, v_seq, v_sq0, v_sq1, v_sqr, v_sts, v_st, v_inc, v_put, v_pt, v_pt2, v_fop, v_fo, v_fo2, v_ast, v_as, v_as2, v_as3, v_aop, v_ao, v_ao2, v_ao3, v_exs, v_ex, v_ifs, v_if1, v_if0, v_ret, v_rt, v_rez, v_rz, v_rev, v_brk, v_sws, v_sw, v_sw2, v_run, v_rb, v_turn, v_tu1, v_tu0, v_tu2, v_tu3, fst1, snd1, Option.map_some, Option.getD_some, enA, en, stE, okb, narV, rf_toNat, rf_nn, List.getElem?_cons_zero, List.getElem?_cons_succ, w32_id, w64_id, ite_t, ite_f, Int.toNat_add, Int.toNat_mul, dec_t, dec_f, sM_0, c1, e1, e2]
      · rw [if_neg (by rintro ⟨-, q | q⟩; exact z2 q; exact z4 q)]
        rw [z3] at e2
        simp -implicitDefEqProofs (disch := omega) [v_cop, v_c1, v_c2, v_c3, v_c4, v_c5, v_bin, v_bn, v_bn2, v_div, v_dv, v_dv2, v_une, v_un, v_loc, v_num, v_get, v_gt, v_ald, v_al, v_al2, v_len, v_ln, v_rl0, v_rl1, v_rl2, v_rl3, v_rl4, v_rl5, v_cmp, v_cp, v_cp2, v_zC, v_zc, v_con, v_kc, v_and, v_an1, v_an0, v_or, v_or1, v_or0, v_not, v_nt, v_boo, v_bo, v_cnd, v_cd1, v_cd0, v_cnc, v_cc1, v_cc0, v_ev0, v_ev, v_e1, v_e2, v_cve, v_cv, v_cse, v_cs, v_skip, v_seq, v_sq0, v_sq1, v_sqr, v_sts, v_st, v_inc, v_put, v_pt, v_pt2, v_fop, v_fo, v_fo2, v_ast, v_as, v_as2, v_as3, v_aop, v_ao, v_ao2, v_ao3, v_exs, v_ex, v_ifs, v_if1, v_if0, v_ret, v_rt, v_rez, v_rz, v_rev, v_brk, v_sws, v_sw, v_sw2, v_run, v_rb, v_turn, v_tu1, v_tu0, v_tu2, v_tu3, fst1, snd1, Option.map_some, Option.getD_some, enA, en, stE, okb, narV, rf_toNat, rf_nn, List.getElem?_cons_zero, List.getElem?_cons_succ, w32_id, w64_id, ite_t, ite_f, Int.toNat_add, Int.toNat_mul, dec_t, dec_f, sM_0, c1, e1, e2]
  · rw [if_neg (fun z => c1 z.1)]
    simp -implicitDefEqProofs (disch := omega) [v_cop, v_c1, v_c2, v_c3, v_c4, v_c5, v_bin, v_bn, v_bn2, v_div, v_dv, v_dv2, v_une, v_un, v_loc, v_num, v_get, v_gt, v_ald, v_al, v_al2, v_len, v_ln, v_rl0, v_rl1, v_rl2, v_rl3, v_rl4, v_rl5, v_cmp, v_cp, v_cp2, v_zC, v_zc, v_con, v_kc, v_and, v_an1, v_an0, v_or, v_or1, v_or0, v_not, v_nt, v_boo, v_bo, v_cnd, v_cd1, v_cd0, v_cnc, v_cc1, v_cc0, v_ev0, v_ev, v_e1, v_e2, v_cve, v_cv, v_cse, v_cs, v_skip, v_seq, v_sq0, v_sq1, v_sqr, v_sts, v_st, v_inc, v_put, v_pt, v_pt2, v_fop, v_fo, v_fo2, v_ast, v_as, v_as2, v_as3, v_aop, v_ao, v_ao2, v_ao3, v_exs, v_ex, v_ifs, v_if1, v_if0, v_ret, v_rt, v_rez, v_rz, v_rev, v_brk, v_sws, v_sw, v_sw2, v_run, v_rb, v_turn, v_tu1, v_tu0, v_tu2, v_tu3, fst1, snd1, Option.map_some, Option.getD_some, enA, en, stE, okb, narV, rf_toNat, rf_nn, List.getElem?_cons_zero, List.getElem?_cons_succ, w32_id, w64_id, ite_t, ite_f, Int.toNat_add, Int.toNat_mul, dec_t, dec_f, c1]
set_option maxRecDepth 100000 in theorem x_may {μ : Mem} {n P M : Nat} {st nw : Nat → Int} (Q : RQ μ n P M st) (C : RD μ nw) (W : NW nw n P) {b p : Nat} (hp : p < P) (t t4 t5 : Vl) (r : List Vl) : boolE (andC (zC 1 (cvE 12 fX12_isFree [(2, (locE 2 0)), (0, (locE 0 6))])) (orC (orC (notC (zC 1 (locE 0 3))) (cmpC 0 (locE 0 6) (binE (fun x y => w32 (x - y)) (locE 0 2) (numE 1)))) (cmpC 0 (locE 0 6) (binE (fun x y => w32 (x + y)) (locE 0 2) (numE 1))))) shM ((2, rf 0) :: t :: (0, byS (μ 6) nw b) :: (0, nearI (μ 6) n P nw b) :: t4 :: t5 :: (0, (p : Int)) :: r) μ = some (mayI (μ 6) n P nw b p, μ) := by
  have bb := by_b (fl := μ 6) (b := b) W
  have P2 := Q.2.1.P2
  have e1 := r_isFree Q C (p : Int)
  have nr := near01 (μ 6) n P nw b
  unfold mayI mayS
  generalize byS (μ 6) nw b = y at *
  generalize nearI (μ 6) n P nw b = ni at *
  rcases fre01 n P nw (p : Int) with ⟨z1, z2⟩ | ⟨z1, z2⟩
  · rw [z1] at e1
    rcases nr with ⟨q1, q2⟩ | ⟨q1, q2⟩
    · by_cases c1 : (p : Int) = y - 1
      · rw [if_pos ⟨z2, fun _ => .inl c1⟩]
        simp -implicitDefEqProofs (disch := omega) [v_cop, v_c1, v_c2, v_c3, v_c4, v_c5, v_bin, v_bn, v_bn2, v_div, v_dv, v_dv2, v_une, v_un, v_loc, v_num, v_get, v_gt, v_ald, v_al, v_al2, v_len, v_ln, v_rl0, v_rl1, v_rl2, v_rl3, v_rl4, v_rl5, v_cmp, v_cp, v_cp2, v_zC, v_zc, v_con, v_kc, v_and, v_an1, v_an0, v_or, v_or1, v_or0, v_not, v_nt, v_boo, v_bo, v_cnd, v_cd1, v_cd0, v_cnc, v_cc1, v_cc0, v_ev0, v_ev, v_e1, v_e2, v_cve, v_cv, v_cse, v_cs, v_skip, v_seq, v_sq0, v_sq1, v_sqr, v_sts, v_st, v_inc, v_put, v_pt, v_pt2, v_fop, v_fo, v_fo2, v_ast, v_as, v_as2, v_as3, v_aop, v_ao, v_ao2, v_ao3, v_exs, v_ex, v_ifs, v_if1, v_if0, v_ret, v_rt, v_rez, v_rz, v_rev, v_brk, v_sws, v_sw, v_sw2, v_run, v_rb, v_turn, v_tu1, v_tu0, v_tu2, v_tu3, fst1, snd1, Option.map_some, Option.getD_some, enA, en, stE, okb, narV, rf_toNat, rf_nn, List.getElem?_cons_zero, List.getElem?_cons_succ, w32_id, w64_id, ite_t, ite_f, Int.toNat_add, Int.toNat_mul, dec_t, dec_f, sM_0, e1, q1]
      · by_cases c2 : (p : Int) = y + 1
        · rw [if_pos ⟨z2, fun _ => .inr c2⟩]
          simp -implicitDefEqProofs (disch := omega) [v_cop, v_c1, v_c2, v_c3, v_c4, v_c5, v_bin, v_bn, v_bn2, v_div, v_dv, v_dv2, v_une, v_un, v_loc, v_num, v_get, v_gt, v_ald, v_al, v_al2, v_len, v_ln, v_rl0, v_rl1, v_rl2, v_rl3, v_rl4, v_rl5, v_cmp, v_cp, v_cp2, v_zC, v_zc, v_con, v_kc, v_and, v_an1, v_an0, v_or, v_or1, v_or0, v_not, v_nt, v_boo, v_bo, v_cnd, v_cd1, v_cd0, v_cnc, v_cc1, v_cc0, v_ev0, v_ev, v_e1, v_e2, v_cve, v_cv, v_cse, v_cs, v_skip, v_seq, v_sq0, v_sq1, v_sqr, v_sts, v_st, v_inc, v_put, v_pt, v_pt2, v_fop, v_fo, v_fo2, v_ast, v_as, v_as2, v_as3, v_aop, v_ao, v_ao2, v_ao3, v_exs, v_ex, v_ifs, v_if1, v_if0, v_ret, v_rt, v_rez, v_rz, v_rev, v_brk, v_sws, v_sw, v_sw2, v_run, v_rb, v_turn, v_tu1, v_tu0, v_tu2, v_tu3, fst1, snd1, Option.map_some, Option.getD_some, enA, en, stE, okb, narV, rf_toNat, rf_nn, List.getElem?_cons_zero, List.getElem?_cons_succ, w32_id, w64_id, ite_t, ite_f, Int.toNat_add, Int.toNat_mul, dec_t, dec_f, sM_0, e1, q1]
        · rw [if_neg (fun z => by have := z.2 q2; omega)]
          simp -implicitDefEqProofs (disch := omega) [v_cop, v_c1, v_c2, v_c3, v_c4, v_c5, v_bin, v_bn, v_bn2, v_div, v_dv, v_dv2, v_une, v_un, v_loc, v_num, v_get, v_gt, v_ald, v_al, v_al2, v_len, v_ln, v_rl0, v_rl1, v_rl2, v_rl3, v_rl4, v_rl5, v_cmp, v_cp, v_cp2, v_zC, v_zc, v_con, v_kc, v_and, v_an1, v_an0, v_or, v_or1, v_or0, v_not, v_nt, v_boo, v_bo, v_cnd, v_cd1, v_cd0, v_cnc, v_cc1, v_cc0, v_ev0, v_ev, v_e1, v_e2, v_cve, v_cv, v_cse, v_cs, v_skip, v_seq, v_sq0, v_sq1, v_sqr, v_sts, v_st, v_inc, v_put, v_pt, v_pt2, v_fop, v_fo, v_fo2, v_ast, v_as, v_as2, v_as3, v_aop, v_ao, v_ao2, v_ao3, v_exs, v_ex, v_ifs, v_if1, v_if0, v_ret, v_rt, v_rez, v_rz, v_rev, v_brk, v_sws, v_sw, v_sw2, v_run, v_rb, v_turn, v_tu1, v_tu0, v_tu2, v_tu3, fst1, snd1, Option.map_some, Option.getD_some, enA, en, stE, okb, narV, rf_toNat, rf_nn, List.getElem?_cons_zero, List.getElem?_cons_succ, w32_id, w64_id, ite_t, ite_f, Int.toNat_add, Int.toNat_mul, dec_t, dec_f, sM_0, e1, q1]
    · rw [if_pos ⟨z2, fun z => absurd z q2⟩]
      simp -implicitDefEqProofs (disch := omega) [v_cop, v_c1, v_c2, v_c3, v_c4, v_c5, v_bin, v_bn, v_bn2, v_div, v_dv, v_dv2, v_une, v_un, v_loc, v_num, v_get, v_gt, v_ald, v_al, v_al2, v_len, v_ln, v_rl0, v_rl1, v_rl2, v_rl3, v_rl4, v_rl5, v_cmp, v_cp, v_cp2, v_zC, v_zc, v_con, v_kc, v_and, v_an1, v_an0, v_or, v_or1, v_or0, v_not, v_nt, v_boo, v_bo, v_cnd, v_cd1, v_cd0, v_cnc, v_cc1, v_cc0, v_ev0, v_ev, v_e1, v_e2, v_cve, v_cv, v_cse, v_cs, v_skip, v_seq, v_sq0, v_sq1, v_sqr, v_sts, v_st, v_inc, v_put, v_pt, v_pt2, v_fop, v_fo, v_fo2, v_ast, v_as, v_as2, v_as3, v_aop, v_ao, v_ao2, v_ao3, v_exs, v_ex, v_ifs, v_if1, v_if0, v_ret, v_rt, v_rez, v_rz, v_rev, v_brk, v_sws, v_sw, v_sw2, v_run, v_rb, v_turn, v_tu1, v_tu0, v_tu2, v_tu3, fst1, snd1, Option.map_some, Option.getD_some, enA, en, stE, okb, narV, rf_toNat, rf_nn, List.getElem?_cons_zero, List.getElem?_cons_succ, w32_id, w64_id, ite_t, ite_f, Int.toNat_add, Int.toNat_mul, dec_t, dec_f, sM_0, e1, q1]
  · rw [z1] at e1
    rw [if_neg (fun z => z2 z.1)]
    simp -implicitDefEqProofs (disch := omega) [v_cop, v_c1, v_c2, v_c3, v_c4, v_c5, v_bin, v_bn, v_bn2, v_div, v_dv, v_dv2, v_une, v_un, v_loc, v_num, v_get, v_gt, v_ald, v_al, v_al2, v_len, v_ln, v_rl0, v_rl1, v_rl2, v_rl3, v_rl4, v_rl5, v_cmp, v_cp, v_cp2, v_zC, v_zc, v_con, v_kc, v_and, v_an1, v_an0, v_or, v_or1, v_or0, v_not, v_nt, v_boo, v_bo, v_cnd, v_cd1, v_cd0, v_cnc, v_cc1, v_cc0, v_ev0, v_ev, v_e1, v_e2, v_cve, v_cv, v_cse, v_cs, v_skip, v_seq, v_sq0, v_sq1, v_sqr, v_sts, v_st, v_inc, v_put, v_pt, v_pt2, v_fop, v_fo, v_fo2, v_ast, v_as, v_as2, v_as3, v_aop, v_ao, v_ao2, v_ao3, v_exs, v_ex, v_ifs, v_if1, v_if0, v_ret, v_rt, v_rez, v_rz, v_rev, v_brk, v_sws, v_sw, v_sw2, v_run, v_rb, v_turn, v_tu1, v_tu0, v_tu2, v_tu3, fst1, snd1, Option.map_some, Option.getD_some, enA, en, stE, okb, narV, rf_toNat, rf_nn, List.getElem?_cons_zero, List.getElem?_cons_succ, w32_id, w64_id, ite_t, ite_f, Int.toNat_add, Int.toNat_mul, dec_t, dec_f, sM_0, e1]
set_option maxRecDepth 100000 in theorem r_liesDown {μ : Mem} {n P M N : Nat} {st nw : Nat → Int} (Q : RQ μ n P M st) (C : RD μ nw) (W : NW nw n P) {b : Nat} (hb : b < n) (L : μ 6 183 = -1 ∨ ∃ t : Nat, μ 6 183 = (t : Int) ∧ PG lieW (μ 7) (μ 8) t N) : ∃ μ', fX12_liesDown shM [(2, rf 0), (0, (b : Int))] μ = some (0, μ') ∧ RD μ' (upf nw b (bstS (μ 6) st (LV (μ 7) (μ 8) (μ 6 183) N) n P nw b P).1) ∧ ∀ x y, x ≠ 13 → x ≠ 14 → ¬ (x = 15 ∧ y = 2 + b) → μ' x y = μ x y := by
  have B := Q.2.1
  have P2 := B.P2
  have n1 := B.n1
  have e1 := x_by Q C hb [(3, 0), (3, 0), (3, 0), (3, 0), (3, 0), (3, 0), (3, 0), (3, 0)]
  have e2 := x_near Q C W (b := b) (0, (b : Int)) [(3, 0), (3, 0), (3, 0), (3, 0), (3, 0), (3, 0), (3, 0)]
  generalize hV : LV (μ 7) (μ 8) (μ 6 183) N = V
  obtain ⟨env', m, lp, ⟨a7, a8, a9, v7, v8, v9, h7, h8, h9, h3, D⟩⟩ := loop_n (kb := 2) (kc := 3) (c := kX12_liesDown_0c) (body := kX12_liesDown_0b) (upd := kX12_liesDown_0u) (sh := shM) (n := P) (fun j env m => ∃ (a7 a8 a9 : Nat) (v7 v8 v9 : Int), a7 ≠ 1 ∧ a8 ≠ 1 ∧ a9 ≠ 1 ∧ env = [(2, rf 0), (0, (b : Int)), (0, byS (μ 6) nw b), (0, nearI (μ 6) n P nw b), (0, (bstS (μ 6) st V n P nw b j).1), (0, (bstS (μ 6) st V n P nw b j).2), (0, (j : Int)), (a7, v7), (a8, v8), (a9, v9)] ∧ ∀ x y, x ≠ 13 → x ≠ 14 → m x y = μ x y) (by
    rintro j env m hj ⟨a7, a8, a9, v7, v8, v9, h7, h8, h9, rfl, D⟩
    have Q1 := Q.of (μ' := m) (fun x y h1 h2 _ => D x y h1 h2)
    have C1 := C.of (μ' := m) (fun y => D 15 y (by omega) (by omega))
    have d6 : m 6 = μ 6 := by funext y; exact D 6 y (by omega) (by omega)
    have d7 : m 7 = μ 7 := by funext y; exact D 7 y (by omega) (by omega)
    have d8 : m 8 = μ 8 := by funext y; exact D 8 y (by omega) (by omega)
    obtain ⟨μ', ew, D'⟩ := r_wants Q1 C1 W hb hj (N := N) (by rw [d6, d7, d8]; exact L)
    rw [d6, d7, d8, hV] at ew
    have xm := x_may Q1 C1 W (b := b) hj (0, (b : Int)) (0, (bstS (μ 6) st V n P nw b j).1) (0, (bstS (μ 6) st V n P nw b j).2) [(a7, v7), (a8, v8), (a9, v9)]
    rw [d6] at xm
    have ek := r_kindOf Q1.1 (b := b) (by omega)
    rw [d6] at ek
    have ep := r_places Q1.1
    rw [d6, B.P0] at ep
    have Q2 := Q1.of (μ' := μ') (fun x y h1 h2 _ => D' x y h1 h2)
    have ek2 := r_kindOf Q2.1 (b := b) (by omega)
    have d6' : μ' 6 = μ 6 := by funext y; rw [D' 6 y (by omega) (by omega), d6]
    rw [d6'] at ek2
    have br := bst_r (fl := μ 6) (st := st) (V := V) (n := n) (P := P) (nw := nw) (b := b) j
    have bs : bstS (μ 6) st V n P nw b (j + 1) = bst1 (μ 6) st V n P nw b j (bstS (μ 6) st V n P nw b j) := rfl
    rw [bs]
    generalize bstS (μ 6) st V n P nw b j = r at *
    obtain ⟨r1, r2⟩ := r
    have h7' : ¬ a7 = 1 := h7
    have h8' : ¬ a8 = 1 := h8
    have h9' : ¬ a9 = 1 := h9
    have hjP : (j : Int) < (P : Int) := by omega
    generalize byS (μ 6) nw b = y at *
    generalize nearI (μ 6) n P nw b = ni at *
    rcases may01 (μ 6) n P nw b (j : Int) with ⟨c1, may⟩ | ⟨c1, nmay⟩
    · rw [c1] at xm
      generalize hv : wnS (μ 6) st V n P nw b (j : Int) = v at ew
      have ok : ∀ (v1 v2 : Int), bst1 (μ 6) st V n P nw b j (r1, r2) = (v1, v2) → ∃ v9' : Int, kX12_liesDown_0b shM [(2, rf 0), (0, (b : Int)), (0, y), (0, ni), (0, r1), (0, r2), (0, (j : Int)), (a7, v7), (a8, v8), (a9, v9)] m = some (0, 0, [(2, rf 0), (0, (b : Int)), (0, y), (0, ni), (0, v1), (0, v2), (0, (j : Int)), (0, 1), (0, v), (0, v9')], μ') := by
        intro v1 v2 hb1
        unfold kX12_liesDown_0b
        rw [go_st xm (by simp)]
        by_cases q1 : r1 < 0
        · rw [bst1_t ⟨may, .inl q1⟩, hv] at hb1
          cases hb1
          refine ⟨1, ?_⟩
          simp -implicitDefEqProofs (disch := omega) [v_cop, v_c1, v_c2, v_c3, v_c4, v_c5, v_bin, v_bn, v_bn2, v_div, v_dv, v_dv2, v_une, v_un, v_loc, v_num, v_get, v_gt, v_ald, v_al, v_al2, v_len, v_ln, v_rl0, v_rl1, v_rl2, v_rl3, v_rl4, v_rl5, v_cmp, v_cp, v_cp2, v_zC, v_zc, v_con, v_kc, v_and, v_an1, v_an0, v_or, v_or1, v_or0, v_not, v_nt, v_boo, v_bo, v_cnd, v_cd1, v_cd0, v_cnc, v_cc1, v_cc0, v_ev0, v_ev, v_e1, v_e2, v_cve, v_cv, v_cse, v_cs, v_skip, v_seq, v_sq0, v_sq1, v_sqr, v_sts, v_st, v_inc, v_put, v_pt, v_pt2, v_fop, v_fo, v_fo2, v_ast, v_as, v_as2, v_as3, v_aop, v_ao, v_ao2, v_ao3, v_exs, v_ex, v_ifs, v_if1, v_if0, v_ret, v_rt, v_rez, v_rz, v_rev, v_brk, v_sws, v_sw, v_sw2, v_run, v_rb, v_turn, v_tu1, v_tu0, v_tu2, v_tu3, fst1, snd1, Option.map_some, Option.getD_some, enA, en, stE, okb, narV, rf_toNat, rf_nn, List.getElem?_cons_zero, List.getElem?_cons_succ, w32_id, w64_id, ite_t, ite_f, Int.toNat_add, Int.toNat_mul, dec_t, dec_f, sM_0, ew, h7', h8', h9', q1]
        · by_cases q2 : r2 < v
          · rw [bst1_t ⟨may, .inr (.inl (by rw [hv]; exact q2))⟩, hv] at hb1
            cases hb1
            refine ⟨1, ?_⟩
            simp -implicitDefEqProofs (disch := omega) [v_cop, v_c1, v_c2, v_c3, v_c4, v_c5, v_bin, v_bn, v_bn2, v_div, v_dv, v_dv2, v_une, v_un, v_loc, v_num, v_get, v_gt, v_ald, v_al, v_al2, v_len, v_ln, v_rl0, v_rl1, v_rl2, v_rl3, v_rl4, v_rl5, v_cmp, v_cp, v_cp2, v_zC, v_zc, v_con, v_kc, v_and, v_an1, v_an0, v_or, v_or1, v_or0, v_not, v_nt, v_boo, v_bo, v_cnd, v_cd1, v_cd0, v_cnc, v_cc1, v_cc0, v_ev0, v_ev, v_e1, v_e2, v_cve, v_cv, v_cse, v_cs, v_skip, v_seq, v_sq0, v_sq1, v_sqr, v_sts, v_st, v_inc, v_put, v_pt, v_pt2, v_fop, v_fo, v_fo2, v_ast, v_as, v_as2, v_as3, v_aop, v_ao, v_ao2, v_ao3, v_exs, v_ex, v_ifs, v_if1, v_if0, v_ret, v_rt, v_rez, v_rz, v_rev, v_brk, v_sws, v_sw, v_sw2, v_run, v_rb, v_turn, v_tu1, v_tu0, v_tu2, v_tu3, fst1, snd1, Option.map_some, Option.getD_some, enA, en, stE, okb, narV, rf_toNat, rf_nn, List.getElem?_cons_zero, List.getElem?_cons_succ, w32_id, w64_id, ite_t, ite_f, Int.toNat_add, Int.toNat_mul, dec_t, dec_f, sM_0, ew, h7', h8', h9', q1, q2]
          · by_cases q3 : v = r2
            · by_cases q4 : μ 6 (3 + 2 * b) = 3
              · rw [bst1_t ⟨may, .inr (.inr ⟨by rw [hv]; exact q3, q4⟩)⟩, hv] at hb1
                cases hb1
                refine ⟨1, ?_⟩
                simp -implicitDefEqProofs (disch := omega) [v_cop, v_c1, v_c2, v_c3, v_c4, v_c5, v_bin, v_bn, v_bn2, v_div, v_dv, v_dv2, v_une, v_un, v_loc, v_num, v_get, v_gt, v_ald, v_al, v_al2, v_len, v_ln, v_rl0, v_rl1, v_rl2, v_rl3, v_rl4, v_rl5, v_cmp, v_cp, v_cp2, v_zC, v_zc, v_con, v_kc, v_and, v_an1, v_an0, v_or, v_or1, v_or0, v_not, v_nt, v_boo, v_bo, v_cnd, v_cd1, v_cd0, v_cnc, v_cc1, v_cc0, v_ev0, v_ev, v_e1, v_e2, v_cve, v_cv, v_cse, v_cs, v_skip, v_seq, v_sq0, v_sq1, v_sqr, v_sts, v_st, v_inc, v_put, v_pt, v_pt2, v_fop, v_fo, v_fo2, v_ast, v_as, v_as2, v_as3, v_aop, v_ao, v_ao2, v_ao3, v_exs, v_ex, v_ifs, v_if1, v_if0, v_ret, v_rt, v_rez, v_rz, v_rev, v_brk, v_sws, v_sw, v_sw2, v_run, v_rb, v_turn, v_tu1, v_tu0, v_tu2, v_tu3, fst1, snd1, Option.map_some, Option.getD_some, enA, en, stE, okb, narV, rf_toNat, rf_nn, List.getElem?_cons_zero, List.getElem?_cons_succ, w32_id, w64_id, ite_t, ite_f, Int.toNat_add, Int.toNat_mul, dec_t, dec_f, sM_0, ew, h7', h8', h9', q1, q3, q4, ek2]
              · rw [bst1_f (by rw [hv]; rintro ⟨-, z | z | z⟩; exact q1 z; exact q2 z; exact q4 z.2)] at hb1
                cases hb1
                refine ⟨0, ?_⟩
                simp -implicitDefEqProofs (disch := omega) [v_cop, v_c1, v_c2, v_c3, v_c4, v_c5, v_bin, v_bn, v_bn2, v_div, v_dv, v_dv2, v_une, v_un, v_loc, v_num, v_get, v_gt, v_ald, v_al, v_al2, v_len, v_ln, v_rl0, v_rl1, v_rl2, v_rl3, v_rl4, v_rl5, v_cmp, v_cp, v_cp2, v_zC, v_zc, v_con, v_kc, v_and, v_an1, v_an0, v_or, v_or1, v_or0, v_not, v_nt, v_boo, v_bo, v_cnd, v_cd1, v_cd0, v_cnc, v_cc1, v_cc0, v_ev0, v_ev, v_e1, v_e2, v_cve, v_cv, v_cse, v_cs, v_skip, v_seq, v_sq0, v_sq1, v_sqr, v_sts, v_st, v_inc, v_put, v_pt, v_pt2, v_fop, v_fo, v_fo2, v_ast, v_as, v_as2, v_as3, v_aop, v_ao, v_ao2, v_ao3, v_exs, v_ex, v_ifs, v_if1, v_if0, v_ret, v_rt, v_rez, v_rz, v_rev, v_brk, v_sws, v_sw, v_sw2, v_run, v_rb, v_turn, v_tu1, v_tu0, v_tu2, v_tu3, fst1, snd1, Option.map_some, Option.getD_some, enA, en, stE, okb, narV, rf_toNat, rf_nn, List.getElem?_cons_zero, List.getElem?_cons_succ, w32_id, w64_id, ite_t, ite_f, Int.toNat_add, Int.toNat_mul, dec_t, dec_f, sM_0, ew, h7', h8', h9', q1, q3, q4, ek2]
            · rw [bst1_f (by rw [hv]; rintro ⟨-, z | z | z⟩; exact q1 z; exact q2 z; exact q3 z.1)] at hb1
              cases hb1
              refine ⟨0, ?_⟩
              simp -implicitDefEqProofs (disch := omega) [v_cop, v_c1, v_c2, v_c3, v_c4, v_c5, v_bin, v_bn, v_bn2, v_div, v_dv, v_dv2, v_une, v_un, v_loc, v_num, v_get, v_gt, v_ald, v_al, v_al2, v_len, v_ln, v_rl0, v_rl1, v_rl2, v_rl3, v_rl4, v_rl5, v_cmp, v_cp, v_cp2, v_zC, v_zc, v_con, v_kc, v_and, v_an1, v_an0, v_or, v_or1, v_or0, v_not, v_nt, v_boo, v_bo, v_cnd, v_cd1, v_cd0, v_cnc, v_cc1, v_cc0, v_ev0, v_ev, v_e1, v_e2, v_cve, v_cv, v_cse, v_cs, v_skip, v_seq, v_sq0, v_sq1, v_sqr, v_sts, v_st, v_inc, v_put, v_pt, v_pt2, v_fop, v_fo, v_fo2, v_ast, v_as, v_as2, v_as3, v_aop, v_ao, v_ao2, v_ao3, v_exs, v_ex, v_ifs, v_if1, v_if0, v_ret, v_rt, v_rez, v_rz, v_rev, v_brk, v_sws, v_sw, v_sw2, v_run, v_rb, v_turn, v_tu1, v_tu0, v_tu2, v_tu3, fst1, snd1, Option.map_some, Option.getD_some, enA, en, stE, okb, narV, rf_toNat, rf_nn, List.getElem?_cons_zero, List.getElem?_cons_succ, w32_id, w64_id, ite_t, ite_f, Int.toNat_add, Int.toNat_mul, dec_t, dec_f, sM_0, ew, h7', h8', h9', q1, q2, q3]
      obtain ⟨v9', ok'⟩ := ok (bst1 (μ 6) st V n P nw b j (r1, r2)).1 (bst1 (μ 6) st V n P nw b j (r1, r2)).2 rfl
      refine ⟨_, μ', ?_, 0, 0, 0, 1, v, v9', by decide, by decide, by decide, rfl, fun x y h1 h2 => by rw [D' x y h1 h2]; exact D x y h1 h2⟩
      simp -implicitDefEqProofs (disch := omega) [kX12_liesDown_0c, kX12_liesDown_0u, v_cop, v_c1, v_c2, v_c3, v_c4, v_c5, v_bin, v_bn, v_bn2, v_div, v_dv, v_dv2, v_une, v_un, v_loc, v_num, v_get, v_gt, v_ald, v_al, v_al2, v_len, v_ln, v_rl0, v_rl1, v_rl2, v_rl3, v_rl4, v_rl5, v_cmp, v_cp, v_cp2, v_zC, v_zc, v_con, v_kc, v_and, v_an1, v_an0, v_or, v_or1, v_or0, v_not, v_nt, v_boo, v_bo, v_cnd, v_cd1, v_cd0, v_cnc, v_cc1, v_cc0, v_ev0, v_ev, v_e1, v_e2, v_cve, v_cv, v_cse, v_cs, v_skip, v_seq, v_sq0, v_sq1, v_sqr, v_sts, v_st, v_inc, v_put, v_pt, v_pt2, v_fop, v_fo, v_fo2, v_ast, v_as, v_as2, v_as3, v_aop, v_ao, v_ao2, v_ao3, v_exs, v_ex, v_ifs, v_if1, v_if0, v_ret, v_rt, v_rez, v_rz, v_rev, v_brk, v_sws, v_sw, v_sw2, v_run, v_rb, v_turn, v_tu1, v_tu0, v_tu2, v_tu3, fst1, snd1, Option.map_some, Option.getD_some, enA, en, stE, okb, narV, rf_toNat, rf_nn, List.getElem?_cons_zero, List.getElem?_cons_succ, w32_id, w64_id, ite_t, ite_f, Int.toNat_add, Int.toNat_mul, dec_t, dec_f, sM_0, ep, hj, ok']
    · rw [c1] at xm
      rw [bst1_f (fun z => nmay z.1)]
      have ok : kX12_liesDown_0b shM [(2, rf 0), (0, (b : Int)), (0, y), (0, ni), (0, r1), (0, r2), (0, (j : Int)), (a7, v7), (a8, v8), (a9, v9)] m = some (0, 0, [(2, rf 0), (0, (b : Int)), (0, y), (0, ni), (0, r1), (0, r2), (0, (j : Int)), (0, 0), (0, 0), (0, 0)], m) := by
        unfold kX12_liesDown_0b
        rw [go_st xm (by simp)]
        simp -implicitDefEqProofs (disch := omega) [v_cop, v_c1, v_c2, v_c3, v_c4, v_c5, v_bin, v_bn, v_bn2, v_div, v_dv, v_dv2, v_une, v_un, v_loc, v_num, v_get, v_gt, v_ald, v_al, v_al2, v_len, v_ln, v_rl0, v_rl1, v_rl2, v_rl3, v_rl4, v_rl5, v_cmp, v_cp, v_cp2, v_zC, v_zc, v_con, v_kc, v_and, v_an1, v_an0, v_or, v_or1, v_or0, v_not, v_nt, v_boo, v_bo, v_cnd, v_cd1, v_cd0, v_cnc, v_cc1, v_cc0, v_ev0, v_ev, v_e1, v_e2, v_cve, v_cv, v_cse, v_cs, v_skip, v_seq, v_sq0, v_sq1, v_sqr, v_sts, v_st, v_inc, v_put, v_pt, v_pt2, v_fop, v_fo, v_fo2, v_ast, v_as, v_as2, v_as3, v_aop, v_ao, v_ao2, v_ao3, v_exs, v_ex, v_ifs, v_if1, v_if0, v_ret, v_rt, v_rez, v_rz, v_rev, v_brk, v_sws, v_sw, v_sw2, v_run, v_rb, v_turn, v_tu1, v_tu0, v_tu2, v_tu3, fst1, snd1, Option.map_some, Option.getD_some, enA, en, stE, okb, narV, rf_toNat, rf_nn, List.getElem?_cons_zero, List.getElem?_cons_succ, w32_id, w64_id, ite_t, ite_f, Int.toNat_add, Int.toNat_mul, dec_t, dec_f, h7', h8', h9']
      refine ⟨_, m, ?_, 0, 0, 0, 0, 0, 0, by decide, by decide, by decide, rfl, D⟩
      simp -implicitDefEqProofs (disch := omega) [kX12_liesDown_0c, kX12_liesDown_0u, v_cop, v_c1, v_c2, v_c3, v_c4, v_c5, v_bin, v_bn, v_bn2, v_div, v_dv, v_dv2, v_une, v_un, v_loc, v_num, v_get, v_gt, v_ald, v_al, v_al2, v_len, v_ln, v_rl0, v_rl1, v_rl2, v_rl3, v_rl4, v_rl5, v_cmp, v_cp, v_cp2, v_zC, v_zc, v_con, v_kc, v_and, v_an1, v_an0, v_or, v_or1, v_or0, v_not, v_nt, v_boo, v_bo, v_cnd, v_cd1, v_cd0, v_cnc, v_cc1, v_cc0, v_ev0, v_ev, v_e1, v_e2, v_cve, v_cv, v_cse, v_cs, v_skip, v_seq, v_sq0, v_sq1, v_sqr, v_sts, v_st, v_inc, v_put, v_pt, v_pt2, v_fop, v_fo, v_fo2, v_ast, v_as, v_as2, v_as3, v_aop, v_ao, v_ao2, v_ao3, v_exs, v_ex, v_ifs, v_if1, v_if0, v_ret, v_rt, v_rez, v_rz, v_rev, v_brk, v_sws, v_sw, v_sw2, v_run, v_rb, v_turn, v_tu1, v_tu0, v_tu2, v_tu3, fst1, snd1, Option.map_some, Option.getD_some, enA, en, stE, okb, narV, rf_toNat, rf_nn, List.getElem?_cons_zero, List.getElem?_cons_succ, w32_id, w64_id, ite_t, ite_f, Int.toNat_add, Int.toNat_mul, dec_t, dec_f, sM_0, ep, hj, ok]) (by
    rintro env m ⟨a7, a8, a9, v7, v8, v9, h7, h8, h9, rfl, D⟩
    have Q1 := Q.of (μ' := m) (fun x y h1 h2 _ => D x y h1 h2)
    have d6 : m 6 = μ 6 := by funext y; exact D 6 y (by omega) (by omega)
    have ep := r_places Q1.1
    rw [d6, B.P0] at ep
    simp -implicitDefEqProofs (disch := omega) [kX12_liesDown_0c, v_cop, v_c1, v_c2, v_c3, v_c4, v_c5, v_bin, v_bn, v_bn2, v_div, v_dv, v_dv2, v_une, v_un, v_loc, v_num, v_get, v_gt, v_ald, v_al, v_al2, v_len, v_ln, v_rl0, v_rl1, v_rl2, v_rl3, v_rl4, v_rl5, v_cmp, v_cp, v_cp2, v_zC, v_zc, v_con, v_kc, v_and, v_an1, v_an0, v_or, v_or1, v_or0, v_not, v_nt, v_boo, v_bo, v_cnd, v_cd1, v_cd0, v_cnc, v_cc1, v_cc0, v_ev0, v_ev, v_e1, v_e2, v_cve, v_cv, v_cse, v_cs, v_skip, v_seq, v_sq0, v_sq1, v_sqr, v_sts, v_st, v_inc, v_put, v_pt, v_pt2, v_fop, v_fo, v_fo2, v_ast, v_as, v_as2, v_as3, v_aop, v_ao, v_ao2, v_ao3, v_exs, v_ex, v_ifs, v_if1, v_if0, v_ret, v_rt, v_rez, v_rz, v_rev, v_brk, v_sws, v_sw, v_sw2, v_run, v_rb, v_turn, v_tu1, v_tu0, v_tu2, v_tu3, fst1, snd1, Option.map_some, Option.getD_some, enA, en, stE, okb, narV, rf_toNat, rf_nn, List.getElem?_cons_zero, List.getElem?_cons_succ, w32_id, w64_id, ite_t, ite_f, Int.toNat_add, Int.toNat_mul, dec_t, dec_f, sM_0, ep]) (env := [(2, rf 0), (0, (b : Int)), (0, byS (μ 6) nw b), (0, nearI (μ 6) n P nw b), (0, -1), (0, 0), (0, 0), (3, 0), (3, 0), (3, 0)]) (μ := μ) ⟨3, 3, 3, 0, 0, 0, by decide, by decide, by decide, rfl, fun _ _ _ _ => rfl⟩
  subst h3
  have Q1 := Q.of (μ' := m) (fun x y h1 h2 _ => D x y h1 h2)
  refine ⟨ud m 15 (2 + b) (bstS (μ 6) st V n P nw b P).1, ?_, fun e he => ?_, fun x y h1 h2 h3 => ?_⟩
  · generalize bstS (μ 6) st V n P nw b P = r at *
    have key : bX12_liesDown shM [(2, rf 0), (0, (b : Int)), (3, 0), (3, 0), (3, 0), (3, 0), (3, 0), (3, 0), (3, 0), (3, 0)] μ = some (1, 0, [(2, rf 0), (0, (b : Int)), (0, byS (μ 6) nw b), (0, nearI (μ 6) n P nw b), (0, r.1), (0, r.2), (0, (P : Int)), (a7, v7), (a8, v8), (a9, v9)], ud m 15 (2 + b) r.1) := by
      unfold bX12_liesDown
      rw [v_seq, go_st e1 (by simp)]
      simp only [stE, List.mapIdx_cons, List.mapIdx_nil]
      simp only [Nat.reduceEqDiff, if_false, if_true, Nat.zero_add, Nat.reduceAdd, false_and, and_false, reduceIte]
      rw [go_st e2 (by simp)]
      simp -implicitDefEqProofs (disch := omega) [kX12_liesDown_0, v_cop, v_c1, v_c2, v_c3, v_c4, v_c5, v_bin, v_bn, v_bn2, v_div, v_dv, v_dv2, v_une, v_un, v_loc, v_num, v_get, v_gt, v_ald, v_al, v_al2, v_len, v_ln, v_rl0, v_rl1, v_rl2, v_rl3, v_rl4, v_rl5, v_cmp, v_cp, v_cp2, v_zC, v_zc, v_con, v_kc, v_and, v_an1, v_an0, v_or, v_or1, v_or0, v_not, v_nt, v_boo, v_bo, v_cnd, v_cd1, v_cd0, v_cnc, v_cc1, v_cc0, v_ev0, v_ev, v_e1, v_e2, v_cve, v_cv, v_cse, v_cs, v_skip, v_seq, v_sq0, v_sq1, v_sqr, v_sts, v_st, v_inc, v_put, v_pt, v_pt2, v_fop, v_fo, v_fo2, v_ast, v_as, v_as2, v_as3, v_aop, v_ao, v_ao2, v_ao3, v_exs, v_ex, v_ifs, v_if1, v_if0, v_ret, v_rt, v_rez, v_rz, v_rev, v_brk, v_sws, v_sw, v_sw2, v_run, v_rb, v_turn, v_tu1, v_tu0, v_tu2, v_tu3, fst1, snd1, Option.map_some, Option.getD_some, enA, en, stE, okb, narV, rf_toNat, rf_nn, List.getElem?_cons_zero, List.getElem?_cons_succ, w32_id, w64_id, ite_t, ite_f, Int.toNat_add, Int.toNat_mul, dec_t, dec_f, lp, sM_0, sM_15, Q1.1.p23]
    simp -implicitDefEqProofs (disch := omega) [fX12_liesDown, v_cop, v_c1, v_c2, v_c3, v_c4, v_c5, v_bin, v_bn, v_bn2, v_div, v_dv, v_dv2, v_une, v_un, v_loc, v_num, v_get, v_gt, v_ald, v_al, v_al2, v_len, v_ln, v_rl0, v_rl1, v_rl2, v_rl3, v_rl4, v_rl5, v_cmp, v_cp, v_cp2, v_zC, v_zc, v_con, v_kc, v_and, v_an1, v_an0, v_or, v_or1, v_or0, v_not, v_nt, v_boo, v_bo, v_cnd, v_cd1, v_cd0, v_cnc, v_cc1, v_cc0, v_ev0, v_ev, v_e1, v_e2, v_cve, v_cv, v_cse, v_cs, v_skip, v_seq, v_sq0, v_sq1, v_sqr, v_sts, v_st, v_inc, v_put, v_pt, v_pt2, v_fop, v_fo, v_fo2, v_ast, v_as, v_as2, v_as3, v_aop, v_ao, v_ao2, v_ao3, v_exs, v_ex, v_ifs, v_if1, v_if0, v_ret, v_rt, v_rez, v_rz, v_rev, v_brk, v_sws, v_sw, v_sw2, v_run, v_rb, v_turn, v_tu1, v_tu0, v_tu2, v_tu3, fst1, snd1, Option.map_some, Option.getD_some, enA, en, stE, okb, narV, rf_toNat, rf_nn, List.getElem?_cons_zero, List.getElem?_cons_succ, w32_id, w64_id, ite_t, ite_f, Int.toNat_add, Int.toNat_mul, dec_t, dec_f, key]
  · by_cases ce : e = b
    · rw [ce, ud_s, upf_s]
    · rw [ud_j (by omega), upf_n ce, D _ _ (by omega) (by omega)]; exact C e he
  · rw [ud_n h3]; exact D x y h1 h2
