/-! an evening: the reference's loops -/
set_option maxRecDepth 100000 in theorem r_goes0 {μ : Mem} {n P M : Nat} (h : PM μ) (B : FB (μ 6) n P M) : ∃ μ', loopS 2 3 kX12_goesOn_0c kX12_goesOn_0b kX12_goesOn_0u shM [(2, rf 0), (0, 0), (3, 0), (3, 0), (3, 0)] μ = some (0, 0, [(2, rf 0), (0, (n : Int)), (3, 0), (3, 0), (3, 0)], μ') ∧ (∀ b, b < n → μ' 15 (2 + b) = -1) ∧ ∀ x y, ¬ (x = 15 ∧ 2 ≤ y ∧ y < 2 + n) → μ' x y = μ x y := by
  have n1 := B.n1
  obtain ⟨env', m, lp, ⟨h3, A, D⟩⟩ := loop_n (kb := 2) (kc := 3) (c := kX12_goesOn_0c) (body := kX12_goesOn_0b) (upd := kX12_goesOn_0u) (sh := shM) (n := n) (fun j env m => env = [(2, rf 0), (0, (j : Int)), (3, 0), (3, 0), (3, 0)] ∧ (∀ b, b < j → m 15 (2 + b) = -1) ∧ ∀ x y, ¬ (x = 15 ∧ 2 ≤ y ∧ y < 2 + n) → m x y = μ x y) (by
    rintro j env m hj ⟨rfl, A, D⟩
    have p : PM m := h.keep (S := fun x y => x = 15) (fun x y hs => D x y (by omega)) (by decide)
    have eb := r_beasts p
    rw [D 6 1 (by omega), B.n0] at eb
    have i1 : 2 + (j : Int) < 5220 := by omega
    refine ⟨_, ud m 15 (2 + j) (-1), ?_, rfl, fun b hb => ?_, fun x y hxy => ?_⟩
    · simp -implicitDefEqProofs (disch := omega) [kX12_goesOn_0c, kX12_goesOn_0b, kX12_goesOn_0u, v_cop, v_c1, v_c2, v_c3, v_c4, v_c5, v_bin, v_bn, v_bn2, v_div, v_dv, v_dv2, v_une, v_un, v_loc, v_num, v_get, v_gt, v_ald, v_al, v_al2, v_len, v_ln, v_rl0, v_rl1, v_rl2, v_rl3, v_rl4, v_rl5, v_cmp, v_cp, v_cp2, v_zC, v_zc, v_con, v_kc, v_and, v_an1, v_an0, v_or, v_or1, v_or0, v_not, v_nt, v_boo, v_bo, v_cnd, v_cd1, v_cd0, v_cnc, v_cc1, v_cc0, v_ev0, v_ev, v_e1, v_e2, v_cve, v_cv, v_cse, v_cs, v_skip, v_seq, v_sq0, v_sq1, v_sqr, v_sts, v_st, v_inc, v_put, v_pt, v_pt2, v_fop, v_fo, v_fo2, v_ast, v_as, v_as2, v_as3, v_aop, v_ao, v_ao2, v_ao3, v_exs, v_ex, v_ifs, v_if1, v_if0, v_ret, v_rt, v_rez, v_rz, v_rev, v_brk, v_sws, v_sw, v_sw2, v_run, v_rb, v_turn, v_tu1, v_tu0, v_tu2, v_tu3, fst1, snd1, Option.map_some, Option.getD_some, enA, en, stE, okb, narV, rf_toNat, rf_nn, List.getElem?_cons_zero, List.getElem?_cons_succ, w32_id, w64_id, ite_t, ite_f, Int.toNat_add, Int.toNat_mul, dec_t, dec_f, sM_0, sM_15, p.p23, eb, hj, i1]
    · by_cases e : b = j
      · rw [e, ud_s]
      · rw [ud_j (by omega)]; exact A b (by omega)
    · rw [ud_n (by omega)]; exact D x y hxy) (by
    rintro env m ⟨rfl, A, D⟩
    have p : PM m := h.keep (S := fun x y => x = 15) (fun x y hs => D x y (by omega)) (by decide)
    have eb := r_beasts p
    rw [D 6 1 (by omega), B.n0] at eb
    simp -implicitDefEqProofs (disch := omega) [kX12_goesOn_0c, v_cop, v_c1, v_c2, v_c3, v_c4, v_c5, v_bin, v_bn, v_bn2, v_div, v_dv, v_dv2, v_une, v_un, v_loc, v_num, v_get, v_gt, v_ald, v_al, v_al2, v_len, v_ln, v_rl0, v_rl1, v_rl2, v_rl3, v_rl4, v_rl5, v_cmp, v_cp, v_cp2, v_zC, v_zc, v_con, v_kc, v_and, v_an1, v_an0, v_or, v_or1, v_or0, v_not, v_nt, v_boo, v_bo, v_cnd, v_cd1, v_cd0, v_cnc, v_cc1, v_cc0, v_ev0, v_ev, v_e1, v_e2, v_cve, v_cv, v_cse, v_cs, v_skip, v_seq, v_sq0, v_sq1, v_sqr, v_sts, v_st, v_inc, v_put, v_pt, v_pt2, v_fop, v_fo, v_fo2, v_ast, v_as, v_as2, v_as3, v_aop, v_ao, v_ao2, v_ao3, v_exs, v_ex, v_ifs, v_if1, v_if0, v_ret, v_rt, v_rez, v_rz, v_rev, v_brk, v_sws, v_sw, v_sw2, v_run, v_rb, v_turn, v_tu1, v_tu0, v_tu2, v_tu3, fst1, snd1, Option.map_some, Option.getD_some, enA, en, stE, okb, narV, rf_toNat, rf_nn, List.getElem?_cons_zero, List.getElem?_cons_succ, w32_id, w64_id, ite_t, ite_f, Int.toNat_add, Int.toNat_mul, dec_t, dec_f, sM_0, eb]) (env := [(2, rf 0), (0, 0), (3, 0), (3, 0), (3, 0)]) (μ := μ) ⟨rfl, fun b hb => by omega, fun _ _ _ => rfl⟩
  subst h3
  exact ⟨m, lp, A, D⟩
def LQ (μ : Mem) (N : Nat) : Prop := μ 6 183 = -1 ∨ ∃ t : Nat, μ 6 183 = (t : Int) ∧ PG lieW (μ 7) (μ 8) t N
set_option maxRecDepth 100000 in theorem x_when {m : Mem} {n P M : Nat} {st : Nat → Int} (Q : RQ m n P M st) {j : Nat} (hj : j < 12) (t : Vl) (r : List Vl) : condE (cmpC 0 (cvE 12 fX12_kindOf [(2, (locE 2 0)), (0, (locE 0 2))]) (numE 1)) (numE 0) (condE (cmpC 0 (cvE 12 fX12_kindOf [(2, (locE 2 0)), (0, (locE 0 2))]) (numE 4)) (numE 2) (numE 1)) shM ((2, rf 0) :: t :: (0, (j : Int)) :: r) m = some (if m 6 (3 + 2 * j) = 1 then 0 else if m 6 (3 + 2 * j) = 4 then 2 else 1, m) := by
  have e := r_kindOf Q.1 hj
  by_cases c1 : m 6 (3 + 2 * j) = 1
  · simp -implicitDefEqProofs (disch := omega) [v_cop, v_c1, v_c2, v_c3, v_c4, v_c5, v_bin, v_bn, v_bn2, v_div, v_dv, v_dv2, v_une, v_un, v_loc, v_num, v_get, v_gt, v_ald, v_al, v_al2, v_len, v_ln, v_rl0, v_rl1, v_rl2, v_rl3, v_rl4, v_rl5, v_cmp, v_cp, v_cp2, v_zC, v_zc, v_con, v_kc, v_and, v_an1, v_an0, v_or, v_or1, v_or0, v_not, v_nt, v_boo, v_bo, v_cnd, v_cd1, v_cd0, v_cnc, v_cc1, v_cc0, v_ev0, v_ev, v_e1, v_e2, v_cve, v_cv, v_cse, v_cs, v_skip, v_seq, v_sq0, v_sq1, v_sqr, v_sts, v_st, v_inc, v_put, v_pt, v_pt2, v_fop, v_fo, v_fo2, v_ast, v_as, v_as2, v_as3, v_aop, v_ao, v_ao2, v_ao3, v_exs, v_ex, v_ifs, v_if1, v_if0, v_ret, v_rt, v_rez, v_rz, v_rev, v_brk, v_sws, v_sw, v_sw2, v_run, v_rb, v_turn, v_tu1, v_tu0, v_tu2, v_tu3, fst1, snd1, Option.map_some, Option.getD_some, enA, en, stE, okb, narV, rf_toNat, rf_nn, List.getElem?_cons_zero, List.getElem?_cons_succ, w32_id, w64_id, ite_t, ite_f, Int.toNat_add, Int.toNat_mul, dec_t, dec_f, sM_0, e, c1]
  · by_cases c2 : m 6 (3 + 2 * j) = 4 <;> simp -implicitDefEqProofs (disch := omega) [v_cop, v_c1, v_c2, v_c3, v_c4, v_c5, v_bin, v_bn, v_bn2, v_div, v_dv, v_dv2, v_une, v_un, v_loc, v_num, v_get, v_gt, v_ald, v_al, v_al2, v_len, v_ln, v_rl0, v_rl1, v_rl2, v_rl3, v_rl4, v_rl5, v_cmp, v_cp, v_cp2, v_zC, v_zc, v_con, v_kc, v_and, v_an1, v_an0, v_or, v_or1, v_or0, v_not, v_nt, v_boo, v_bo, v_cnd, v_cd1, v_cd0, v_cnc, v_cc1, v_cc0, v_ev0, v_ev, v_e1, v_e2, v_cve, v_cv, v_cse, v_cs, v_skip, v_seq, v_sq0, v_sq1, v_sqr, v_sts, v_st, v_inc, v_put, v_pt, v_pt2, v_fop, v_fo, v_fo2, v_ast, v_as, v_as2, v_as3, v_aop, v_ao, v_ao2, v_ao3, v_exs, v_ex, v_ifs, v_if1, v_if0, v_ret, v_rt, v_rez, v_rz, v_rev, v_brk, v_sws, v_sw, v_sw2, v_run, v_rb, v_turn, v_tu1, v_tu0, v_tu2, v_tu3, fst1, snd1, Option.map_some, Option.getD_some, enA, en, stE, okb, narV, rf_toNat, rf_nn, List.getElem?_cons_zero, List.getElem?_cons_succ, w32_id, w64_id, ite_t, ite_f, Int.toNat_add, Int.toNat_mul, dec_t, dec_f, sM_0, e, c1, c2]
set_option maxRecDepth 100000 in theorem r_goes2 {μ : Mem} {n P M N w : Nat} {fl st op arg : Nat → Int} (Q : RQ μ n P M st) (hw : st 0 = (w : Int)) (hw2 : w < 4096) (L : LQ μ N) (h6 : μ 6 = fl) (h7 : μ 7 = op) (h8 : μ 8 = arg) {t : Nat} (C : RD μ (dkT fl st (LV op arg (fl 183) N) n P t)) {a3 : Nat} {v3 : Int} (ha3 : a3 ≠ 1) : ∃ μ', (∃ b3 : Nat, ∃ u3 : Int, b3 ≠ 1 ∧ loopS 6 7 kX12_goesOn_2c kX12_goesOn_2b kX12_goesOn_2u shM [(2, rf 0), (0, (t : Int)), (0, 0), (a3, v3), (3, 0)] μ = some (0, 0, [(2, rf 0), (0, (t : Int)), (0, (n : Int)), (b3, u3), (3, 0)], μ')) ∧ RD μ' (dkT fl st (LV op arg (fl 183) N) n P (t + 1)) ∧ ∀ x y, x ≠ 13 → x ≠ 14 → ¬ (x = 15 ∧ 2 ≤ y ∧ y < 14) → μ' x y = μ x y := by
  have B := Q.2.1
  have n1 := B.n1
  generalize hV : LV op arg (fl 183) N = V at *
  obtain ⟨env', m, lp, ⟨b3, u3, hb3, h3, C', D⟩⟩ := loop_n (kb := 6) (kc := 7) (c := kX12_goesOn_2c) (body := kX12_goesOn_2b) (upd := kX12_goesOn_2u) (sh := shM) (n := n) (fun j env m => ∃ (b3 : Nat) (u3 : Int), b3 ≠ 1 ∧ env = [(2, rf 0), (0, (t : Int)), (0, (j : Int)), (b3, u3), (3, 0)] ∧ RD m (dkB fl st V n P (t : Int) (dkT fl st V n P t) j) ∧ ∀ x y, x ≠ 13 → x ≠ 14 → ¬ (x = 15 ∧ 2 ≤ y ∧ y < 14) → m x y = μ x y) (by
    rintro j env m hj ⟨b3, u3, hb3, rfl, C1, D⟩
    have Q1 := Q.of (μ' := m) (fun x y h1 h2 h3 => D x y h1 h2 h3)
    have d6 : m 6 = fl := by rw [← h6]; funext y; exact D 6 y (by omega) (by omega) (by omega)
    have d7 : m 7 = op := by rw [← h7]; funext y; exact D 7 y (by omega) (by omega) (by omega)
    have d8 : m 8 = arg := by rw [← h8]; funext y; exact D 8 y (by omega) (by omega) (by omega)
    have W1 := (NW.dT_ (fl := fl) (st := st) (V := V) (n := n) (P := P) t).dB_ (fl := fl) (st := st) (V := V) (t := (t : Int)) j (by omega)
    have bs : dkB fl st V n P (t : Int) (dkT fl st V n P t) (j + 1) = dk1 fl st V n P (t : Int) j (dkB fl st V n P (t : Int) (dkT fl st V n P t) j) := rfl
    have ea := r_isAway Q1.1 (Q1.2.2.2.2.trans hw) hw2 (show j < 12 by omega)
    have ew := x_when Q1 (j := j) (by omega) (0, (t : Int)) [(b3, u3), (3, 0)]
    have eb := r_beasts Q1.1
    rw [Q1.2.1.n0] at eb
    rw [d6] at ew
    have hb3' : ¬ b3 = 1 := hb3
    rw [bs]
    unfold dk1
    have gw : (st 0).toNat = w := by rw [hw, Int.toNat_natCast]
    by_cases g : goS fl st (t : Int) j
    · rw [if_pos g]
      have Lm : LQ m N := by
        unfold LQ at L ⊢
        rw [d6, d7, d8, ← h6, ← h7, ← h8]
        exact L
      obtain ⟨m', e', C', D'⟩ := r_liesDown Q1 C1 W1 hj (N := N) Lm
      rw [d6, d7, d8, hV] at C'
      have g1' := g.1
      have g2' := g.2
      rw [gw] at g2'
      rw [g1'] at ew
      rw [g2'] at ea
      have t0 : kX12_goesOn_2b shM [(2, rf 0), (0, (t : Int)), (0, (j : Int)), (b3, u3), (3, 0)] m = some (0, 0, [(2, rf 0), (0, (t : Int)), (0, (j : Int)), (0, (t : Int)), (3, 0)], m') := by
        unfold kX12_goesOn_2b
        rw [go_st ew (by simp)]
        simp -implicitDefEqProofs (disch := omega) [v_cop, v_c1, v_c2, v_c3, v_c4, v_c5, v_bin, v_bn, v_bn2, v_div, v_dv, v_dv2, v_une, v_un, v_loc, v_num, v_get, v_gt, v_ald, v_al, v_al2, v_len, v_ln, v_rl0, v_rl1, v_rl2, v_rl3, v_rl4, v_rl5, v_cmp, v_cp, v_cp2, v_zC, v_zc, v_con, v_kc, v_and, v_an1, v_an0, v_or, v_or1, v_or0, v_not, v_nt, v_boo, v_bo, v_cnd, v_cd1, v_cd0, v_cnc, v_cc1, v_cc0, v_ev0, v_ev, v_e1, v_e2, v_cve, v_cv, v_cse, v_cs, v_skip, v_seq, v_sq0, v_sq1, v_sqr, v_sts, v_st, v_inc, v_put, v_pt, v_pt2, v_fop, v_fo, v_fo2, v_ast, v_as, v_as2, v_as3, v_aop, v_ao, v_ao2, v_ao3, v_exs, v_ex, v_ifs, v_if1, v_if0, v_ret, v_rt, v_rez, v_rz, v_rev, v_brk, v_sws, v_sw, v_sw2, v_run, v_rb, v_turn, v_tu1, v_tu0, v_tu2, v_tu3, fst1, snd1, Option.map_some, Option.getD_some, enA, en, stE, okb, narV, rf_toNat, rf_nn, List.getElem?_cons_zero, List.getElem?_cons_succ, w32_id, w64_id, ite_t, ite_f, Int.toNat_add, Int.toNat_mul, dec_t, dec_f, sM_0, ea, e', hb3']
      refine ⟨_, m', ?_, 0, (t : Int), by decide, rfl, C', fun x y h1 h2 h3 => by rw [D' x y h1 h2 (by omega)]; exact D x y h1 h2 h3⟩
      simp -implicitDefEqProofs (disch := omega) [kX12_goesOn_2c, kX12_goesOn_2u, v_cop, v_c1, v_c2, v_c3, v_c4, v_c5, v_bin, v_bn, v_bn2, v_div, v_dv, v_dv2, v_une, v_un, v_loc, v_num, v_get, v_gt, v_ald, v_al, v_al2, v_len, v_ln, v_rl0, v_rl1, v_rl2, v_rl3, v_rl4, v_rl5, v_cmp, v_cp, v_cp2, v_zC, v_zc, v_con, v_kc, v_and, v_an1, v_an0, v_or, v_or1, v_or0, v_not, v_nt, v_boo, v_bo, v_cnd, v_cd1, v_cd0, v_cnc, v_cc1, v_cc0, v_ev0, v_ev, v_e1, v_e2, v_cve, v_cv, v_cse, v_cs, v_skip, v_seq, v_sq0, v_sq1, v_sqr, v_sts, v_st, v_inc, v_put, v_pt, v_pt2, v_fop, v_fo, v_fo2, v_ast, v_as, v_as2, v_as3, v_aop, v_ao, v_ao2, v_ao3, v_exs, v_ex, v_ifs, v_if1, v_if0, v_ret, v_rt, v_rez, v_rz, v_rev, v_brk, v_sws, v_sw, v_sw2, v_run, v_rb, v_turn, v_tu1, v_tu0, v_tu2, v_tu3, fst1, snd1, Option.map_some, Option.getD_some, enA, en, stE, okb, narV, rf_toNat, rf_nn, List.getElem?_cons_zero, List.getElem?_cons_succ, w32_id, w64_id, ite_t, ite_f, Int.toNat_add, Int.toNat_mul, dec_t, dec_f, sM_0, eb, hj, t0]
    · rw [if_neg g]
      by_cases g1' : (if fl (3 + 2 * j) = 1 then 0 else if fl (3 + 2 * j) = 4 then 2 else (1 : Int)) = (t : Int)
      · have g2' : w.testBit j = true := by
          cases hz : w.testBit j with
          | true => rfl
          | false => exact absurd ⟨g1', by rw [gw]; exact hz⟩ g
        rw [g1'] at ew
        rw [g2'] at ea
        have t0 : kX12_goesOn_2b shM [(2, rf 0), (0, (t : Int)), (0, (j : Int)), (b3, u3), (3, 0)] m = some (0, 0, [(2, rf 0), (0, (t : Int)), (0, (j : Int)), (0, (t : Int)), (3, 0)], m) := by
          unfold kX12_goesOn_2b
          rw [go_st ew (by simp)]
          simp -implicitDefEqProofs (disch := omega) [v_cop, v_c1, v_c2, v_c3, v_c4, v_c5, v_bin, v_bn, v_bn2, v_div, v_dv, v_dv2, v_une, v_un, v_loc, v_num, v_get, v_gt, v_ald, v_al, v_al2, v_len, v_ln, v_rl0, v_rl1, v_rl2, v_rl3, v_rl4, v_rl5, v_cmp, v_cp, v_cp2, v_zC, v_zc, v_con, v_kc, v_and, v_an1, v_an0, v_or, v_or1, v_or0, v_not, v_nt, v_boo, v_bo, v_cnd, v_cd1, v_cd0, v_cnc, v_cc1, v_cc0, v_ev0, v_ev, v_e1, v_e2, v_cve, v_cv, v_cse, v_cs, v_skip, v_seq, v_sq0, v_sq1, v_sqr, v_sts, v_st, v_inc, v_put, v_pt, v_pt2, v_fop, v_fo, v_fo2, v_ast, v_as, v_as2, v_as3, v_aop, v_ao, v_ao2, v_ao3, v_exs, v_ex, v_ifs, v_if1, v_if0, v_ret, v_rt, v_rez, v_rz, v_rev, v_brk, v_sws, v_sw, v_sw2, v_run, v_rb, v_turn, v_tu1, v_tu0, v_tu2, v_tu3, fst1, snd1, Option.map_some, Option.getD_some, enA, en, stE, okb, narV, rf_toNat, rf_nn, List.getElem?_cons_zero, List.getElem?_cons_succ, w32_id, w64_id, ite_t, ite_f, Int.toNat_add, Int.toNat_mul, dec_t, dec_f, sM_0, ea, hb3']
        refine ⟨_, m, ?_, 0, (t : Int), by decide, rfl, C1, D⟩
        simp -implicitDefEqProofs (disch := omega) [kX12_goesOn_2c, kX12_goesOn_2u, v_cop, v_c1, v_c2, v_c3, v_c4, v_c5, v_bin, v_bn, v_bn2, v_div, v_dv, v_dv2, v_une, v_un, v_loc, v_num, v_get, v_gt, v_ald, v_al, v_al2, v_len, v_ln, v_rl0, v_rl1, v_rl2, v_rl3, v_rl4, v_rl5, v_cmp, v_cp, v_cp2, v_zC, v_zc, v_con, v_kc, v_and, v_an1, v_an0, v_or, v_or1, v_or0, v_not, v_nt, v_boo, v_bo, v_cnd, v_cd1, v_cd0, v_cnc, v_cc1, v_cc0, v_ev0, v_ev, v_e1, v_e2, v_cve, v_cv, v_cse, v_cs, v_skip, v_seq, v_sq0, v_sq1, v_sqr, v_sts, v_st, v_inc, v_put, v_pt, v_pt2, v_fop, v_fo, v_fo2, v_ast, v_as, v_as2, v_as3, v_aop, v_ao, v_ao2, v_ao3, v_exs, v_ex, v_ifs, v_if1, v_if0, v_ret, v_rt, v_rez, v_rz, v_rev, v_brk, v_sws, v_sw, v_sw2, v_run, v_rb, v_turn, v_tu1, v_tu0, v_tu2, v_tu3, fst1, snd1, Option.map_some, Option.getD_some, enA, en, stE, okb, narV, rf_toNat, rf_nn, List.getElem?_cons_zero, List.getElem?_cons_succ, w32_id, w64_id, ite_t, ite_f, Int.toNat_add, Int.toNat_mul, dec_t, dec_f, sM_0, eb, hj, t0]
      · generalize (if fl (3 + 2 * j) = 1 then 0 else if fl (3 + 2 * j) = 4 then 2 else (1 : Int)) = T at ew g1'
        have t0 : kX12_goesOn_2b shM [(2, rf 0), (0, (t : Int)), (0, (j : Int)), (b3, u3), (3, 0)] m = some (0, 0, [(2, rf 0), (0, (t : Int)), (0, (j : Int)), (0, T), (3, 0)], m) := by
          unfold kX12_goesOn_2b
          rw [go_st ew (by simp)]
          simp -implicitDefEqProofs (disch := omega) [v_cop, v_c1, v_c2, v_c3, v_c4, v_c5, v_bin, v_bn, v_bn2, v_div, v_dv, v_dv2, v_une, v_un, v_loc, v_num, v_get, v_gt, v_ald, v_al, v_al2, v_len, v_ln, v_rl0, v_rl1, v_rl2, v_rl3, v_rl4, v_rl5, v_cmp, v_cp, v_cp2, v_zC, v_zc, v_con, v_kc, v_and, v_an1, v_an0, v_or, v_or1, v_or0, v_not, v_nt, v_boo, v_bo, v_cnd, v_cd1, v_cd0, v_cnc, v_cc1, v_cc0, v_ev0, v_ev, v_e1, v_e2, v_cve, v_cv, v_cse, v_cs, v_skip, v_seq, v_sq0, v_sq1, v_sqr, v_sts, v_st, v_inc, v_put, v_pt, v_pt2, v_fop, v_fo, v_fo2, v_ast, v_as, v_as2, v_as3, v_aop, v_ao, v_ao2, v_ao3, v_exs, v_ex, v_ifs, v_if1, v_if0, v_ret, v_rt, v_rez, v_rz, v_rev, v_brk, v_sws, v_sw, v_sw2, v_run, v_rb, v_turn, v_tu1, v_tu0, v_tu2, v_tu3, fst1, snd1, Option.map_some, Option.getD_some, enA, en, stE, okb, narV, rf_toNat, rf_nn, List.getElem?_cons_zero, List.getElem?_cons_succ, w32_id, w64_id, ite_t, ite_f, Int.toNat_add, Int.toNat_mul, dec_t, dec_f, hb3', g1']
        refine ⟨_, m, ?_, 0, T, by decide, rfl, C1, D⟩
        simp -implicitDefEqProofs (disch := omega) [kX12_goesOn_2c, kX12_goesOn_2u, v_cop, v_c1, v_c2, v_c3, v_c4, v_c5, v_bin, v_bn, v_bn2, v_div, v_dv, v_dv2, v_une, v_un, v_loc, v_num, v_get, v_gt, v_ald, v_al, v_al2, v_len, v_ln, v_rl0, v_rl1, v_rl2, v_rl3, v_rl4, v_rl5, v_cmp, v_cp, v_cp2, v_zC, v_zc, v_con, v_kc, v_and, v_an1, v_an0, v_or, v_or1, v_or0, v_not, v_nt, v_boo, v_bo, v_cnd, v_cd1, v_cd0, v_cnc, v_cc1, v_cc0, v_ev0, v_ev, v_e1, v_e2, v_cve, v_cv, v_cse, v_cs, v_skip, v_seq, v_sq0, v_sq1, v_sqr, v_sts, v_st, v_inc, v_put, v_pt, v_pt2, v_fop, v_fo, v_fo2, v_ast, v_as, v_as2, v_as3, v_aop, v_ao, v_ao2, v_ao3, v_exs, v_ex, v_ifs, v_if1, v_if0, v_ret, v_rt, v_rez, v_rz, v_rev, v_brk, v_sws, v_sw, v_sw2, v_run, v_rb, v_turn, v_tu1, v_tu0, v_tu2, v_tu3, fst1, snd1, Option.map_some, Option.getD_some, enA, en, stE, okb, narV, rf_toNat, rf_nn, List.getElem?_cons_zero, List.getElem?_cons_succ, w32_id, w64_id, ite_t, ite_f, Int.toNat_add, Int.toNat_mul, dec_t, dec_f, sM_0, eb, hj, t0]) (by
    rintro env m ⟨b3, u3, hb3, rfl, C1, D⟩
    have Q1 := Q.of (μ' := m) (fun x y h1 h2 h3 => D x y h1 h2 h3)
    have eb := r_beasts Q1.1
    rw [Q1.2.1.n0] at eb
    simp -implicitDefEqProofs (disch := omega) [kX12_goesOn_2c, v_cop, v_c1, v_c2, v_c3, v_c4, v_c5, v_bin, v_bn, v_bn2, v_div, v_dv, v_dv2, v_une, v_un, v_loc, v_num, v_get, v_gt, v_ald, v_al, v_al2, v_len, v_ln, v_rl0, v_rl1, v_rl2, v_rl3, v_rl4, v_rl5, v_cmp, v_cp, v_cp2, v_zC, v_zc, v_con, v_kc, v_and, v_an1, v_an0, v_or, v_or1, v_or0, v_not, v_nt, v_boo, v_bo, v_cnd, v_cd1, v_cd0, v_cnc, v_cc1, v_cc0, v_ev0, v_ev, v_e1, v_e2, v_cve, v_cv, v_cse, v_cs, v_skip, v_seq, v_sq0, v_sq1, v_sqr, v_sts, v_st, v_inc, v_put, v_pt, v_pt2, v_fop, v_fo, v_fo2, v_ast, v_as, v_as2, v_as3, v_aop, v_ao, v_ao2, v_ao3, v_exs, v_ex, v_ifs, v_if1, v_if0, v_ret, v_rt, v_rez, v_rz, v_rev, v_brk, v_sws, v_sw, v_sw2, v_run, v_rb, v_turn, v_tu1, v_tu0, v_tu2, v_tu3, fst1, snd1, Option.map_some, Option.getD_some, enA, en, stE, okb, narV, rf_toNat, rf_nn, List.getElem?_cons_zero, List.getElem?_cons_succ, w32_id, w64_id, ite_t, ite_f, Int.toNat_add, Int.toNat_mul, dec_t, dec_f, sM_0, eb]) (env := [(2, rf 0), (0, (t : Int)), (0, 0), (a3, v3), (3, 0)]) (μ := μ) ⟨a3, v3, ha3, rfl, C, fun _ _ _ _ _ => rfl⟩
  subst h3
  exact ⟨m, ⟨b3, u3, hb3, lp⟩, C', D⟩
set_option maxRecDepth 100000 in theorem r_goes1 {μ : Mem} {n P M N w : Nat} {fl st op arg : Nat → Int} (Q : RQ μ n P M st) (hw : st 0 = (w : Int)) (hw2 : w < 4096) (L : LQ μ N) (h6 : μ 6 = fl) (h7 : μ 7 = op) (h8 : μ 8 = arg) (C : RD μ (fun _ => -1)) : ∃ μ', (∃ b2 b3 : Nat, ∃ u2 u3 : Int, b2 ≠ 1 ∧ b3 ≠ 1 ∧ loopS 4 5 kX12_goesOn_1c kX12_goesOn_1b kX12_goesOn_1u shM [(2, rf 0), (0, 0), (3, 0), (3, 0), (3, 0)] μ = some (0, 0, [(2, rf 0), (0, 3), (b2, u2), (b3, u3), (3, 0)], μ')) ∧ RD μ' (dkT fl st (LV op arg (fl 183) N) n P 3) ∧ ∀ x y, x ≠ 13 → x ≠ 14 → ¬ (x = 15 ∧ 2 ≤ y ∧ y < 14) → μ' x y = μ x y := by
  generalize hV : LV op arg (fl 183) N = V at *
  obtain ⟨env', m, lp, ⟨b2, b3, u2, u3, hb2, hb3, h3, C', D⟩⟩ := loop_n (kb := 4) (kc := 5) (c := kX12_goesOn_1c) (body := kX12_goesOn_1b) (upd := kX12_goesOn_1u) (sh := shM) (n := 3) (fun j env m => ∃ (b2 b3 : Nat) (u2 u3 : Int), b2 ≠ 1 ∧ b3 ≠ 1 ∧ env = [(2, rf 0), (0, (j : Int)), (b2, u2), (b3, u3), (3, 0)] ∧ RD m (dkT fl st V n P j) ∧ ∀ x y, x ≠ 13 → x ≠ 14 → ¬ (x = 15 ∧ 2 ≤ y ∧ y < 14) → m x y = μ x y) (by
    rintro j env m hj ⟨b2, b3, u2, u3, hb2, hb3, rfl, C1, D⟩
    have Q1 := Q.of (μ' := m) (fun x y h1 h2 h3 => D x y h1 h2 h3)
    have d6 : m 6 = fl := by rw [← h6]; funext y; exact D 6 y (by omega) (by omega) (by omega)
    have d7 : m 7 = op := by rw [← h7]; funext y; exact D 7 y (by omega) (by omega) (by omega)
    have d8 : m 8 = arg := by rw [← h8]; funext y; exact D 8 y (by omega) (by omega) (by omega)
    have Lm : LQ m N := by
      unfold LQ at L ⊢
      rw [d6, d7, d8, ← h6, ← h7, ← h8]
      exact L
    rw [← hV] at C1
    obtain ⟨m', ⟨c3, w3, hc3, e'⟩, C', D'⟩ := r_goes2 Q1 hw hw2 Lm d6 d7 d8 C1 (a3 := b3) (v3 := u3) hb3
    rw [hV] at C'
    have hb2' : ¬ b2 = 1 := hb2
    have hj3 : (j : Int) < 3 := by omega
    refine ⟨[(2, rf 0), (0, ((j + 1 : Nat) : Int)), (0, (n : Int)), (c3, w3), (3, 0)], m', ?_, 0, c3, (n : Int), w3, by decide, hc3, rfl, C', fun x y h1 h2 h3 => by rw [D' x y h1 h2 h3]; exact D x y h1 h2 h3⟩
    simp -implicitDefEqProofs (disch := omega) [kX12_goesOn_1c, kX12_goesOn_1b, kX12_goesOn_1u, kX12_goesOn_2, v_cop, v_c1, v_c2, v_c3, v_c4, v_c5, v_bin, v_bn, v_bn2, v_div, v_dv, v_dv2, v_une, v_un, v_loc, v_num, v_get, v_gt, v_ald, v_al, v_al2, v_len, v_ln, v_rl0, v_rl1, v_rl2, v_rl3, v_rl4, v_rl5, v_cmp, v_cp, v_cp2, v_zC, v_zc, v_con, v_kc, v_and, v_an1, v_an0, v_or, v_or1, v_or0, v_not, v_nt, v_boo, v_bo, v_cnd, v_cd1, v_cd0, v_cnc, v_cc1, v_cc0, v_ev0, v_ev, v_e1, v_e2, v_cve, v_cv, v_cse, v_cs, v_skip, v_seq, v_sq0, v_sq1, v_sqr, v_sts, v_st, v_inc, v_put, v_pt, v_pt2, v_fop, v_fo, v_fo2, v_ast, v_as, v_as2, v_as3, v_aop, v_ao, v_ao2, v_ao3, v_exs, v_ex, v_ifs, v_if1, v_if0, v_ret, v_rt, v_rez, v_rz, v_rev, v_brk, v_sws, v_sw, v_sw2, v_run, v_rb, v_turn, v_tu1, v_tu0, v_tu2, v_tu3, fst1, snd1, Option.map_some, Option.getD_some, enA, en, stE, okb, narV, rf_toNat, rf_nn, List.getElem?_cons_zero, List.getElem?_cons_succ, w32_id, w64_id, ite_t, ite_f, Int.toNat_add, Int.toNat_mul, dec_t, dec_f, hb2', hj, hj3, e']) (by
    rintro env m ⟨b2, b3, u2, u3, hb2, hb3, rfl, -⟩
    simp -implicitDefEqProofs (disch := omega) [kX12_goesOn_1c, v_cop, v_c1, v_c2, v_c3, v_c4, v_c5, v_bin, v_bn, v_bn2, v_div, v_dv, v_dv2, v_une, v_un, v_loc, v_num, v_get, v_gt, v_ald, v_al, v_al2, v_len, v_ln, v_rl0, v_rl1, v_rl2, v_rl3, v_rl4, v_rl5, v_cmp, v_cp, v_cp2, v_zC, v_zc, v_con, v_kc, v_and, v_an1, v_an0, v_or, v_or1, v_or0, v_not, v_nt, v_boo, v_bo, v_cnd, v_cd1, v_cd0, v_cnc, v_cc1, v_cc0, v_ev0, v_ev, v_e1, v_e2, v_cve, v_cv, v_cse, v_cs, v_skip, v_seq, v_sq0, v_sq1, v_sqr, v_sts, v_st, v_inc, v_put, v_pt, v_pt2, v_fop, v_fo, v_fo2, v_ast, v_as, v_as2, v_as3, v_aop, v_ao, v_ao2, v_ao3, v_exs, v_ex, v_ifs, v_if1, v_if0, v_ret, v_rt, v_rez, v_rz, v_rev, v_brk, v_sws, v_sw, v_sw2, v_run, v_rb, v_turn, v_tu1, v_tu0, v_tu2, v_tu3, fst1, snd1, Option.map_some, Option.getD_some, enA, en, stE, okb, narV, rf_toNat, rf_nn, List.getElem?_cons_zero, List.getElem?_cons_succ, w32_id, w64_id, ite_t, ite_f, Int.toNat_add, Int.toNat_mul, dec_t, dec_f]) (env := [(2, rf 0), (0, 0), (3, 0), (3, 0), (3, 0)]) (μ := μ) ⟨3, 3, 0, 0, by decide, by decide, rfl, C, fun _ _ _ _ _ => rfl⟩
  subst h3
  exact ⟨m, ⟨b2, b3, u2, u3, hb2, hb3, lp⟩, C', D⟩
set_option maxRecDepth 100000 in theorem r_goes4 {μ : Mem} {n a : Nat} {st nw : Nat → Int} (h : PM μ) (hn : μ 6 1 = (n : Int)) (n1 : n ≤ 12) (ha : a < n) (C : RD μ nw) (hb : ∀ y, y < n → μ 15 (38 + 12 * a + y) = st (38 + 12 * a + y)) (hw : ∀ b, -1 ≤ nw b ∧ nw b < 16) {a3 a4 : Nat} {v3 v4 : Int} (ha3 : a3 ≠ 1) (ha4 : a4 ≠ 1) : ∃ μ', (∃ b3 b4 : Nat, ∃ u3 u4 : Int, b3 ≠ 1 ∧ b4 ≠ 1 ∧ loopS 10 11 kX12_goesOn_4c kX12_goesOn_4b kX12_goesOn_4u shM [(2, rf 0), (0, (a : Int)), (0, 0), (a3, v3), (a4, v4)] μ = some (0, 0, [(2, rf 0), (0, (a : Int)), (0, (n : Int)), (b3, u3), (b4, u4)], μ')) ∧ (∀ y, y < n → μ' 15 (38 + 12 * a + y) = w32 (st (38 + 12 * a + y) + adj1 nw a y)) ∧ ∀ x y, ¬ (x = 15 ∧ 38 + 12 * a ≤ y ∧ y < 38 + 12 * a + n) → μ' x y = μ x y := by
  obtain ⟨env', m, lp, ⟨b3, b4, u3, u4, hb3, hb4, h3, A, A2, D⟩⟩ := loop_n (kb := 10) (kc := 11) (c := kX12_goesOn_4c) (body := kX12_goesOn_4b) (upd := kX12_goesOn_4u) (sh := shM) (n := n) (fun j env m => ∃ (b3 b4 : Nat) (u3 u4 : Int), b3 ≠ 1 ∧ b4 ≠ 1 ∧ env = [(2, rf 0), (0, (a : Int)), (0, (j : Int)), (b3, u3), (b4, u4)] ∧ (∀ y, y < j → m 15 (38 + 12 * a + y) = w32 (st (38 + 12 * a + y) + adj1 nw a y)) ∧ (∀ y, j ≤ y → y < n → m 15 (38 + 12 * a + y) = st (38 + 12 * a + y)) ∧ ∀ x y, ¬ (x = 15 ∧ 38 + 12 * a ≤ y ∧ y < 38 + 12 * a + n) → m x y = μ x y) (by
    rintro j env m hj ⟨b3, b4, u3, u4, hb3, hb4, rfl, A, A2, D⟩
    have p : PM m := h.keep (S := fun x y => x = 15) (fun x y hs => D x y (by omega)) (by decide)
    have eb := r_beasts p
    rw [D 6 1 (by omega), hn] at eb
    have e1 : m 15 (2 + a) = nw a := by rw [D _ _ (by omega)]; exact C a (by omega)
    have e2 : m 15 (2 + j) = nw j := by rw [D _ _ (by omega)]; exact C j (by omega)
    have e3 := A2 j (by omega) hj
    have hb3' : ¬ b3 = 1 := hb3
    have hb4' : ¬ b4 = 1 := hb4
    have w1 := hw a
    have w2 := hw j
    have i1 : 2 + (a : Int) < 5220 := by omega
    have i2 : 2 + (j : Int) < 5220 := by omega
    have i3 : (38 + 12 * (a : Int) + (j : Int)).toNat = 38 + 12 * a + j := by omega
    have i4 : 38 + 12 * (a : Int) + (j : Int) < 5220 := by omega
    have i5 : 0 ≤ 38 + 12 * (a : Int) + (j : Int) := by omega
    have key : ∃ u4', kX12_goesOn_4b shM [(2, rf 0), (0, (a : Int)), (0, (j : Int)), (b3, u3), (b4, u4)] m = some (0, 0, [(2, rf 0), (0, (a : Int)), (0, (j : Int)), (0, nw a - nw j), (0, u4')], ud m 15 (38 + 12 * a + j) (w32 (st (38 + 12 * a + j) + adj1 nw a j))) := by
      unfold adj1
      by_cases c1 : 0 ≤ nw a
      · by_cases c2 : 0 ≤ nw j
        · refine ⟨1, ?_⟩
          by_cases c3 : nw a - nw j = 1
          · rw [if_pos ⟨⟨c1, c2⟩, .inl c3⟩]
            simp -implicitDefEqProofs (disch := omega) [kX12_goesOn_4b, v_cop, v_c1, v_c2, v_c3, v_c4, v_c5, v_bin, v_bn, v_bn2, v_div, v_dv, v_dv2, v_une, v_un, v_loc, v_num, v_get, v_gt, v_ald, v_al, v_al2, v_len, v_ln, v_rl0, v_rl1, v_rl2, v_rl3, v_rl4, v_rl5, v_cmp, v_cp, v_cp2, v_zC, v_zc, v_con, v_kc, v_and, v_an1, v_an0, v_or, v_or1, v_or0, v_not, v_nt, v_boo, v_bo, v_cnd, v_cd1, v_cd0, v_cnc, v_cc1, v_cc0, v_ev0, v_ev, v_e1, v_e2, v_cve, v_cv, v_cse, v_cs, v_skip, v_seq, v_sq0, v_sq1, v_sqr, v_sts, v_st, v_inc, v_put, v_pt, v_pt2, v_fop, v_fo, v_fo2, v_ast, v_as, v_as2, v_as3, v_aop, v_ao, v_ao2, v_ao3, v_exs, v_ex, v_ifs, v_if1, v_if0, v_ret, v_rt, v_rez, v_rz, v_rev, v_brk, v_sws, v_sw, v_sw2, v_run, v_rb, v_turn, v_tu1, v_tu0, v_tu2, v_tu3, fst1, snd1, Option.map_some, Option.getD_some, enA, en, stE, okb, narV, rf_toNat, rf_nn, List.getElem?_cons_zero, List.getElem?_cons_succ, w32_id, w64_id, ite_t, ite_f, Int.toNat_add, Int.toNat_mul, dec_t, dec_f, sM_0, sM_15, p.p23, e1, e2, e3, hb3', hb4', i1, i2, i3, i4, i5, c1, c2, c3]
          · by_cases c4 : nw a - nw j = -1
            · rw [if_pos ⟨⟨c1, c2⟩, .inr c4⟩]
              simp -implicitDefEqProofs (disch := omega) [kX12_goesOn_4b, v_cop, v_c1, v_c2, v_c3, v_c4, v_c5, v_bin, v_bn, v_bn2, v_div, v_dv, v_dv2, v_une, v_un, v_loc, v_num, v_get, v_gt, v_ald, v_al, v_al2, v_len, v_ln, v_rl0, v_rl1, v_rl2, v_rl3, v_rl4, v_rl5, v_cmp, v_cp, v_cp2, v_zC, v_zc, v_con, v_kc, v_and, v_an1, v_an0, v_or, v_or1, v_or0, v_not, v_nt, v_boo, v_bo, v_cnd, v_cd1, v_cd0, v_cnc, v_cc1, v_cc0, v_ev0, v_ev, v_e1, v_e2, v_cve, v_cv, v_cse, v_cs, v_skip, v_seq, v_sq0, v_sq1, v_sqr, v_sts, v_st, v_inc, v_put, v_pt, v_pt2, v_fop, v_fo, v_fo2, v_ast, v_as, v_as2, v_as3, v_aop, v_ao, v_ao2, v_ao3, v_exs, v_ex, v_ifs, v_if1, v_if0, v_ret, v_rt, v_rez, v_rz, v_rev, v_brk, v_sws, v_sw, v_sw2, v_run, v_rb, v_turn, v_tu1, v_tu0, v_tu2, v_tu3, fst1, snd1, Option.map_some, Option.getD_some, enA, en, stE, okb, narV, rf_toNat, rf_nn, List.getElem?_cons_zero, List.getElem?_cons_succ, w32_id, w64_id, ite_t, ite_f, Int.toNat_add, Int.toNat_mul, dec_t, dec_f, sM_0, sM_15, p.p23, e1, e2, e3, hb3', hb4', i1, i2, i3, i4, i5, c1, c2, c3, c4]
            · rw [if_neg (by omega)]
              simp -implicitDefEqProofs (disch := omega) [kX12_goesOn_4b, v_cop, v_c1, v_c2, v_c3, v_c4, v_c5, v_bin, v_bn, v_bn2, v_div, v_dv, v_dv2, v_une, v_un, v_loc, v_num, v_get, v_gt, v_ald, v_al, v_al2, v_len, v_ln, v_rl0, v_rl1, v_rl2, v_rl3, v_rl4, v_rl5, v_cmp, v_cp, v_cp2, v_zC, v_zc, v_con, v_kc, v_and, v_an1, v_an0, v_or, v_or1, v_or0, v_not, v_nt, v_boo, v_bo, v_cnd, v_cd1, v_cd0, v_cnc, v_cc1, v_cc0, v_ev0, v_ev, v_e1, v_e2, v_cve, v_cv, v_cse, v_cs, v_skip, v_seq, v_sq0, v_sq1, v_sqr, v_sts, v_st, v_inc, v_put, v_pt, v_pt2, v_fop, v_fo, v_fo2, v_ast, v_as, v_as2, v_as3, v_aop, v_ao, v_ao2, v_ao3, v_exs, v_ex, v_ifs, v_if1, v_if0, v_ret, v_rt, v_rez, v_rz, v_rev, v_brk, v_sws, v_sw, v_sw2, v_run, v_rb, v_turn, v_tu1, v_tu0, v_tu2, v_tu3, fst1, snd1, Option.map_some, Option.getD_some, enA, en, stE, okb, narV, rf_toNat, rf_nn, List.getElem?_cons_zero, List.getElem?_cons_succ, w32_id, w64_id, ite_t, ite_f, Int.toNat_add, Int.toNat_mul, dec_t, dec_f, sM_0, sM_15, p.p23, e1, e2, e3, hb3', hb4', i1, i2, i3, i4, i5, c1, c2, c3, c4]
        · refine ⟨0, ?_⟩
          rw [if_neg (by omega)]
          simp -implicitDefEqProofs (disch := omega) [kX12_goesOn_4b, v_cop, v_c1, v_c2, v_c3, v_c4, v_c5, v_bin, v_bn, v_bn2, v_div, v_dv, v_dv2, v_une, v_un, v_loc, v_num, v_get, v_gt, v_ald, v_al, v_al2, v_len, v_ln, v_rl0, v_rl1, v_rl2, v_rl3, v_rl4, v_rl5, v_cmp, v_cp, v_cp2, v_zC, v_zc, v_con, v_kc, v_and, v_an1, v_an0, v_or, v_or1, v_or0, v_not, v_nt, v_boo, v_bo, v_cnd, v_cd1, v_cd0, v_cnc, v_cc1, v_cc0, v_ev0, v_ev, v_e1, v_e2, v_cve, v_cv, v_cse, v_cs, v_skip, v_seq, v_sq0, v_sq1, v_sqr, v_sts, v_st, v_inc, v_put, v_pt, v_pt2, v_fop, v_fo, v_fo2, v_ast, v_as, v_as2, v_as3, v_aop, v_ao, v_ao2, v_ao3, v_exs, v_ex, v_ifs, v_if1, v_if0, v_ret, v_rt, v_rez, v_rz, v_rev, v_brk, v_sws, v_sw, v_sw2, v_run, v_rb, v_turn, v_tu1, v_tu0, v_tu2, v_tu3, fst1, snd1, Option.map_some, Option.getD_some, enA, en, stE, okb, narV, rf_toNat, rf_nn, List.getElem?_cons_zero, List.getElem?_cons_succ, w32_id, w64_id, ite_t, ite_f, Int.toNat_add, Int.toNat_mul, dec_t, dec_f, sM_0, sM_15, p.p23, e1, e2, e3, hb3', hb4', i1, i2, i3, i4, i5, c1, c2]
      · refine ⟨0, ?_⟩
        rw [if_neg (by omega)]
        simp -implicitDefEqProofs (disch := omega) [kX12_goesOn_4b, v_cop, v_c1, v_c2, v_c3, v_c4, v_c5, v_bin, v_bn, v_bn2, v_div, v_dv, v_dv2, v_une, v_un, v_loc, v_num, v_get, v_gt, v_ald, v_al, v_al2, v_len, v_ln, v_rl0, v_rl1, v_rl2, v_rl3, v_rl4, v_rl5, v_cmp, v_cp, v_cp2, v_zC, v_zc, v_con, v_kc, v_and, v_an1, v_an0, v_or, v_or1, v_or0, v_not, v_nt, v_boo, v_bo, v_cnd, v_cd1, v_cd0, v_cnc, v_cc1, v_cc0, v_ev0, v_ev, v_e1, v_e2, v_cve, v_cv, v_cse, v_cs, v_skip, v_seq, v_sq0, v_sq1, v_sqr, v_sts, v_st, v_inc, v_put, v_pt, v_pt2, v_fop, v_fo, v_fo2, v_ast, v_as, v_as2, v_as3, v_aop, v_ao, v_ao2, v_ao3, v_exs, v_ex, v_ifs, v_if1, v_if0, v_ret, v_rt, v_rez, v_rz, v_rev, v_brk, v_sws, v_sw, v_sw2, v_run, v_rb, v_turn, v_tu1, v_tu0, v_tu2, v_tu3, fst1, snd1, Option.map_some, Option.getD_some, enA, en, stE, okb, narV, rf_toNat, rf_nn, List.getElem?_cons_zero, List.getElem?_cons_succ, w32_id, w64_id, ite_t, ite_f, Int.toNat_add, Int.toNat_mul, dec_t, dec_f, sM_0, sM_15, p.p23, e1, e2, e3, hb3', hb4', i1, i2, i3, i4, i5, c1]
    obtain ⟨u4', key⟩ := key
    refine ⟨[(2, rf 0), (0, (a : Int)), (0, ((j + 1 : Nat) : Int)), (0, nw a - nw j), (0, u4')], ud m 15 (38 + 12 * a + j) (w32 (st (38 + 12 * a + j) + adj1 nw a j)), ?_, 0, 0, nw a - nw j, u4', by decide, by decide, rfl, fun y hy => ?_, fun y h1 h2 => ?_, fun x y hxy => ?_⟩
    · simp -implicitDefEqProofs (disch := omega) [kX12_goesOn_4c, kX12_goesOn_4u, v_cop, v_c1, v_c2, v_c3, v_c4, v_c5, v_bin, v_bn, v_bn2, v_div, v_dv, v_dv2, v_une, v_un, v_loc, v_num, v_get, v_gt, v_ald, v_al, v_al2, v_len, v_ln, v_rl0, v_rl1, v_rl2, v_rl3, v_rl4, v_rl5, v_cmp, v_cp, v_cp2, v_zC, v_zc, v_con, v_kc, v_and, v_an1, v_an0, v_or, v_or1, v_or0, v_not, v_nt, v_boo, v_bo, v_cnd, v_cd1, v_cd0, v_cnc, v_cc1, v_cc0, v_ev0, v_ev, v_e1, v_e2, v_cve, v_cv, v_cse, v_cs, v_skip, v_seq, v_sq0, v_sq1, v_sqr, v_sts, v_st, v_inc, v_put, v_pt, v_pt2, v_fop, v_fo, v_fo2, v_ast, v_as, v_as2, v_as3, v_aop, v_ao, v_ao2, v_ao3, v_exs, v_ex, v_ifs, v_if1, v_if0, v_ret, v_rt, v_rez, v_rz, v_rev, v_brk, v_sws, v_sw, v_sw2, v_run, v_rb, v_turn, v_tu1, v_tu0, v_tu2, v_tu3, fst1, snd1, Option.map_some, Option.getD_some, enA, en, stE, okb, narV, rf_toNat, rf_nn, List.getElem?_cons_zero, List.getElem?_cons_succ, w32_id, w64_id, ite_t, ite_f, Int.toNat_add, Int.toNat_mul, dec_t, dec_f, sM_0, eb, hj, key]
    · by_cases e : y = j
      · rw [e, ud_s]
      · rw [ud_j (by omega)]; exact A y (by omega)
    · rw [ud_j (by omega)]; exact A2 y (by omega) h2
    · rw [ud_n (by omega)]; exact D x y hxy) (by
    rintro env m ⟨b3, b4, u3, u4, hb3, hb4, rfl, A, A2, D⟩
    have p : PM m := h.keep (S := fun x y => x = 15) (fun x y hs => D x y (by omega)) (by decide)
    have eb := r_beasts p
    rw [D 6 1 (by omega), hn] at eb
    simp -implicitDefEqProofs (disch := omega) [kX12_goesOn_4c, v_cop, v_c1, v_c2, v_c3, v_c4, v_c5, v_bin, v_bn, v_bn2, v_div, v_dv, v_dv2, v_une, v_un, v_loc, v_num, v_get, v_gt, v_ald, v_al, v_al2, v_len, v_ln, v_rl0, v_rl1, v_rl2, v_rl3, v_rl4, v_rl5, v_cmp, v_cp, v_cp2, v_zC, v_zc, v_con, v_kc, v_and, v_an1, v_an0, v_or, v_or1, v_or0, v_not, v_nt, v_boo, v_bo, v_cnd, v_cd1, v_cd0, v_cnc, v_cc1, v_cc0, v_ev0, v_ev, v_e1, v_e2, v_cve, v_cv, v_cse, v_cs, v_skip, v_seq, v_sq0, v_sq1, v_sqr, v_sts, v_st, v_inc, v_put, v_pt, v_pt2, v_fop, v_fo, v_fo2, v_ast, v_as, v_as2, v_as3, v_aop, v_ao, v_ao2, v_ao3, v_exs, v_ex, v_ifs, v_if1, v_if0, v_ret, v_rt, v_rez, v_rz, v_rev, v_brk, v_sws, v_sw, v_sw2, v_run, v_rb, v_turn, v_tu1, v_tu0, v_tu2, v_tu3, fst1, snd1, Option.map_some, Option.getD_some, enA, en, stE, okb, narV, rf_toNat, rf_nn, List.getElem?_cons_zero, List.getElem?_cons_succ, w32_id, w64_id, ite_t, ite_f, Int.toNat_add, Int.toNat_mul, dec_t, dec_f, sM_0, eb]) (env := [(2, rf 0), (0, (a : Int)), (0, 0), (a3, v3), (a4, v4)]) (μ := μ) ⟨a3, a4, v3, v4, ha3, ha4, rfl, fun y hy => by omega, fun y _ hy => hb y hy, fun _ _ _ => rfl⟩
  subst h3
  exact ⟨m, ⟨b3, b4, u3, u4, hb3, hb4, lp⟩, A, D⟩
