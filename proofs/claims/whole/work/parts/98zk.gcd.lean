/-! what both can be divided by; odds -/
set_option maxRecDepth 100000 in theorem r_allStray {μ : Mem} {n P M N w : Nat} (p : PM μ) (B : FB (μ 6) n P M) (L : LQs μ N) (hw : μ 15 0 = (w : Int)) (hw2 : w < 4096) {b : Nat} (hb : b < n) : ∃ μ', fX12_allStray shM [(2, rf 0), (0, (b : Int))] μ = some (sumN (stS_ (μ 6) (μ 15) (LV (μ 7) (μ 8) (μ 6 184) N) n b) M, μ') ∧ ∀ x y, x ≠ 13 → x ≠ 14 → μ' x y = μ x y := by
  have M1 := B.M1
  generalize hV : LV (μ 7) (μ 8) (μ 6 184) N = V
  obtain ⟨env', m, lp, ⟨e0, D⟩⟩ := loop_n (kb := 2) (kc := 3) (c := kX12_allStray_0c) (body := kX12_allStray_0b) (upd := kX12_allStray_0u) (sh := shM) (n := M) (fun j env m => env = [(2, rf 0), (0, (b : Int)), (0, sumN (stS_ (μ 6) (μ 15) V n b) j), (0, (j : Int))] ∧ ∀ x y, x ≠ 13 → x ≠ 14 → m x y = μ x y) (by
    rintro j env m hj ⟨rfl, D⟩
    have pm : PM m := p.keep (S := fun x y => x = 13 ∨ x = 14) (fun x y hs => D x y (by omega) (by omega)) (by decide)
    have q6 : m 6 = μ 6 := by funext y; exact D 6 y (by omega) (by omega)
    have q7 : m 7 = μ 7 := by funext y; exact D 7 y (by omega) (by omega)
    have q8 : m 8 = μ 8 := by funext y; exact D 8 y (by omega) (by omega)
    have q15 : m 15 = μ 15 := by funext y; exact D 15 y (by omega) (by omega)
    obtain ⟨m', e1, D'⟩ := r_straysTo (N := N) pm (by rw [q6]; exact B) (by unfold LQs at L ⊢; rw [q6, q7, q8]; exact L) (by rw [q15]; exact hw) hw2 hb hj
    rw [q6, q7, q8, q15, hV] at e1
    have em := r_meadows pm
    rw [q6, B.M0] at em
    have tb := tot_b (fl := μ 6) (st := μ 15) (V := V) (n := n) (b := b) j (by omega)
    have cb := clm_b (V (fcT (μ 6) (μ 15) n b j))
    have sd : stS_ (μ 6) (μ 15) V n b j = clm (V (fcT (μ 6) (μ 15) n b j)) := rfl
    rw [← sd] at cb
    refine ⟨[(2, rf 0), (0, (b : Int)), (0, sumN (stS_ (μ 6) (μ 15) V n b) (j + 1)), (0, ((j + 1 : Nat) : Int))], m', ?_, rfl, fun x y h1 h2 => by rw [D' x y h1 h2]; exact D x y h1 h2⟩
    have es : sumN (stS_ (μ 6) (μ 15) V n b) (j + 1) = sumN (stS_ (μ 6) (μ 15) V n b) j + stS_ (μ 6) (μ 15) V n b j := rfl
    rw [es]
    generalize sumN (stS_ (μ 6) (μ 15) V n b) j = S at *
    generalize stS_ (μ 6) (μ 15) V n b j = T at *
    simp -implicitDefEqProofs (disch := omega) [kX12_allStray_0c, kX12_allStray_0b, kX12_allStray_0u, v_cop, v_c1, v_c2, v_c3, v_c4, v_c5, v_bin, v_bn, v_bn2, v_div, v_dv, v_dv2, v_une, v_un, v_loc, v_num, v_get, v_gt, v_ald, v_al, v_al2, v_len, v_ln, v_rl0, v_rl1, v_rl2, v_rl3, v_rl4, v_rl5, v_cmp, v_cp, v_cp2, v_zC, v_zc, v_con, v_kc, v_and, v_an1, v_an0, v_or, v_or1, v_or0, v_not, v_nt, v_boo, v_bo, v_cnd, v_cd1, v_cd0, v_cnc, v_cc1, v_cc0, v_ev0, v_ev, v_e1, v_e2, v_cve, v_cv, v_cse, v_cs, v_skip, v_seq, v_sq0, v_sq1, v_sqr, v_sts, v_st, v_inc, v_put, v_pt, v_pt2, v_fop, v_fo, v_fo2, v_ast, v_as, v_as2, v_as3, v_aop, v_ao, v_ao2, v_ao3, v_exs, v_ex, v_ifs, v_if1, v_if0, v_ret, v_rt, v_rez, v_rz, v_rev, v_brk, v_sws, v_sw, v_sw2, v_run, v_rb, v_turn, v_tu1, v_tu0, v_tu2, v_tu3, fst1, snd1, Option.map_some, Option.getD_some, enA, en, stE, okb, narV, rf_toNat, rf_nn, List.getElem?_cons_zero, List.getElem?_cons_succ, w32_id, w64_id, ite_t, ite_f, Int.toNat_add, Int.toNat_mul, dec_t, dec_f, sM_0, em, e1]) (by
    rintro env m ⟨rfl, D⟩
    have pm : PM m := p.keep (S := fun x y => x = 13 ∨ x = 14) (fun x y hs => D x y (by omega) (by omega)) (by decide)
    have em := r_meadows pm
    rw [D 6 2 (by omega) (by omega), B.M0] at em
    simp -implicitDefEqProofs (disch := omega) [kX12_allStray_0c, v_cop, v_c1, v_c2, v_c3, v_c4, v_c5, v_bin, v_bn, v_bn2, v_div, v_dv, v_dv2, v_une, v_un, v_loc, v_num, v_get, v_gt, v_ald, v_al, v_al2, v_len, v_ln, v_rl0, v_rl1, v_rl2, v_rl3, v_rl4, v_rl5, v_cmp, v_cp, v_cp2, v_zC, v_zc, v_con, v_kc, v_and, v_an1, v_an0, v_or, v_or1, v_or0, v_not, v_nt, v_boo, v_bo, v_cnd, v_cd1, v_cd0, v_cnc, v_cc1, v_cc0, v_ev0, v_ev, v_e1, v_e2, v_cve, v_cv, v_cse, v_cs, v_skip, v_seq, v_sq0, v_sq1, v_sqr, v_sts, v_st, v_inc, v_put, v_pt, v_pt2, v_fop, v_fo, v_fo2, v_ast, v_as, v_as2, v_as3, v_aop, v_ao, v_ao2, v_ao3, v_exs, v_ex, v_ifs, v_if1, v_if0, v_ret, v_rt, v_rez, v_rz, v_rev, v_brk, v_sws, v_sw, v_sw2, v_run, v_rb, v_turn, v_tu1, v_tu0, v_tu2, v_tu3, fst1, snd1, Option.map_some, Option.getD_some, enA, en, stE, okb, narV, rf_toNat, rf_nn, List.getElem?_cons_zero, List.getElem?_cons_succ, w32_id, w64_id, ite_t, ite_f, Int.toNat_add, Int.toNat_mul, dec_t, dec_f, sM_0, em]) (env := [(2, rf 0), (0, (b : Int)), (0, 0), (0, 0)]) (μ := μ) ⟨rfl, fun _ _ _ _ => rfl⟩
  subst e0
  refine ⟨m, ?_, D⟩
  simp -implicitDefEqProofs (disch := omega) [fX12_allStray, bX12_allStray, kX12_allStray_0, v_cop, v_c1, v_c2, v_c3, v_c4, v_c5, v_bin, v_bn, v_bn2, v_div, v_dv, v_dv2, v_une, v_un, v_loc, v_num, v_get, v_gt, v_ald, v_al, v_al2, v_len, v_ln, v_rl0, v_rl1, v_rl2, v_rl3, v_rl4, v_rl5, v_cmp, v_cp, v_cp2, v_zC, v_zc, v_con, v_kc, v_and, v_an1, v_an0, v_or, v_or1, v_or0, v_not, v_nt, v_boo, v_bo, v_cnd, v_cd1, v_cd0, v_cnc, v_cc1, v_cc0, v_ev0, v_ev, v_e1, v_e2, v_cve, v_cv, v_cse, v_cs, v_skip, v_seq, v_sq0, v_sq1, v_sqr, v_sts, v_st, v_inc, v_put, v_pt, v_pt2, v_fop, v_fo, v_fo2, v_ast, v_as, v_as2, v_as3, v_aop, v_ao, v_ao2, v_ao3, v_exs, v_ex, v_ifs, v_if1, v_if0, v_ret, v_rt, v_rez, v_rz, v_rev, v_brk, v_sws, v_sw, v_sw2, v_run, v_rb, v_turn, v_tu1, v_tu0, v_tu2, v_tu3, fst1, snd1, Option.map_some, Option.getD_some, enA, en, stE, okb, narV, rf_toNat, rf_nn, List.getElem?_cons_zero, List.getElem?_cons_succ, w32_id, w64_id, ite_t, ite_f, Int.toNat_add, Int.toNat_mul, dec_t, dec_f, lp]
set_option maxRecDepth 100000 in theorem tmod_nat (a b : Nat) : ((a : Int).tmod (b : Int)) = ((a % b : Nat) : Int) := rfl
set_option maxRecDepth 100000 in theorem tdiv_nat (a b : Nat) : ((a : Int).tdiv (b : Int)) = ((a / b : Nat) : Int) := rfl
set_option maxRecDepth 100000 in theorem r_common {sh : Shp} {μ : Mem} {a b : Nat} (ha : a < 2147483648) (hb : b < 2147483648) : fX12_common sh [(0, (a : Int)), (0, (b : Int))] μ = some (((Nat.gcd a b : Nat) : Int), μ) := by
  obtain ⟨r, lp, x, t, hr, hx⟩ := loop_inv (kb := 2) (kc := 3) (c := kX12_common_0c) (body := kX12_common_0b) (upd := kX12_common_0u) (sh := sh) (fun k env m => ∃ (x y tk : Nat) (tv : Int), tk ≠ 1 ∧ k = y ∧ env = [(0, (a : Int)), (0, (b : Int)), (0, (x : Int)), (0, (y : Int)), (tk, tv)] ∧ m = μ ∧ x < 2147483648 ∧ y < 2147483648 ∧ Nat.gcd x y = Nat.gcd a b) (fun r => ∃ (x : Nat) (t : Vl), r = (0, 0, [(0, (a : Int)), (0, (b : Int)), (0, (x : Int)), (0, 0), t], μ) ∧ x = Nat.gcd a b) (by
    rintro k env m ⟨x, y, tk, tv, h1, rfl, rfl, rfl, h2, h3, h4⟩
    have h1' : ¬ tk = 1 := h1
    by_cases c : k = 0
    · subst c
      refine .inr ⟨(0, 0, [(0, (a : Int)), (0, (b : Int)), (0, (x : Int)), (0, 0), (tk, tv)], m), ?_, x, (tk, tv), rfl, ?_⟩
      · simp -implicitDefEqProofs (disch := omega) [kX12_common_0c, v_cop, v_c1, v_c2, v_c3, v_c4, v_c5, v_bin, v_bn, v_bn2, v_div, v_dv, v_dv2, v_une, v_un, v_loc, v_num, v_get, v_gt, v_ald, v_al, v_al2, v_len, v_ln, v_rl0, v_rl1, v_rl2, v_rl3, v_rl4, v_rl5, v_cmp, v_cp, v_cp2, v_zC, v_zc, v_con, v_kc, v_and, v_an1, v_an0, v_or, v_or1, v_or0, v_not, v_nt, v_boo, v_bo, v_cnd, v_cd1, v_cd0, v_cnc, v_cc1, v_cc0, v_ev0, v_ev, v_e1, v_e2, v_cve, v_cv, v_cse, v_cs, v_skip, v_seq, v_sq0, v_sq1, v_sqr, v_sts, v_st, v_inc, v_put, v_pt, v_pt2, v_fop, v_fo, v_fo2, v_ast, v_as, v_as2, v_as3, v_aop, v_ao, v_ao2, v_ao3, v_exs, v_ex, v_ifs, v_if1, v_if0, v_ret, v_rt, v_rez, v_rz, v_rev, v_brk, v_sws, v_sw, v_sw2, v_run, v_rb, v_turn, v_tu1, v_tu0, v_tu2, v_tu3, fst1, snd1, Option.map_some, Option.getD_some, enA, en, stE, okb, narV, rf_toNat, rf_nn, List.getElem?_cons_zero, List.getElem?_cons_succ, w32_id, w64_id, ite_t, ite_f, Int.toNat_add, Int.toNat_mul, dec_t, dec_f]
      · rw [← h4, Nat.gcd_zero_right]
    · have lt : x % k < k := Nat.mod_lt _ (by omega)
      have tm := tmod_nat x k
      refine .inl ⟨[(0, (a : Int)), (0, (b : Int)), (0, (k : Int)), (0, ((x % k : Nat) : Int)), (0, ((x % k : Nat) : Int))], m, x % k, ?_, lt, k, x % k, 0, _, by decide, rfl, rfl, rfl, h3, by omega, ?_⟩
      · have hz : w32 ((x % k : Nat) : Int) = ((x % k : Nat) : Int) := w32_id ⟨by omega, by omega⟩
        generalize ((x % k : Nat) : Int) = R at *
        simp -implicitDefEqProofs (disch := omega) [-w32_id, kX12_common_0c, kX12_common_0b, kX12_common_0u, v_cop, v_c1, v_c2, v_c3, v_c4, v_c5, v_bin, v_bn, v_bn2, v_div, v_dv, v_dv2, v_une, v_un, v_loc, v_num, v_get, v_gt, v_ald, v_al, v_al2, v_len, v_ln, v_rl0, v_rl1, v_rl2, v_rl3, v_rl4, v_rl5, v_cmp, v_cp, v_cp2, v_zC, v_zc, v_con, v_kc, v_and, v_an1, v_an0, v_or, v_or1, v_or0, v_not, v_nt, v_boo, v_bo, v_cnd, v_cd1, v_cd0, v_cnc, v_cc1, v_cc0, v_ev0, v_ev, v_e1, v_e2, v_cve, v_cv, v_cse, v_cs, v_skip, v_seq, v_sq0, v_sq1, v_sqr, v_sts, v_st, v_inc, v_put, v_pt, v_pt2, v_fop, v_fo, v_fo2, v_ast, v_as, v_as2, v_as3, v_aop, v_ao, v_ao2, v_ao3, v_exs, v_ex, v_ifs, v_if1, v_if0, v_ret, v_rt, v_rez, v_rz, v_rev, v_brk, v_sws, v_sw, v_sw2, v_run, v_rb, v_turn, v_tu1, v_tu0, v_tu2, v_tu3, fst1, snd1, Option.map_some, Option.getD_some, enA, en, stE, okb, narV, rf_toNat, rf_nn, List.getElem?_cons_zero, List.getElem?_cons_succ, w32_id, w64_id, ite_t, ite_f, Int.toNat_add, Int.toNat_mul, dec_t, dec_f, c, tm, hz, h1']
      · rw [← h4, Nat.gcd_comm x k, Nat.gcd_rec k x, Nat.gcd_comm]) b _ μ ⟨a, b, 3, 0, by decide, rfl, rfl, rfl, ha, hb, rfl⟩
  subst hr hx
  simp -implicitDefEqProofs (disch := omega) [fX12_common, bX12_common, kX12_common_0, v_cop, v_c1, v_c2, v_c3, v_c4, v_c5, v_bin, v_bn, v_bn2, v_div, v_dv, v_dv2, v_une, v_un, v_loc, v_num, v_get, v_gt, v_ald, v_al, v_al2, v_len, v_ln, v_rl0, v_rl1, v_rl2, v_rl3, v_rl4, v_rl5, v_cmp, v_cp, v_cp2, v_zC, v_zc, v_con, v_kc, v_and, v_an1, v_an0, v_or, v_or1, v_or0, v_not, v_nt, v_boo, v_bo, v_cnd, v_cd1, v_cd0, v_cnc, v_cc1, v_cc0, v_ev0, v_ev, v_e1, v_e2, v_cve, v_cv, v_cse, v_cs, v_skip, v_seq, v_sq0, v_sq1, v_sqr, v_sts, v_st, v_inc, v_put, v_pt, v_pt2, v_fop, v_fo, v_fo2, v_ast, v_as, v_as2, v_as3, v_aop, v_ao, v_ao2, v_ao3, v_exs, v_ex, v_ifs, v_if1, v_if0, v_ret, v_rt, v_rez, v_rz, v_rev, v_brk, v_sws, v_sw, v_sw2, v_run, v_rb, v_turn, v_tu1, v_tu0, v_tu2, v_tu3, fst1, snd1, Option.map_some, Option.getD_some, enA, en, stE, okb, narV, rf_toNat, rf_nn, List.getElem?_cons_zero, List.getElem?_cons_succ, w32_id, w64_id, ite_t, ite_f, Int.toNat_add, Int.toNat_mul, dec_t, dec_f, lp]
