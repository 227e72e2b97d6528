/-! sets of missing ones: the reference's loops -/
set_option maxRecDepth 100000 in theorem iandn_an {a b : Nat} (ha : a < 65536) (hb : b < 65536) : o_iand (a : Int) (o_ixor (b : Int) (-1)) = ((andn a b : Nat) : Int) := by
  rw [inot_int ⟨by omega, by omega⟩, iandn_nat (by omega) (by omega)]
  rfl
set_option maxRecDepth 100000 in theorem r_fitsAll {μ : Mem} {n P M : Nat} (h : PM μ) (B : FB (μ 6) n P M) (S : SL (μ 15) n P) (G : SG (μ 15) n P) {g : Nat} (hg : g < 4096) : fX12_fitsAll shM [(2, rf 0), (0, (g : Int))] μ = some (if fitB (μ 6) (μ 15) n g = true then 1 else 0, μ) := by
  have n1 := B.n1
  obtain ⟨f, hf⟩ := Int.eq_ofNat_of_zero_le G.f0
  have f1 := G.f1
  have ef := r_fogs h
  rw [hf] at ef f1
  have el := r_lay h B
  have ll : layM (μ 15) n < 4096 := Nat.lt_of_lt_of_le (lay_lt _ n) (Nat.pow_le_pow_right (n := 2) (by decide) n1)
  have ea := iandn_an (a := g) (b := layM (μ 15) n) (by omega) (by omega)
  have a0 : ((andn g (layM (μ 15) n) : Nat) : Int) = 0 ↔ g &&& layM (μ 15) n = g := by rw [← andn0]; omega
  obtain ⟨r, lp, envr, hr, hq⟩ := loop_up (kb := 2) (kc := 3) (c := kX12_fitsAll_0c) (body := kX12_fitsAll_0b) (upd := kX12_fitsAll_0u) (sh := shM) (n := f) (fun j env m => env = [(2, rf 0), (0, (g : Int)), (0, if (decide (g &&& layM (μ 15) n = g) && allN (fun k => soB (μ 6) (μ 15) n k g) j) = true then 1 else 0), (0, (j : Int))] ∧ m = μ) (fun r => ∃ t, r = (0, 0, [(2, rf 0), (0, (g : Int)), (0, if fitB (μ 6) (μ 15) n g = true then 1 else 0), t], μ) ∧ True) (by
    rintro j env m hj ⟨rfl, rfl⟩
    have fb : fitB (m 6) (m 15) n g = (decide (g &&& layM (m 15) n = g) && allN (fun k => soB (m 6) (m 15) n k g) f) := by
      unfold fitB
      rw [hf]
      rfl
    cases hd : (decide (g &&& layM (m 15) n = g) && allN (fun k => soB (m 6) (m 15) n k g) j) with
    | false =>
      refine .inr ⟨(0, 0, [(2, rf 0), (0, (g : Int)), (0, 0), (0, (j : Int))], m), ?_, (0, (j : Int)), ?_, trivial⟩
      · by_cases c : j < f
        · simp -implicitDefEqProofs (disch := omega) [kX12_fitsAll_0c, v_cop, v_c1, v_c2, v_c3, v_c4, v_c5, v_bin, v_bn, v_bn2, v_div, v_dv, v_dv2, v_une, v_un, v_loc, v_num, v_get, v_gt, v_ald, v_al, v_al2, v_len, v_ln, v_rl0, v_rl1, v_rl2, v_rl3, v_rl4, v_rl5, v_cmp, v_cp, v_cp2, v_zC, v_zc, v_con, v_kc, v_and, v_an1, v_an0, v_or, v_or1, v_or0, v_not, v_nt, v_boo, v_bo, v_cnd, v_cd1, v_cd0, v_cnc, v_cc1, v_cc0, v_ev0, v_ev, v_e1, v_e2, v_cve, v_cv, v_cse, v_cs, v_skip, v_seq, v_sq0, v_sq1, v_sqr, v_sts, v_st, v_inc, v_put, v_pt, v_pt2, v_fop, v_fo, v_fo2, v_ast, v_as, v_as2, v_as3, v_aop, v_ao, v_ao2, v_ao3, v_exs, v_ex, v_ifs, v_if1, v_if0, v_ret, v_rt, v_rez, v_rz, v_rev, v_brk, v_sws, v_sw, v_sw2, v_run, v_rb, v_turn, v_tu1, v_tu0, v_tu2, v_tu3, fst1, snd1, Option.map_some, Option.getD_some, enA, en, stE, okb, narV, rf_toNat, rf_nn, List.getElem?_cons_zero, List.getElem?_cons_succ, w32_id, w64_id, ite_t, ite_f, Int.toNat_add, Int.toNat_mul, dec_t, dec_f, sM_0, ef]
        · simp -implicitDefEqProofs (disch := omega) [kX12_fitsAll_0c, v_cop, v_c1, v_c2, v_c3, v_c4, v_c5, v_bin, v_bn, v_bn2, v_div, v_dv, v_dv2, v_une, v_un, v_loc, v_num, v_get, v_gt, v_ald, v_al, v_al2, v_len, v_ln, v_rl0, v_rl1, v_rl2, v_rl3, v_rl4, v_rl5, v_cmp, v_cp, v_cp2, v_zC, v_zc, v_con, v_kc, v_and, v_an1, v_an0, v_or, v_or1, v_or0, v_not, v_nt, v_boo, v_bo, v_cnd, v_cd1, v_cd0, v_cnc, v_cc1, v_cc0, v_ev0, v_ev, v_e1, v_e2, v_cve, v_cv, v_cse, v_cs, v_skip, v_seq, v_sq0, v_sq1, v_sqr, v_sts, v_st, v_inc, v_put, v_pt, v_pt2, v_fop, v_fo, v_fo2, v_ast, v_as, v_as2, v_as3, v_aop, v_ao, v_ao2, v_ao3, v_exs, v_ex, v_ifs, v_if1, v_if0, v_ret, v_rt, v_rez, v_rz, v_rev, v_brk, v_sws, v_sw, v_sw2, v_run, v_rb, v_turn, v_tu1, v_tu0, v_tu2, v_tu3, fst1, snd1, Option.map_some, Option.getD_some, enA, en, stE, okb, narV, rf_toNat, rf_nn, List.getElem?_cons_zero, List.getElem?_cons_succ, w32_id, w64_id, ite_t, ite_f, Int.toNat_add, Int.toNat_mul, dec_t, dec_f, sM_0, ef]
      · have : fitB (m 6) (m 15) n g = false := by
          rw [fb]
          cases hx : decide (g &&& layM (m 15) n = g) with
          | false => rfl
          | true =>
            rw [hx] at hd
            have := all_false hj (show allN (fun k => soB (m 6) (m 15) n k g) j = false by simpa using hd)
            rw [this]
            rfl
        rw [this]
        simp
    | true =>
      by_cases c : j < f
      · refine .inl ⟨c, [(2, rf 0), (0, (g : Int)), (0, if (decide (g &&& layM (m 15) n = g) && allN (fun k => soB (m 6) (m 15) n k g) (j + 1)) = true then 1 else 0), (0, ((j + 1 : Nat) : Int))], m, ?_, rfl, rfl⟩
        have es := r_isSo h B S G (k := j) (g := g) (by rw [hf]; omega) hg
        have ea : (decide (g &&& layM (m 15) n = g) && allN (fun k => soB (m 6) (m 15) n k g) (j + 1)) = soB (m 6) (m 15) n j g := by
          show (decide (g &&& layM (m 15) n = g) && (allN (fun k => soB (m 6) (m 15) n k g) j && soB (m 6) (m 15) n j g)) = _
          rw [← Bool.and_assoc, hd, Bool.true_and]
        rw [ea]
        generalize soB (m 6) (m 15) n j g = X at *
        simp -implicitDefEqProofs (disch := omega) [kX12_fitsAll_0c, kX12_fitsAll_0b, kX12_fitsAll_0u, v_cop, v_c1, v_c2, v_c3, v_c4, v_c5, v_bin, v_bn, v_bn2, v_div, v_dv, v_dv2, v_une, v_un, v_loc, v_num, v_get, v_gt, v_ald, v_al, v_al2, v_len, v_ln, v_rl0, v_rl1, v_rl2, v_rl3, v_rl4, v_rl5, v_cmp, v_cp, v_cp2, v_zC, v_zc, v_con, v_kc, v_and, v_an1, v_an0, v_or, v_or1, v_or0, v_not, v_nt, v_boo, v_bo, v_cnd, v_cd1, v_cd0, v_cnc, v_cc1, v_cc0, v_ev0, v_ev, v_e1, v_e2, v_cve, v_cv, v_cse, v_cs, v_skip, v_seq, v_sq0, v_sq1, v_sqr, v_sts, v_st, v_inc, v_put, v_pt, v_pt2, v_fop, v_fo, v_fo2, v_ast, v_as, v_as2, v_as3, v_aop, v_ao, v_ao2, v_ao3, v_exs, v_ex, v_ifs, v_if1, v_if0, v_ret, v_rt, v_rez, v_rz, v_rev, v_brk, v_sws, v_sw, v_sw2, v_run, v_rb, v_turn, v_tu1, v_tu0, v_tu2, v_tu3, fst1, snd1, Option.map_some, Option.getD_some, enA, en, stE, okb, narV, rf_toNat, rf_nn, List.getElem?_cons_zero, List.getElem?_cons_succ, w32_id, w64_id, ite_t, ite_f, Int.toNat_add, Int.toNat_mul, dec_t, dec_f, sM_0, ef, es]
      · have cj : j = f := by omega
        subst cj
        refine .inr ⟨(0, 0, [(2, rf 0), (0, (g : Int)), (0, 1), (0, (j : Int))], m), ?_, (0, (j : Int)), ?_, trivial⟩
        · simp -implicitDefEqProofs (disch := omega) [kX12_fitsAll_0c, v_cop, v_c1, v_c2, v_c3, v_c4, v_c5, v_bin, v_bn, v_bn2, v_div, v_dv, v_dv2, v_une, v_un, v_loc, v_num, v_get, v_gt, v_ald, v_al, v_al2, v_len, v_ln, v_rl0, v_rl1, v_rl2, v_rl3, v_rl4, v_rl5, v_cmp, v_cp, v_cp2, v_zC, v_zc, v_con, v_kc, v_and, v_an1, v_an0, v_or, v_or1, v_or0, v_not, v_nt, v_boo, v_bo, v_cnd, v_cd1, v_cd0, v_cnc, v_cc1, v_cc0, v_ev0, v_ev, v_e1, v_e2, v_cve, v_cv, v_cse, v_cs, v_skip, v_seq, v_sq0, v_sq1, v_sqr, v_sts, v_st, v_inc, v_put, v_pt, v_pt2, v_fop, v_fo, v_fo2, v_ast, v_as, v_as2, v_as3, v_aop, v_ao, v_ao2, v_ao3, v_exs, v_ex, v_ifs, v_if1, v_if0, v_ret, v_rt, v_rez, v_rz, v_rev, v_brk, v_sws, v_sw, v_sw2, v_run, v_rb, v_turn, v_tu1, v_tu0, v_tu2, v_tu3, fst1, snd1, Option.map_some, Option.getD_some, enA, en, stE, okb, narV, rf_toNat, rf_nn, List.getElem?_cons_zero, List.getElem?_cons_succ, w32_id, w64_id, ite_t, ite_f, Int.toNat_add, Int.toNat_mul, dec_t, dec_f, sM_0, ef]
        · rw [fb, hd]
          simp) (env := [(2, rf 0), (0, (g : Int)), (0, if (decide (g &&& layM (μ 15) n = g) && allN (fun k => soB (μ 6) (μ 15) n k g) 0) = true then 1 else 0), (0, 0)]) (μ := μ) ⟨rfl, rfl⟩
  subst hr
  have e0 : (decide (g &&& layM (μ 15) n = g) && allN (fun k => soB (μ 6) (μ 15) n k g) 0) = decide (g &&& layM (μ 15) n = g) := Bool.and_true _
  rw [e0] at lp
  have r01 := b01 (fitB (μ 6) (μ 15) n g)
  generalize (if fitB (μ 6) (μ 15) n g = true then (1 : Int) else 0) = R at *
  by_cases c : g &&& layM (μ 15) n = g
  · rw [decide_eq_true c] at lp
    have c' := a0.mpr c
    rw [c'] at ea
    rcases r01 with rfl | rfl <;> simp -implicitDefEqProofs (disch := omega) [fX12_fitsAll, bX12_fitsAll, kX12_fitsAll_0, v_cop, v_c1, v_c2, v_c3, v_c4, v_c5, v_bin, v_bn, v_bn2, v_div, v_dv, v_dv2, v_une, v_un, v_loc, v_num, v_get, v_gt, v_ald, v_al, v_al2, v_len, v_ln, v_rl0, v_rl1, v_rl2, v_rl3, v_rl4, v_rl5, v_cmp, v_cp, v_cp2, v_zC, v_zc, v_con, v_kc, v_and, v_an1, v_an0, v_or, v_or1, v_or0, v_not, v_nt, v_boo, v_bo, v_cnd, v_cd1, v_cd0, v_cnc, v_cc1, v_cc0, v_ev0, v_ev, v_e1, v_e2, v_cve, v_cv, v_cse, v_cs, v_skip, v_seq, v_sq0, v_sq1, v_sqr, v_sts, v_st, v_inc, v_put, v_pt, v_pt2, v_fop, v_fo, v_fo2, v_ast, v_as, v_as2, v_as3, v_aop, v_ao, v_ao2, v_ao3, v_exs, v_ex, v_ifs, v_if1, v_if0, v_ret, v_rt, v_rez, v_rz, v_rev, v_brk, v_sws, v_sw, v_sw2, v_run, v_rb, v_turn, v_tu1, v_tu0, v_tu2, v_tu3, fst1, snd1, Option.map_some, Option.getD_some, enA, en, stE, okb, narV, rf_toNat, rf_nn, List.getElem?_cons_zero, List.getElem?_cons_succ, w32_id, w64_id, ite_t, ite_f, Int.toNat_add, Int.toNat_mul, dec_t, dec_f, sM_0, el, ea] <;> simp at lp <;> simp -implicitDefEqProofs (disch := omega) [v_cop, v_c1, v_c2, v_c3, v_c4, v_c5, v_bin, v_bn, v_bn2, v_div, v_dv, v_dv2, v_une, v_un, v_loc, v_num, v_get, v_gt, v_ald, v_al, v_al2, v_len, v_ln, v_rl0, v_rl1, v_rl2, v_rl3, v_rl4, v_rl5, v_cmp, v_cp, v_cp2, v_zC, v_zc, v_con, v_kc, v_and, v_an1, v_an0, v_or, v_or1, v_or0, v_not, v_nt, v_boo, v_bo, v_cnd, v_cd1, v_cd0, v_cnc, v_cc1, v_cc0, v_ev0, v_ev, v_e1, v_e2, v_cve, v_cv, v_cse, v_cs, v_skip, v_seq, v_sq0, v_sq1, v_sqr, v_sts, v_st, v_inc, v_put, v_pt, v_pt2, v_fop, v_fo, v_fo2, v_ast, v_as, v_as2, v_as3, v_aop, v_ao, v_ao2, v_ao3, v_exs, v_ex, v_ifs, v_if1, v_if0, v_ret, v_rt, v_rez, v_rz, v_rev, v_brk, v_sws, v_sw, v_sw2, v_run, v_rb, v_turn, v_tu1, v_tu0, v_tu2, v_tu3, fst1, snd1, Option.map_some, Option.getD_some, enA, en, stE, okb, narV, rf_toNat, rf_nn, List.getElem?_cons_zero, List.getElem?_cons_succ, w32_id, w64_id, ite_t, ite_f, Int.toNat_add, Int.toNat_mul, dec_t, dec_f, lp]
  · rw [decide_eq_false c] at lp
    have c' : ¬ ((andn g (layM (μ 15) n) : Nat) : Int) = 0 := fun z => c (a0.mp z)
    generalize ((andn g (layM (μ 15) n) : Nat) : Int) = Y at *
    rcases r01 with rfl | rfl <;> simp -implicitDefEqProofs (disch := omega) [fX12_fitsAll, bX12_fitsAll, kX12_fitsAll_0, v_cop, v_c1, v_c2, v_c3, v_c4, v_c5, v_bin, v_bn, v_bn2, v_div, v_dv, v_dv2, v_une, v_un, v_loc, v_num, v_get, v_gt, v_ald, v_al, v_al2, v_len, v_ln, v_rl0, v_rl1, v_rl2, v_rl3, v_rl4, v_rl5, v_cmp, v_cp, v_cp2, v_zC, v_zc, v_con, v_kc, v_and, v_an1, v_an0, v_or, v_or1, v_or0, v_not, v_nt, v_boo, v_bo, v_cnd, v_cd1, v_cd0, v_cnc, v_cc1, v_cc0, v_ev0, v_ev, v_e1, v_e2, v_cve, v_cv, v_cse, v_cs, v_skip, v_seq, v_sq0, v_sq1, v_sqr, v_sts, v_st, v_inc, v_put, v_pt, v_pt2, v_fop, v_fo, v_fo2, v_ast, v_as, v_as2, v_as3, v_aop, v_ao, v_ao2, v_ao3, v_exs, v_ex, v_ifs, v_if1, v_if0, v_ret, v_rt, v_rez, v_rz, v_rev, v_brk, v_sws, v_sw, v_sw2, v_run, v_rb, v_turn, v_tu1, v_tu0, v_tu2, v_tu3, fst1, snd1, Option.map_some, Option.getD_some, enA, en, stE, okb, narV, rf_toNat, rf_nn, List.getElem?_cons_zero, List.getElem?_cons_succ, w32_id, w64_id, ite_t, ite_f, Int.toNat_add, Int.toNat_mul, dec_t, dec_f, sM_0, el, ea, c'] <;> simp at lp <;> simp -implicitDefEqProofs (disch := omega) [v_cop, v_c1, v_c2, v_c3, v_c4, v_c5, v_bin, v_bn, v_bn2, v_div, v_dv, v_dv2, v_une, v_un, v_loc, v_num, v_get, v_gt, v_ald, v_al, v_al2, v_len, v_ln, v_rl0, v_rl1, v_rl2, v_rl3, v_rl4, v_rl5, v_cmp, v_cp, v_cp2, v_zC, v_zc, v_con, v_kc, v_and, v_an1, v_an0, v_or, v_or1, v_or0, v_not, v_nt, v_boo, v_bo, v_cnd, v_cd1, v_cd0, v_cnc, v_cc1, v_cc0, v_ev0, v_ev, v_e1, v_e2, v_cve, v_cv, v_cse, v_cs, v_skip, v_seq, v_sq0, v_sq1, v_sqr, v_sts, v_st, v_inc, v_put, v_pt, v_pt2, v_fop, v_fo, v_fo2, v_ast, v_as, v_as2, v_as3, v_aop, v_ao, v_ao2, v_ao3, v_exs, v_ex, v_ifs, v_if1, v_if0, v_ret, v_rt, v_rez, v_rz, v_rev, v_brk, v_sws, v_sw, v_sw2, v_run, v_rb, v_turn, v_tu1, v_tu0, v_tu2, v_tu3, fst1, snd1, Option.map_some, Option.getD_some, enA, en, stE, okb, narV, rf_toNat, rf_nn, List.getElem?_cons_zero, List.getElem?_cons_succ, w32_id, w64_id, ite_t, ite_f, Int.toNat_add, Int.toNat_mul, dec_t, dec_f, lp]
set_option maxRecDepth 100000 in theorem fl_s {p : Nat → Bool} (j : Nat) : (List.range (j + 1)).filter p = (List.range j).filter p ++ (if p j then [j] else []) := by
  rw [List.range_succ, List.filter_append, List.filter_cons, List.filter_nil]
set_option maxRecDepth 100000 in theorem fl_len {p : Nat → Bool} {j : Nat} : ((List.range j).filter p).length ≤ j := by
  have := List.length_filter_le p (List.range j)
  rw [List.length_range] at this
  exact this
set_option maxRecDepth 100000 in theorem sh_n {n : Nat} (h : n ≤ 12) : o_ishl 1 (n : Int) = ((2 ^ n : Nat) : Int) ∧ 2 ^ n ≤ 4096 := ⟨ishl1 (by omega), Nat.pow_le_pow_right (n := 2) (by decide) h⟩
set_option maxRecDepth 100000 in theorem r_find0 {μ : Mem} {n P M : Nat} (h : PM μ) (B : FB (μ 6) n P M) (S : SL (μ 15) n P) (G : SG (μ 15) n P) : fX12_findSet shM [(2, rf 0), (0, -1)] μ = some (((fitL (μ 6) (μ 15) n).length : Int), μ) := by
  have n1 := B.n1
  have eb := r_beasts h
  rw [B.n0] at eb
  obtain ⟨e2, p2⟩ := sh_n n1
  have hfl : fitL (μ 6) (μ 15) n = (List.range (2 ^ n)).filter (fitB (μ 6) (μ 15) n) := rfl
  rw [hfl]
  clear hfl
  generalize hN : 2 ^ n = N at *
  have lp := loop_run (kb := 2) (kc := 3) (c := kX12_findSet_0c) (body := kX12_findSet_0b) (upd := kX12_findSet_0u) (sh := shM) (fun j => [(2, rf 0), (0, -1), (0, (((List.range j).filter (fitB (μ 6) (μ 15) n)).length : Int)), (0, (j : Int))]) (fun _ => μ) (r := (0, 0, [(2, rf 0), (0, -1), (0, ((((List.range N).filter (fitB (μ 6) (μ 15) n))).length : Int)), (0, (N : Int))], μ)) N (by
    intro j hj
    have ef := r_fitsAll h B S G (g := j) (by omega)
    have fl := fl_len (p := fitB (μ 6) (μ 15) n) (j := j)
    rw [fl_s]
    generalize (List.range j).filter (fitB (μ 6) (μ 15) n) = L at *
    have hl : ¬ (L.length : Int) = -1 := by omega
    cases hc : fitB (μ 6) (μ 15) n j with
    | true =>
      rw [hc] at ef
      simp -implicitDefEqProofs (disch := omega) [kX12_findSet_0c, kX12_findSet_0b, kX12_findSet_0u, v_cop, v_c1, v_c2, v_c3, v_c4, v_c5, v_bin, v_bn, v_bn2, v_div, v_dv, v_dv2, v_une, v_un, v_loc, v_num, v_get, v_gt, v_ald, v_al, v_al2, v_len, v_ln, v_rl0, v_rl1, v_rl2, v_rl3, v_rl4, v_rl5, v_cmp, v_cp, v_cp2, v_zC, v_zc, v_con, v_kc, v_and, v_an1, v_an0, v_or, v_or1, v_or0, v_not, v_nt, v_boo, v_bo, v_cnd, v_cd1, v_cd0, v_cnc, v_cc1, v_cc0, v_ev0, v_ev, v_e1, v_e2, v_cve, v_cv, v_cse, v_cs, v_skip, v_seq, v_sq0, v_sq1, v_sqr, v_sts, v_st, v_inc, v_put, v_pt, v_pt2, v_fop, v_fo, v_fo2, v_ast, v_as, v_as2, v_as3, v_aop, v_ao, v_ao2, v_ao3, v_exs, v_ex, v_ifs, v_if1, v_if0, v_ret, v_rt, v_rez, v_rz, v_rev, v_brk, v_sws, v_sw, v_sw2, v_run, v_rb, v_turn, v_tu1, v_tu0, v_tu2, v_tu3, fst1, snd1, Option.map_some, Option.getD_some, enA, en, stE, okb, narV, rf_toNat, rf_nn, List.getElem?_cons_zero, List.getElem?_cons_succ, w32_id, w64_id, ite_t, ite_f, Int.toNat_add, Int.toNat_mul, dec_t, dec_f, sM_0, eb, e2, ef]
    | false =>
      rw [hc] at ef
      simp -implicitDefEqProofs (disch := omega) [kX12_findSet_0c, kX12_findSet_0b, kX12_findSet_0u, v_cop, v_c1, v_c2, v_c3, v_c4, v_c5, v_bin, v_bn, v_bn2, v_div, v_dv, v_dv2, v_une, v_un, v_loc, v_num, v_get, v_gt, v_ald, v_al, v_al2, v_len, v_ln, v_rl0, v_rl1, v_rl2, v_rl3, v_rl4, v_rl5, v_cmp, v_cp, v_cp2, v_zC, v_zc, v_con, v_kc, v_and, v_an1, v_an0, v_or, v_or1, v_or0, v_not, v_nt, v_boo, v_bo, v_cnd, v_cd1, v_cd0, v_cnc, v_cc1, v_cc0, v_ev0, v_ev, v_e1, v_e2, v_cve, v_cv, v_cse, v_cs, v_skip, v_seq, v_sq0, v_sq1, v_sqr, v_sts, v_st, v_inc, v_put, v_pt, v_pt2, v_fop, v_fo, v_fo2, v_ast, v_as, v_as2, v_as3, v_aop, v_ao, v_ao2, v_ao3, v_exs, v_ex, v_ifs, v_if1, v_if0, v_ret, v_rt, v_rez, v_rz, v_rev, v_brk, v_sws, v_sw, v_sw2, v_run, v_rb, v_turn, v_tu1, v_tu0, v_tu2, v_tu3, fst1, snd1, Option.map_some, Option.getD_some, enA, en, stE, okb, narV, rf_toNat, rf_nn, List.getElem?_cons_zero, List.getElem?_cons_succ, w32_id, w64_id, ite_t, ite_f, Int.toNat_add, Int.toNat_mul, dec_t, dec_f, sM_0, eb, e2, ef]) (by
    simp -implicitDefEqProofs (disch := omega) [kX12_findSet_0c, v_cop, v_c1, v_c2, v_c3, v_c4, v_c5, v_bin, v_bn, v_bn2, v_div, v_dv, v_dv2, v_une, v_un, v_loc, v_num, v_get, v_gt, v_ald, v_al, v_al2, v_len, v_ln, v_rl0, v_rl1, v_rl2, v_rl3, v_rl4, v_rl5, v_cmp, v_cp, v_cp2, v_zC, v_zc, v_con, v_kc, v_and, v_an1, v_an0, v_or, v_or1, v_or0, v_not, v_nt, v_boo, v_bo, v_cnd, v_cd1, v_cd0, v_cnc, v_cc1, v_cc0, v_ev0, v_ev, v_e1, v_e2, v_cve, v_cv, v_cse, v_cs, v_skip, v_seq, v_sq0, v_sq1, v_sqr, v_sts, v_st, v_inc, v_put, v_pt, v_pt2, v_fop, v_fo, v_fo2, v_ast, v_as, v_as2, v_as3, v_aop, v_ao, v_ao2, v_ao3, v_exs, v_ex, v_ifs, v_if1, v_if0, v_ret, v_rt, v_rez, v_rz, v_rev, v_brk, v_sws, v_sw, v_sw2, v_run, v_rb, v_turn, v_tu1, v_tu0, v_tu2, v_tu3, fst1, snd1, Option.map_some, Option.getD_some, enA, en, stE, okb, narV, rf_toNat, rf_nn, List.getElem?_cons_zero, List.getElem?_cons_succ, w32_id, w64_id, ite_t, ite_f, Int.toNat_add, Int.toNat_mul, dec_t, dec_f, sM_0, eb, e2])
  have e0 : (List.range 0).filter (fitB (μ 6) (μ 15) n) = [] := rfl
  simp only [e0] at lp
  rw [show (([] : List Nat).length : Int) = 0 from rfl, show ((0 : Nat) : Int) = 0 from rfl] at lp
  simp -implicitDefEqProofs (disch := omega) [fX12_findSet, bX12_findSet, kX12_findSet_0, v_cop, v_c1, v_c2, v_c3, v_c4, v_c5, v_bin, v_bn, v_bn2, v_div, v_dv, v_dv2, v_une, v_un, v_loc, v_num, v_get, v_gt, v_ald, v_al, v_al2, v_len, v_ln, v_rl0, v_rl1, v_rl2, v_rl3, v_rl4, v_rl5, v_cmp, v_cp, v_cp2, v_zC, v_zc, v_con, v_kc, v_and, v_an1, v_an0, v_or, v_or1, v_or0, v_not, v_nt, v_boo, v_bo, v_cnd, v_cd1, v_cd0, v_cnc, v_cc1, v_cc0, v_ev0, v_ev, v_e1, v_e2, v_cve, v_cv, v_cse, v_cs, v_skip, v_seq, v_sq0, v_sq1, v_sqr, v_sts, v_st, v_inc, v_put, v_pt, v_pt2, v_fop, v_fo, v_fo2, v_ast, v_as, v_as2, v_as3, v_aop, v_ao, v_ao2, v_ao3, v_exs, v_ex, v_ifs, v_if1, v_if0, v_ret, v_rt, v_rez, v_rz, v_rev, v_brk, v_sws, v_sw, v_sw2, v_run, v_rb, v_turn, v_tu1, v_tu0, v_tu2, v_tu3, fst1, snd1, Option.map_some, Option.getD_some, enA, en, stE, okb, narV, rf_toNat, rf_nn, List.getElem?_cons_zero, List.getElem?_cons_succ, w32_id, w64_id, ite_t, ite_f, Int.toNat_add, Int.toNat_mul, dec_t, dec_f, lp]
set_option maxRecDepth 100000 in theorem fl_get {p : Nat → Bool} {m j i : Nat} (hj : j < m) (hp : p j = true) (hi : ((List.range j).filter p).length = i) : ((List.range m).filter p)[i]? = some j := by
  obtain ⟨d, rfl⟩ : ∃ d, m = (j + 1) + d := ⟨m - (j + 1), by omega⟩
  have e : ∀ d, ∃ T, (List.range ((j + 1) + d)).filter p = (List.range (j + 1)).filter p ++ T := by
    intro d
    induction d with
    | zero => exact ⟨[], by rw [List.append_nil]⟩
    | succ d ih =>
      obtain ⟨T, hT⟩ := ih
      refine ⟨T ++ (if p (j + 1 + d) then [j + 1 + d] else []), ?_⟩
      rw [show j + 1 + (d + 1) = (j + 1 + d) + 1 by omega, fl_s, hT, List.append_assoc]
  obtain ⟨T, hT⟩ := e d
  rw [hT, fl_s, hp, if_pos rfl, List.append_assoc, List.getElem?_append_right (by omega), hi]
  simp
set_option maxRecDepth 100000 in theorem fl_mono {p : Nat → Bool} {j m : Nat} (h : j ≤ m) : ((List.range j).filter p).length ≤ ((List.range m).filter p).length := by
  obtain ⟨d, rfl⟩ : ∃ d, m = j + d := ⟨m - j, by omega⟩
  induction d with
  | zero => exact Nat.le_refl _
  | succ d ih =>
    rw [show j + (d + 1) = (j + d) + 1 by omega, fl_s, List.length_append]
    have := ih (by omega)
    omega
def getI (L : List Nat) (i : Nat) : Int := match L[i]? with
  | some x => (x : Int)
  | none => -1
set_option maxRecDepth 100000 in theorem r_find1 {μ : Mem} {n P M : Nat} (h : PM μ) (B : FB (μ 6) n P M) (S : SL (μ 15) n P) (G : SG (μ 15) n P) (i : Nat) : fX12_findSet shM [(2, rf 0), (0, (i : Int))] μ = some (getI (fitL (μ 6) (μ 15) n) i, μ) := by
  have n1 := B.n1
  have eb := r_beasts h
  rw [B.n0] at eb
  obtain ⟨e2, p2⟩ := sh_n n1
  have hfl : fitL (μ 6) (μ 15) n = (List.range (2 ^ n)).filter (fitB (μ 6) (μ 15) n) := rfl
  rw [hfl]
  clear hfl
  generalize hN : 2 ^ n = N at *
  obtain ⟨r, lp, hq⟩ := loop_up (kb := 2) (kc := 3) (c := kX12_findSet_0c) (body := kX12_findSet_0b) (upd := kX12_findSet_0u) (sh := shM) (n := N) (fun j env m => env = [(2, rf 0), (0, (i : Int)), (0, (((List.range j).filter (fitB (μ 6) (μ 15) n)).length : Int)), (0, (j : Int))] ∧ m = μ ∧ ((List.range j).filter (fitB (μ 6) (μ 15) n)).length ≤ i) (fun r => (getI (((List.range N).filter (fitB (μ 6) (μ 15) n))) i = -1 ∧ ∃ c2 t3, r = (0, 0, [(2, rf 0), (0, (i : Int)), (0, c2), t3], μ)) ∨ ∃ e, r = (1, getI (((List.range N).filter (fitB (μ 6) (μ 15) n))) i, e, μ)) (by
    rintro j env m hj ⟨rfl, rfl, hle⟩
    have fl := fl_len (p := fitB (m 6) (m 15) n) (j := j)
    by_cases c : j < N
    · have ef := r_fitsAll h B S G (g := j) (by omega)
      cases hc : fitB (m 6) (m 15) n j with
      | false =>
        rw [hc] at ef
        refine .inl ⟨c, [(2, rf 0), (0, (i : Int)), (0, (((List.range (j + 1)).filter (fitB (m 6) (m 15) n)).length : Int)), (0, ((j + 1 : Nat) : Int))], m, ?_, rfl, rfl, ?_⟩
        · rw [fl_s, hc]
          generalize (List.range j).filter (fitB (m 6) (m 15) n) = L at *
          simp -implicitDefEqProofs (disch := omega) [kX12_findSet_0c, kX12_findSet_0b, kX12_findSet_0u, v_cop, v_c1, v_c2, v_c3, v_c4, v_c5, v_bin, v_bn, v_bn2, v_div, v_dv, v_dv2, v_une, v_un, v_loc, v_num, v_get, v_gt, v_ald, v_al, v_al2, v_len, v_ln, v_rl0, v_rl1, v_rl2, v_rl3, v_rl4, v_rl5, v_cmp, v_cp, v_cp2, v_zC, v_zc, v_con, v_kc, v_and, v_an1, v_an0, v_or, v_or1, v_or0, v_not, v_nt, v_boo, v_bo, v_cnd, v_cd1, v_cd0, v_cnc, v_cc1, v_cc0, v_ev0, v_ev, v_e1, v_e2, v_cve, v_cv, v_cse, v_cs, v_skip, v_seq, v_sq0, v_sq1, v_sqr, v_sts, v_st, v_inc, v_put, v_pt, v_pt2, v_fop, v_fo, v_fo2, v_ast, v_as, v_as2, v_as3, v_aop, v_ao, v_ao2, v_ao3, v_exs, v_ex, v_ifs, v_if1, v_if0, v_ret, v_rt, v_rez, v_rz, v_rev, v_brk, v_sws, v_sw, v_sw2, v_run, v_rb, v_turn, v_tu1, v_tu0, v_tu2, v_tu3, fst1, snd1, Option.map_some, Option.getD_some, enA, en, stE, okb, narV, rf_toNat, rf_nn, List.getElem?_cons_zero, List.getElem?_cons_succ, w32_id, w64_id, ite_t, ite_f, Int.toNat_add, Int.toNat_mul, dec_t, dec_f, sM_0, eb, e2, ef]
        · rw [fl_s, hc]
          simpa using hle
      | true =>
        rw [hc] at ef
        by_cases ci : ((List.range j).filter (fitB (m 6) (m 15) n)).length = i
        · refine .inr ⟨(1, (j : Int), [(2, rf 0), (0, (i : Int)), (0, (i : Int)), (0, (j : Int))], m), ?_, .inr ⟨[(2, rf 0), (0, (i : Int)), (0, (i : Int)), (0, (j : Int))], ?_⟩⟩
          · rw [ci]
            simp -implicitDefEqProofs (disch := omega) [kX12_findSet_0c, kX12_findSet_0b, v_cop, v_c1, v_c2, v_c3, v_c4, v_c5, v_bin, v_bn, v_bn2, v_div, v_dv, v_dv2, v_une, v_un, v_loc, v_num, v_get, v_gt, v_ald, v_al, v_al2, v_len, v_ln, v_rl0, v_rl1, v_rl2, v_rl3, v_rl4, v_rl5, v_cmp, v_cp, v_cp2, v_zC, v_zc, v_con, v_kc, v_and, v_an1, v_an0, v_or, v_or1, v_or0, v_not, v_nt, v_boo, v_bo, v_cnd, v_cd1, v_cd0, v_cnc, v_cc1, v_cc0, v_ev0, v_ev, v_e1, v_e2, v_cve, v_cv, v_cse, v_cs, v_skip, v_seq, v_sq0, v_sq1, v_sqr, v_sts, v_st, v_inc, v_put, v_pt, v_pt2, v_fop, v_fo, v_fo2, v_ast, v_as, v_as2, v_as3, v_aop, v_ao, v_ao2, v_ao3, v_exs, v_ex, v_ifs, v_if1, v_if0, v_ret, v_rt, v_rez, v_rz, v_rev, v_brk, v_sws, v_sw, v_sw2, v_run, v_rb, v_turn, v_tu1, v_tu0, v_tu2, v_tu3, fst1, snd1, Option.map_some, Option.getD_some, enA, en, stE, okb, narV, rf_toNat, rf_nn, List.getElem?_cons_zero, List.getElem?_cons_succ, w32_id, w64_id, ite_t, ite_f, Int.toNat_add, Int.toNat_mul, dec_t, dec_f, sM_0, eb, e2, ef]
          · have := fl_get (p := fitB (m 6) (m 15) n) c hc ci
            unfold getI
            rw [this]
        · refine .inl ⟨c, [(2, rf 0), (0, (i : Int)), (0, (((List.range (j + 1)).filter (fitB (m 6) (m 15) n)).length : Int)), (0, ((j + 1 : Nat) : Int))], m, ?_, rfl, rfl, ?_⟩
          · rw [fl_s, hc]
            generalize (List.range j).filter (fitB (m 6) (m 15) n) = L at *
            have ci' : ¬ (L.length : Int) = (i : Int) := by omega
            simp -implicitDefEqProofs (disch := omega) [kX12_findSet_0c, kX12_findSet_0b, kX12_findSet_0u, v_cop, v_c1, v_c2, v_c3, v_c4, v_c5, v_bin, v_bn, v_bn2, v_div, v_dv, v_dv2, v_une, v_un, v_loc, v_num, v_get, v_gt, v_ald, v_al, v_al2, v_len, v_ln, v_rl0, v_rl1, v_rl2, v_rl3, v_rl4, v_rl5, v_cmp, v_cp, v_cp2, v_zC, v_zc, v_con, v_kc, v_and, v_an1, v_an0, v_or, v_or1, v_or0, v_not, v_nt, v_boo, v_bo, v_cnd, v_cd1, v_cd0, v_cnc, v_cc1, v_cc0, v_ev0, v_ev, v_e1, v_e2, v_cve, v_cv, v_cse, v_cs, v_skip, v_seq, v_sq0, v_sq1, v_sqr, v_sts, v_st, v_inc, v_put, v_pt, v_pt2, v_fop, v_fo, v_fo2, v_ast, v_as, v_as2, v_as3, v_aop, v_ao, v_ao2, v_ao3, v_exs, v_ex, v_ifs, v_if1, v_if0, v_ret, v_rt, v_rez, v_rz, v_rev, v_brk, v_sws, v_sw, v_sw2, v_run, v_rb, v_turn, v_tu1, v_tu0, v_tu2, v_tu3, fst1, snd1, Option.map_some, Option.getD_some, enA, en, stE, okb, narV, rf_toNat, rf_nn, List.getElem?_cons_zero, List.getElem?_cons_succ, w32_id, w64_id, ite_t, ite_f, Int.toNat_add, Int.toNat_mul, dec_t, dec_f, sM_0, eb, e2, ef]
          · rw [fl_s, hc, List.length_append]
            simp
            omega
    · have cj : N = j := by omega
      subst cj
      refine .inr ⟨(0, 0, [(2, rf 0), (0, (i : Int)), (0, (((List.range N).filter (fitB (m 6) (m 15) n)).length : Int)), (0, (N : Int))], m), ?_, .inl ⟨?_, _, _, rfl⟩⟩
      · simp -implicitDefEqProofs (disch := omega) [kX12_findSet_0c, v_cop, v_c1, v_c2, v_c3, v_c4, v_c5, v_bin, v_bn, v_bn2, v_div, v_dv, v_dv2, v_une, v_un, v_loc, v_num, v_get, v_gt, v_ald, v_al, v_al2, v_len, v_ln, v_rl0, v_rl1, v_rl2, v_rl3, v_rl4, v_rl5, v_cmp, v_cp, v_cp2, v_zC, v_zc, v_con, v_kc, v_and, v_an1, v_an0, v_or, v_or1, v_or0, v_not, v_nt, v_boo, v_bo, v_cnd, v_cd1, v_cd0, v_cnc, v_cc1, v_cc0, v_ev0, v_ev, v_e1, v_e2, v_cve, v_cv, v_cse, v_cs, v_skip, v_seq, v_sq0, v_sq1, v_sqr, v_sts, v_st, v_inc, v_put, v_pt, v_pt2, v_fop, v_fo, v_fo2, v_ast, v_as, v_as2, v_as3, v_aop, v_ao, v_ao2, v_ao3, v_exs, v_ex, v_ifs, v_if1, v_if0, v_ret, v_rt, v_rez, v_rz, v_rev, v_brk, v_sws, v_sw, v_sw2, v_run, v_rb, v_turn, v_tu1, v_tu0, v_tu2, v_tu3, fst1, snd1, Option.map_some, Option.getD_some, enA, en, stE, okb, narV, rf_toNat, rf_nn, List.getElem?_cons_zero, List.getElem?_cons_succ, w32_id, w64_id, ite_t, ite_f, Int.toNat_add, Int.toNat_mul, dec_t, dec_f, sM_0, eb, e2]
      · unfold getI
        rw [List.getElem?_eq_none hle]) (env := [(2, rf 0), (0, (i : Int)), (0, 0), (0, 0)]) (μ := μ) ⟨rfl, rfl, Nat.zero_le _⟩
  have hi : ¬ (i : Int) = -1 := by omega
  rcases hq with ⟨e1, c2, t3, rfl⟩ | ⟨e, rfl⟩
  · rw [e1]
    simp -implicitDefEqProofs (disch := omega) [fX12_findSet, bX12_findSet, kX12_findSet_0, v_cop, v_c1, v_c2, v_c3, v_c4, v_c5, v_bin, v_bn, v_bn2, v_div, v_dv, v_dv2, v_une, v_un, v_loc, v_num, v_get, v_gt, v_ald, v_al, v_al2, v_len, v_ln, v_rl0, v_rl1, v_rl2, v_rl3, v_rl4, v_rl5, v_cmp, v_cp, v_cp2, v_zC, v_zc, v_con, v_kc, v_and, v_an1, v_an0, v_or, v_or1, v_or0, v_not, v_nt, v_boo, v_bo, v_cnd, v_cd1, v_cd0, v_cnc, v_cc1, v_cc0, v_ev0, v_ev, v_e1, v_e2, v_cve, v_cv, v_cse, v_cs, v_skip, v_seq, v_sq0, v_sq1, v_sqr, v_sts, v_st, v_inc, v_put, v_pt, v_pt2, v_fop, v_fo, v_fo2, v_ast, v_as, v_as2, v_as3, v_aop, v_ao, v_ao2, v_ao3, v_exs, v_ex, v_ifs, v_if1, v_if0, v_ret, v_rt, v_rez, v_rz, v_rev, v_brk, v_sws, v_sw, v_sw2, v_run, v_rb, v_turn, v_tu1, v_tu0, v_tu2, v_tu3, fst1, snd1, Option.map_some, Option.getD_some, enA, en, stE, okb, narV, rf_toNat, rf_nn, List.getElem?_cons_zero, List.getElem?_cons_succ, w32_id, w64_id, ite_t, ite_f, Int.toNat_add, Int.toNat_mul, dec_t, dec_f, lp]
  · simp -implicitDefEqProofs (disch := omega) [fX12_findSet, bX12_findSet, kX12_findSet_0, v_cop, v_c1, v_c2, v_c3, v_c4, v_c5, v_bin, v_bn, v_bn2, v_div, v_dv, v_dv2, v_une, v_un, v_loc, v_num, v_get, v_gt, v_ald, v_al, v_al2, v_len, v_ln, v_rl0, v_rl1, v_rl2, v_rl3, v_rl4, v_rl5, v_cmp, v_cp, v_cp2, v_zC, v_zc, v_con, v_kc, v_and, v_an1, v_an0, v_or, v_or1, v_or0, v_not, v_nt, v_boo, v_bo, v_cnd, v_cd1, v_cd0, v_cnc, v_cc1, v_cc0, v_ev0, v_ev, v_e1, v_e2, v_cve, v_cv, v_cse, v_cs, v_skip, v_seq, v_sq0, v_sq1, v_sqr, v_sts, v_st, v_inc, v_put, v_pt, v_pt2, v_fop, v_fo, v_fo2, v_ast, v_as, v_as2, v_as3, v_aop, v_ao, v_ao2, v_ao3, v_exs, v_ex, v_ifs, v_if1, v_if0, v_ret, v_rt, v_rez, v_rz, v_rev, v_brk, v_sws, v_sw, v_sw2, v_run, v_rb, v_turn, v_tu1, v_tu0, v_tu2, v_tu3, fst1, snd1, Option.map_some, Option.getD_some, enA, en, stE, okb, narV, rf_toNat, rf_nn, List.getElem?_cons_zero, List.getElem?_cons_succ, w32_id, w64_id, ite_t, ite_f, Int.toNat_add, Int.toNat_mul, dec_t, dec_f, lp]
def andL (l : Nat) (L : List Nat) : Nat := L.foldl (fun a g => a &&& g) l
def orL (L : List Nat) : Nat := L.foldl (fun a g => a ||| g) 0
set_option maxRecDepth 100000 in theorem andL_lt {l n : Nat} {L : List Nat} (h : l < 2 ^ n) : andL l L < 2 ^ n := by
  unfold andL
  induction L generalizing l with
  | nil => exact h
  | cons x L ih => exact ih (Nat.lt_of_le_of_lt Nat.and_le_left h)
set_option maxRecDepth 100000 in theorem orL_lt {n : Nat} {L : List Nat} (h : ∀ x ∈ L, x < 2 ^ n) : orL L < 2 ^ n := by
  unfold orL
  have : ∀ a, a < 2 ^ n → L.foldl (fun a g => a ||| g) a < 2 ^ n := by
    induction L with
    | nil => exact fun a ha => ha
    | cons x L ih => exact fun a ha => ih (fun y hy => h y (List.mem_cons_of_mem x hy)) _ (Nat.or_lt_two_pow ha (h x List.mem_cons_self))
  exact this 0 (Nat.two_pow_pos n)
set_option maxRecDepth 100000 in theorem r_sure {μ : Mem} {n P M : Nat} (h : PM μ) (th : ud μ 0 0 0 = μ) (B : FB (μ 6) n P M) (S : SL (μ 15) n P) (G : SG (μ 15) n P) (e : Int) (he : e = 0 ∨ e = 1) : fX12_sure shM [(2, rf 0), (0, e)] μ = some (if (fitL (μ 6) (μ 15) n).length = 0 then -1 else if e = 1 then ((andn (layM (μ 15) n) (orL (fitL (μ 6) (μ 15) n)) : Nat) : Int) else ((andL (layM (μ 15) n) (fitL (μ 6) (μ 15) n) : Nat) : Int), μ) := by
  have n1 := B.n1
  have eb := r_beasts h
  rw [B.n0] at eb
  obtain ⟨e2, p2⟩ := sh_n n1
  have hfl : fitL (μ 6) (μ 15) n = (List.range (2 ^ n)).filter (fitB (μ 6) (μ 15) n) := rfl
  rw [hfl]
  clear hfl
  generalize hN : 2 ^ n = N at *
  have el := r_lay h B
  have ll := lay_lt (μ 15) n
  have ll' := ll
  rw [hN] at ll'
  have lp := loop_run (kb := 2) (kc := 3) (c := kX12_sure_0c) (body := kX12_sure_0b) (upd := kX12_sure_0u) (sh := shM) (fun j => [(2, rf 0), (0, e), (0, ((andL (layM (μ 15) n) ((List.range j).filter (fitB (μ 6) (μ 15) n)) : Nat) : Int)), (0, ((orL ((List.range j).filter (fitB (μ 6) (μ 15) n)) : Nat) : Int)), (0, (((List.range j).filter (fitB (μ 6) (μ 15) n)).length : Int)), (0, (j : Int))]) (fun _ => μ) (r := (0, 0, [(2, rf 0), (0, e), (0, ((andL (layM (μ 15) n) (((List.range N).filter (fitB (μ 6) (μ 15) n))) : Nat) : Int)), (0, ((orL (((List.range N).filter (fitB (μ 6) (μ 15) n))) : Nat) : Int)), (0, ((((List.range N).filter (fitB (μ 6) (μ 15) n))).length : Int)), (0, (N : Int))], μ)) N (by
    intro j hj
    have ef := r_fitsAll h B S G (g := j) (by omega)
    have fl := fl_len (p := fitB (μ 6) (μ 15) n) (j := j)
    have a1 := andL_lt (n := n) (L := (List.range j).filter (fitB (μ 6) (μ 15) n)) ll
    rw [hN] at a1
    have a2 := orL_lt (n := n) (L := (List.range j).filter (fitB (μ 6) (μ 15) n)) (fun x hx => by
      have := (List.mem_filter.mp hx).1
      have := List.mem_range.mp this
      omega)
    rw [hN] at a2
    rw [fl_s]
    generalize (List.range j).filter (fitB (μ 6) (μ 15) n) = L at *
    have b1 := iand_nat (a := andL (layM (μ 15) n) L) (b := j) (by omega) (by omega)
    have b2 := ior_nat (a := orL L) (b := j) (by omega) (by omega)
    cases hc : fitB (μ 6) (μ 15) n j with
    | true =>
      rw [hc] at ef
      have c1 : andL (layM (μ 15) n) (L ++ [j]) = andL (layM (μ 15) n) L &&& j := by unfold andL; rw [List.foldl_append]; rfl
      have c2 : orL (L ++ [j]) = orL L ||| j := by unfold orL; rw [List.foldl_append]; rfl
      simp -implicitDefEqProofs (disch := omega) [kX12_sure_0c, kX12_sure_0b, kX12_sure_0u, v_cop, v_c1, v_c2, v_c3, v_c4, v_c5, v_bin, v_bn, v_bn2, v_div, v_dv, v_dv2, v_une, v_un, v_loc, v_num, v_get, v_gt, v_ald, v_al, v_al2, v_len, v_ln, v_rl0, v_rl1, v_rl2, v_rl3, v_rl4, v_rl5, v_cmp, v_cp, v_cp2, v_zC, v_zc, v_con, v_kc, v_and, v_an1, v_an0, v_or, v_or1, v_or0, v_not, v_nt, v_boo, v_bo, v_cnd, v_cd1, v_cd0, v_cnc, v_cc1, v_cc0, v_ev0, v_ev, v_e1, v_e2, v_cve, v_cv, v_cse, v_cs, v_skip, v_seq, v_sq0, v_sq1, v_sqr, v_sts, v_st, v_inc, v_put, v_pt, v_pt2, v_fop, v_fo, v_fo2, v_ast, v_as, v_as2, v_as3, v_aop, v_ao, v_ao2, v_ao3, v_exs, v_ex, v_ifs, v_if1, v_if0, v_ret, v_rt, v_rez, v_rz, v_rev, v_brk, v_sws, v_sw, v_sw2, v_run, v_rb, v_turn, v_tu1, v_tu0, v_tu2, v_tu3, fst1, snd1, Option.map_some, Option.getD_some, enA, en, stE, okb, narV, rf_toNat, rf_nn, List.getElem?_cons_zero, List.getElem?_cons_succ, w32_id, w64_id, ite_t, ite_f, Int.toNat_add, Int.toNat_mul, dec_t, dec_f, sM_0, eb, e2, ef, b1, b2, c1, c2]
    | false =>
      rw [hc] at ef
      simp -implicitDefEqProofs (disch := omega) [kX12_sure_0c, kX12_sure_0b, kX12_sure_0u, v_cop, v_c1, v_c2, v_c3, v_c4, v_c5, v_bin, v_bn, v_bn2, v_div, v_dv, v_dv2, v_une, v_un, v_loc, v_num, v_get, v_gt, v_ald, v_al, v_al2, v_len, v_ln, v_rl0, v_rl1, v_rl2, v_rl3, v_rl4, v_rl5, v_cmp, v_cp, v_cp2, v_zC, v_zc, v_con, v_kc, v_and, v_an1, v_an0, v_or, v_or1, v_or0, v_not, v_nt, v_boo, v_bo, v_cnd, v_cd1, v_cd0, v_cnc, v_cc1, v_cc0, v_ev0, v_ev, v_e1, v_e2, v_cve, v_cv, v_cse, v_cs, v_skip, v_seq, v_sq0, v_sq1, v_sqr, v_sts, v_st, v_inc, v_put, v_pt, v_pt2, v_fop, v_fo, v_fo2, v_ast, v_as, v_as2, v_as3, v_aop, v_ao, v_ao2, v_ao3, v_exs, v_ex, v_ifs, v_if1, v_if0, v_ret, v_rt, v_rez, v_rz, v_rev, v_brk, v_sws, v_sw, v_sw2, v_run, v_rb, v_turn, v_tu1, v_tu0, v_tu2, v_tu3, fst1, snd1, Option.map_some, Option.getD_some, enA, en, stE, okb, narV, rf_toNat, rf_nn, List.getElem?_cons_zero, List.getElem?_cons_succ, w32_id, w64_id, ite_t, ite_f, Int.toNat_add, Int.toNat_mul, dec_t, dec_f, sM_0, eb, e2, ef]) (by
    simp -implicitDefEqProofs (disch := omega) [kX12_sure_0c, v_cop, v_c1, v_c2, v_c3, v_c4, v_c5, v_bin, v_bn, v_bn2, v_div, v_dv, v_dv2, v_une, v_un, v_loc, v_num, v_get, v_gt, v_ald, v_al, v_al2, v_len, v_ln, v_rl0, v_rl1, v_rl2, v_rl3, v_rl4, v_rl5, v_cmp, v_cp, v_cp2, v_zC, v_zc, v_con, v_kc, v_and, v_an1, v_an0, v_or, v_or1, v_or0, v_not, v_nt, v_boo, v_bo, v_cnd, v_cd1, v_cd0, v_cnc, v_cc1, v_cc0, v_ev0, v_ev, v_e1, v_e2, v_cve, v_cv, v_cse, v_cs, v_skip, v_seq, v_sq0, v_sq1, v_sqr, v_sts, v_st, v_inc, v_put, v_pt, v_pt2, v_fop, v_fo, v_fo2, v_ast, v_as, v_as2, v_as3, v_aop, v_ao, v_ao2, v_ao3, v_exs, v_ex, v_ifs, v_if1, v_if0, v_ret, v_rt, v_rez, v_rz, v_rev, v_brk, v_sws, v_sw, v_sw2, v_run, v_rb, v_turn, v_tu1, v_tu0, v_tu2, v_tu3, fst1, snd1, Option.map_some, Option.getD_some, enA, en, stE, okb, narV, rf_toNat, rf_nn, List.getElem?_cons_zero, List.getElem?_cons_succ, w32_id, w64_id, ite_t, ite_f, Int.toNat_add, Int.toNat_mul, dec_t, dec_f, sM_0, eb, e2])
  have e0 : (List.range 0).filter (fitB (μ 6) (μ 15) n) = [] := rfl
  simp only [e0] at lp
  rw [show (([] : List Nat).length : Int) = 0 from rfl, show ((0 : Nat) : Int) = 0 from rfl, show andL (layM (μ 15) n) [] = layM (μ 15) n from rfl, show ((orL [] : Nat) : Int) = 0 from rfl] at lp
  have a2 := orL_lt (n := n) (L := ((List.range N).filter (fitB (μ 6) (μ 15) n))) (fun x hx => by
      have := (List.mem_filter.mp hx).1
      have := List.mem_range.mp this
      omega)
  rw [hN] at a2
  have b3 := iandn_an (a := layM (μ 15) n) (b := orL (((List.range N).filter (fitB (μ 6) (μ 15) n)))) (by omega) (by omega)
  generalize ((List.range N).filter (fitB (μ 6) (μ 15) n)) = L at *
  by_cases c : L.length = 0
  · rw [if_pos c]
    have c' : L = [] := List.eq_nil_of_length_eq_zero c
    simp -implicitDefEqProofs (disch := omega) [fX12_sure, bX12_sure, kX12_sure_0, v_cop, v_c1, v_c2, v_c3, v_c4, v_c5, v_bin, v_bn, v_bn2, v_div, v_dv, v_dv2, v_une, v_un, v_loc, v_num, v_get, v_gt, v_ald, v_al, v_al2, v_len, v_ln, v_rl0, v_rl1, v_rl2, v_rl3, v_rl4, v_rl5, v_cmp, v_cp, v_cp2, v_zC, v_zc, v_con, v_kc, v_and, v_an1, v_an0, v_or, v_or1, v_or0, v_not, v_nt, v_boo, v_bo, v_cnd, v_cd1, v_cd0, v_cnc, v_cc1, v_cc0, v_ev0, v_ev, v_e1, v_e2, v_cve, v_cv, v_cse, v_cs, v_skip, v_seq, v_sq0, v_sq1, v_sqr, v_sts, v_st, v_inc, v_put, v_pt, v_pt2, v_fop, v_fo, v_fo2, v_ast, v_as, v_as2, v_as3, v_aop, v_ao, v_ao2, v_ao3, v_exs, v_ex, v_ifs, v_if1, v_if0, v_ret, v_rt, v_rez, v_rz, v_rev, v_brk, v_sws, v_sw, v_sw2, v_run, v_rb, v_turn, v_tu1, v_tu0, v_tu2, v_tu3, fst1, snd1, Option.map_some, Option.getD_some, enA, en, stE, okb, narV, rf_toNat, rf_nn, List.getElem?_cons_zero, List.getElem?_cons_succ, w32_id, w64_id, ite_t, ite_f, Int.toNat_add, Int.toNat_mul, dec_t, dec_f, sM_0, th, el, lp, c']
  · rw [if_neg c]
    have c' : ¬ L = [] := fun z => c (by rw [z]; rfl)
    rcases he with rfl | rfl
    · rw [if_neg (by decide)]
      simp -implicitDefEqProofs (disch := omega) [fX12_sure, bX12_sure, kX12_sure_0, v_cop, v_c1, v_c2, v_c3, v_c4, v_c5, v_bin, v_bn, v_bn2, v_div, v_dv, v_dv2, v_une, v_un, v_loc, v_num, v_get, v_gt, v_ald, v_al, v_al2, v_len, v_ln, v_rl0, v_rl1, v_rl2, v_rl3, v_rl4, v_rl5, v_cmp, v_cp, v_cp2, v_zC, v_zc, v_con, v_kc, v_and, v_an1, v_an0, v_or, v_or1, v_or0, v_not, v_nt, v_boo, v_bo, v_cnd, v_cd1, v_cd0, v_cnc, v_cc1, v_cc0, v_ev0, v_ev, v_e1, v_e2, v_cve, v_cv, v_cse, v_cs, v_skip, v_seq, v_sq0, v_sq1, v_sqr, v_sts, v_st, v_inc, v_put, v_pt, v_pt2, v_fop, v_fo, v_fo2, v_ast, v_as, v_as2, v_as3, v_aop, v_ao, v_ao2, v_ao3, v_exs, v_ex, v_ifs, v_if1, v_if0, v_ret, v_rt, v_rez, v_rz, v_rev, v_brk, v_sws, v_sw, v_sw2, v_run, v_rb, v_turn, v_tu1, v_tu0, v_tu2, v_tu3, fst1, snd1, Option.map_some, Option.getD_some, enA, en, stE, okb, narV, rf_toNat, rf_nn, List.getElem?_cons_zero, List.getElem?_cons_succ, w32_id, w64_id, ite_t, ite_f, Int.toNat_add, Int.toNat_mul, dec_t, dec_f, sM_0, th, el, lp, c']
    · rw [if_pos rfl]
      simp -implicitDefEqProofs (disch := omega) [fX12_sure, bX12_sure, kX12_sure_0, v_cop, v_c1, v_c2, v_c3, v_c4, v_c5, v_bin, v_bn, v_bn2, v_div, v_dv, v_dv2, v_une, v_un, v_loc, v_num, v_get, v_gt, v_ald, v_al, v_al2, v_len, v_ln, v_rl0, v_rl1, v_rl2, v_rl3, v_rl4, v_rl5, v_cmp, v_cp, v_cp2, v_zC, v_zc, v_con, v_kc, v_and, v_an1, v_an0, v_or, v_or1, v_or0, v_not, v_nt, v_boo, v_bo, v_cnd, v_cd1, v_cd0, v_cnc, v_cc1, v_cc0, v_ev0, v_ev, v_e1, v_e2, v_cve, v_cv, v_cse, v_cs, v_skip, v_seq, v_sq0, v_sq1, v_sqr, v_sts, v_st, v_inc, v_put, v_pt, v_pt2, v_fop, v_fo, v_fo2, v_ast, v_as, v_as2, v_as3, v_aop, v_ao, v_ao2, v_ao3, v_exs, v_ex, v_ifs, v_if1, v_if0, v_ret, v_rt, v_rez, v_rz, v_rev, v_brk, v_sws, v_sw, v_sw2, v_run, v_rb, v_turn, v_tu1, v_tu0, v_tu2, v_tu3, fst1, snd1, Option.map_some, Option.getD_some, enA, en, stE, okb, narV, rf_toNat, rf_nn, List.getElem?_cons_zero, List.getElem?_cons_succ, w32_id, w64_id, ite_t, ite_f, Int.toNat_add, Int.toNat_mul, dec_t, dec_f, sM_0, th, el, lp, c', b3]
