/-! the tokens: the class -/
def TQ (μ : Mem) (c : Nat → Int) (N : Nat) : Prop := μ 1 0 = rf 2 ∧ μ 1 1 = (N : Int) ∧ N ≤ 1000 ∧ (∀ i, i < N → μ 2 i = c i) ∧ ∀ i, i < N → c i = 10 ∨ 32 ≤ c i ∧ c i ≤ 126
set_option maxRecDepth 100000 in theorem TQ.of {μ μ' : Mem} {c : Nat → Int} {N : Nat} (q : TQ μ c N) (e : ∀ x y, ¬ (x = 1 ∧ 2 ≤ y) → x = 1 ∨ x = 2 → μ' x y = μ x y) : TQ μ' c N := ⟨by rw [e _ _ (by omega) (by omega)]; exact q.1, by rw [e _ _ (by omega) (by omega)]; exact q.2.1, q.2.2.1, fun i hi => by rw [e _ _ (by omega) (by omega)]; exact q.2.2.2.1 i hi, q.2.2.2.2⟩
set_option maxRecDepth 100000 in theorem c_isLetter (μ : Mem) (x : Int) : fX10_isLetter shC [(0, x)] μ = some (if 97 ≤ x ∧ x ≤ 122 then 1 else 0, μ) := by
  by_cases c1 : 97 ≤ x <;> by_cases c2 : x ≤ 122 <;> simp -implicitDefEqProofs (disch := omega) [fX10_isLetter, bX10_isLetter, v_cop, v_c1, v_c2, v_c3, v_c4, v_c5, v_bin, v_bn, v_bn2, v_div, v_dv, v_dv2, v_une, v_un, v_loc, v_num, v_get, v_gt, v_ald, v_al, v_al2, v_len, v_ln, v_rl0, v_rl1, v_rl2, v_rl3, v_rl4, v_rl5, v_cmp, v_cp, v_cp2, v_zC, v_zc, v_con, v_kc, v_and, v_an1, v_an0, v_or, v_or1, v_or0, v_not, v_nt, v_boo, v_bo, v_cnd, v_cd1, v_cd0, v_cnc, v_cc1, v_cc0, v_ev0, v_ev, v_e1, v_e2, v_cve, v_cv, v_cse, v_cs, v_skip, v_seq, v_sq0, v_sq1, v_sqr, v_sts, v_st, v_inc, v_put, v_pt, v_pt2, v_fop, v_fo, v_fo2, v_ast, v_as, v_as2, v_as3, v_aop, v_ao, v_ao2, v_ao3, v_exs, v_ex, v_ifs, v_if1, v_if0, v_ret, v_rt, v_rez, v_rz, v_rev, v_brk, v_sws, v_sw, v_sw2, v_run, v_rb, v_turn, v_tu1, v_tu0, v_tu2, v_tu3, fst1, snd1, Option.map_some, Option.getD_some, enA, en, stE, okb, narV, rf_toNat, rf_nn, List.getElem?_cons_zero, List.getElem?_cons_succ, w32_id, w64_id, ite_t, ite_f, Int.toNat_add, Int.toNat_mul, dec_t, dec_f]
set_option maxRecDepth 100000 in theorem c_isDigit (μ : Mem) (x : Int) : fX10_isDigit shC [(0, x)] μ = some (if 48 ≤ x ∧ x ≤ 57 then 1 else 0, μ) := by
  by_cases c1 : 48 ≤ x <;> by_cases c2 : x ≤ 57 <;> simp -implicitDefEqProofs (disch := omega) [fX10_isDigit, bX10_isDigit, v_cop, v_c1, v_c2, v_c3, v_c4, v_c5, v_bin, v_bn, v_bn2, v_div, v_dv, v_dv2, v_une, v_un, v_loc, v_num, v_get, v_gt, v_ald, v_al, v_al2, v_len, v_ln, v_rl0, v_rl1, v_rl2, v_rl3, v_rl4, v_rl5, v_cmp, v_cp, v_cp2, v_zC, v_zc, v_con, v_kc, v_and, v_an1, v_an0, v_or, v_or1, v_or0, v_not, v_nt, v_boo, v_bo, v_cnd, v_cd1, v_cd0, v_cnc, v_cc1, v_cc0, v_ev0, v_ev, v_e1, v_e2, v_cve, v_cv, v_cse, v_cs, v_skip, v_seq, v_sq0, v_sq1, v_sqr, v_sts, v_st, v_inc, v_put, v_pt, v_pt2, v_fop, v_fo, v_fo2, v_ast, v_as, v_as2, v_as3, v_aop, v_ao, v_ao2, v_ao3, v_exs, v_ex, v_ifs, v_if1, v_if0, v_ret, v_rt, v_rez, v_rz, v_rev, v_brk, v_sws, v_sw, v_sw2, v_run, v_rb, v_turn, v_tu1, v_tu0, v_tu2, v_tu3, fst1, snd1, Option.map_some, Option.getD_some, enA, en, stE, okb, narV, rf_toNat, rf_nn, List.getElem?_cons_zero, List.getElem?_cons_succ, w32_id, w64_id, ite_t, ite_f, Int.toNat_add, Int.toNat_mul, dec_t, dec_f]
set_option maxRecDepth 100000 in theorem ix_mem {c : Int} : ∀ (L : List Int32) (i : Int), 0 ≤ i → (0 ≤ ixOf c L i ↔ ∃ b, b ∈ L ∧ b.toInt = c)
  | [], i, _ => by
    refine ⟨fun h => ?_, fun h => ?_⟩
    · have e : ixOf c [] i = -1 := rfl
      rw [e] at h
      omega
    · obtain ⟨b, hb, -⟩ := h
      cases hb
  | b :: r, i, hi => by
    have e : ixOf c (b :: r) i = if b.toInt = c then i else ixOf c r (i + 1) := rfl
    rw [e]
    by_cases h : b.toInt = c
    · rw [if_pos h]
      exact ⟨fun _ => ⟨b, List.mem_cons_self, h⟩, fun _ => hi⟩
    · rw [if_neg h, ix_mem r (i + 1) (by omega)]
      refine ⟨fun ⟨x, h1, h2⟩ => ⟨x, List.mem_cons_of_mem _ h1, h2⟩, fun ⟨x, h1, h2⟩ => ?_⟩
      rcases List.mem_cons.mp h1 with q | q
      · rw [q] at h2; exact absurd h2 h
      · exact ⟨x, q, h2⟩
set_option maxRecDepth 100000 in theorem sg_all : ∀ b, b ∈ skB.getD 1 [] → sgB b.toInt = true := by decide
set_option maxRecDepth 100000 in theorem ix_sg (x : Int) : 0 ≤ ixOf x (skB.getD 1 []) 0 ↔ sgB x = true := by
  rw [ix_mem _ _ (Int.le_refl _)]
  refine ⟨fun ⟨b, h1, h2⟩ => by rw [← h2]; exact sg_all b h1, fun h => ?_⟩
  rcases of_decide_eq_true h with h | h | h | h | h | h | h | h
  · exact ⟨40, by decide, by rw [h]; decide⟩
  · exact ⟨41, by decide, by rw [h]; decide⟩
  · exact ⟨59, by decide, by rw [h]; decide⟩
  · exact ⟨61, by decide, by rw [h]; decide⟩
  · exact ⟨60, by decide, by rw [h]; decide⟩
  · exact ⟨43, by decide, by rw [h]; decide⟩
  · exact ⟨45, by decide, by rw [h]; decide⟩
  · exact ⟨42, by decide, by rw [h]; decide⟩
set_option maxRecDepth 100000 in theorem v_six (k : Nat) (a : Ex) (sh : Shp) (env : Ev) (μ : Mem) {x : Int} {μ' : Mem} (h : a sh env μ = some (x, μ')) (h0 : 0 ≤ x) (h1 : x < 128) : strIxE k a sh env μ = some (ixOf x (skB.getD k []) 0, μ') := by
  unfold strIxE
  rw [h]
  show (if 0 ≤ x ∧ x < 128 then _ else _) = _
  rw [if_pos ⟨h0, h1⟩]
set_option maxRecDepth 100000 in theorem c_isSign (μ : Mem) {x : Int} (h0 : 0 ≤ x) (h1 : x < 128) : fX10_isSign shC [(0, x)] μ = some (if sgB x = true then 1 else 0, μ) := by
  have e := v_six 1 (locE 0 0) shC [(0, x)] μ (x := x) (μ' := μ) (by simp -implicitDefEqProofs (disch := omega) [v_cop, v_c1, v_c2, v_c3, v_c4, v_c5, v_bin, v_bn, v_bn2, v_div, v_dv, v_dv2, v_une, v_un, v_loc, v_num, v_get, v_gt, v_ald, v_al, v_al2, v_len, v_ln, v_rl0, v_rl1, v_rl2, v_rl3, v_rl4, v_rl5, v_cmp, v_cp, v_cp2, v_zC, v_zc, v_con, v_kc, v_and, v_an1, v_an0, v_or, v_or1, v_or0, v_not, v_nt, v_boo, v_bo, v_cnd, v_cd1, v_cd0, v_cnc, v_cc1, v_cc0, v_ev0, v_ev, v_e1, v_e2, v_cve, v_cv, v_cse, v_cs, v_skip, v_seq, v_sq0, v_sq1, v_sqr, v_sts, v_st, v_inc, v_put, v_pt, v_pt2, v_fop, v_fo, v_fo2, v_ast, v_as, v_as2, v_as3, v_aop, v_ao, v_ao2, v_ao3, v_exs, v_ex, v_ifs, v_if1, v_if0, v_ret, v_rt, v_rez, v_rz, v_rev, v_brk, v_sws, v_sw, v_sw2, v_run, v_rb, v_turn, v_tu1, v_tu0, v_tu2, v_tu3, fst1, snd1, Option.map_some, Option.getD_some, enA, en, stE, okb, narV, rf_toNat, rf_nn, List.getElem?_cons_zero, List.getElem?_cons_succ, w32_id, w64_id, ite_t, ite_f, Int.toNat_add, Int.toNat_mul, dec_t, dec_f]) h0 h1
  have q := ix_sg x
  generalize ixOf x (skB.getD 1 []) 0 = I at *
  by_cases c : sgB x = true
  · have q2 := q.mpr c
    simp -implicitDefEqProofs (disch := omega) [fX10_isSign, bX10_isSign, v_cop, v_c1, v_c2, v_c3, v_c4, v_c5, v_bin, v_bn, v_bn2, v_div, v_dv, v_dv2, v_une, v_un, v_loc, v_num, v_get, v_gt, v_ald, v_al, v_al2, v_len, v_ln, v_rl0, v_rl1, v_rl2, v_rl3, v_rl4, v_rl5, v_cmp, v_cp, v_cp2, v_zC, v_zc, v_con, v_kc, v_and, v_an1, v_an0, v_or, v_or1, v_or0, v_not, v_nt, v_boo, v_bo, v_cnd, v_cd1, v_cd0, v_cnc, v_cc1, v_cc0, v_ev0, v_ev, v_e1, v_e2, v_cve, v_cv, v_cse, v_cs, v_skip, v_seq, v_sq0, v_sq1, v_sqr, v_sts, v_st, v_inc, v_put, v_pt, v_pt2, v_fop, v_fo, v_fo2, v_ast, v_as, v_as2, v_as3, v_aop, v_ao, v_ao2, v_ao3, v_exs, v_ex, v_ifs, v_if1, v_if0, v_ret, v_rt, v_rez, v_rz, v_rev, v_brk, v_sws, v_sw, v_sw2, v_run, v_rb, v_turn, v_tu1, v_tu0, v_tu2, v_tu3, fst1, snd1, Option.map_some, Option.getD_some, enA, en, stE, okb, narV, rf_toNat, rf_nn, List.getElem?_cons_zero, List.getElem?_cons_succ, w32_id, w64_id, ite_t, ite_f, Int.toNat_add, Int.toNat_mul, dec_t, dec_f, e, c]
  · have q2 : ¬ 0 ≤ I := fun z => c (q.mp z)
    simp -implicitDefEqProofs (disch := omega) [fX10_isSign, bX10_isSign, v_cop, v_c1, v_c2, v_c3, v_c4, v_c5, v_bin, v_bn, v_bn2, v_div, v_dv, v_dv2, v_une, v_un, v_loc, v_num, v_get, v_gt, v_ald, v_al, v_al2, v_len, v_ln, v_rl0, v_rl1, v_rl2, v_rl3, v_rl4, v_rl5, v_cmp, v_cp, v_cp2, v_zC, v_zc, v_con, v_kc, v_and, v_an1, v_an0, v_or, v_or1, v_or0, v_not, v_nt, v_boo, v_bo, v_cnd, v_cd1, v_cd0, v_cnc, v_cc1, v_cc0, v_ev0, v_ev, v_e1, v_e2, v_cve, v_cv, v_cse, v_cs, v_skip, v_seq, v_sq0, v_sq1, v_sqr, v_sts, v_st, v_inc, v_put, v_pt, v_pt2, v_fop, v_fo, v_fo2, v_ast, v_as, v_as2, v_as3, v_aop, v_ao, v_ao2, v_ao3, v_exs, v_ex, v_ifs, v_if1, v_if0, v_ret, v_rt, v_rez, v_rz, v_rev, v_brk, v_sws, v_sw, v_sw2, v_run, v_rb, v_turn, v_tu1, v_tu0, v_tu2, v_tu3, fst1, snd1, Option.map_some, Option.getD_some, enA, en, stE, okb, narV, rf_toNat, rf_nn, List.getElem?_cons_zero, List.getElem?_cons_succ, w32_id, w64_id, ite_t, ite_f, Int.toNat_add, Int.toNat_mul, dec_t, dec_f, e, c]
set_option maxRecDepth 100000 in theorem c_sk {μ : Mem} {c : Nat → Int} {N k : Nat} (q : TQ μ c N) (hk : k ≤ N) (h6 : μ 1 6 = (k : Int)) : ∃ μ', loopS 2 3 kX10_next_0c kX10_next_0b kX10_next_0u shC [(2, rf 1)] μ = some (0, 0, [(2, rf 1)], μ') ∧ μ' 1 6 = ((skE c N k : Nat) : Int) ∧ ∀ x y, ¬ (x = 1 ∧ y = 6) → μ' x y = μ x y := by
  obtain ⟨g1, g2, g3, g4⟩ := rn_spec (p := blB c) hk
  have q0 := q
  obtain ⟨p0, p1, hN, hs, hr⟩ := q0
  obtain ⟨env', m, lp, ⟨e0, A, D⟩⟩ := loop_n (kb := 2) (kc := 3) (c := kX10_next_0c) (body := kX10_next_0b) (upd := kX10_next_0u) (sh := shC) (n := skE c N k - k) (fun j env m => env = [(2, rf 1)] ∧ m 1 6 = ((k + j : Nat) : Int) ∧ ∀ x y, ¬ (x = 1 ∧ y = 6) → m x y = μ x y) (by
    rintro j env m hj ⟨rfl, A, D⟩
    have b := of_decide_eq_true (g3 (k + j) (by omega) (by unfold skE at hj; omega))
    have l : k + j < N := by unfold skE at hj; omega
    have m0 : m 1 0 = rf 2 := by rw [D _ _ (by omega)]; exact p0
    have m1 : m 1 1 = (N : Int) := by rw [D _ _ (by omega)]; exact p1
    have m2 : m 2 (k + j) = c (k + j) := by rw [D _ _ (by omega)]; exact hs _ l
    refine ⟨[(2, rf 1)], ud m 1 6 ((k + j : Nat) + 1 : Int), ?_, rfl, ?_, fun x y h => by rw [ud_n h]; exact D x y h⟩
    · generalize k + j = K at *
      generalize c K = C at *
      by_cases b1 : C = 10
      · simp -implicitDefEqProofs (disch := omega) [kX10_next_0c, kX10_next_0b, kX10_next_0u, v_cop, v_c1, v_c2, v_c3, v_c4, v_c5, v_bin, v_bn, v_bn2, v_div, v_dv, v_dv2, v_une, v_un, v_loc, v_num, v_get, v_gt, v_ald, v_al, v_al2, v_len, v_ln, v_rl0, v_rl1, v_rl2, v_rl3, v_rl4, v_rl5, v_cmp, v_cp, v_cp2, v_zC, v_zc, v_con, v_kc, v_and, v_an1, v_an0, v_or, v_or1, v_or0, v_not, v_nt, v_boo, v_bo, v_cnd, v_cd1, v_cd0, v_cnc, v_cc1, v_cc0, v_ev0, v_ev, v_e1, v_e2, v_cve, v_cv, v_cse, v_cs, v_skip, v_seq, v_sq0, v_sq1, v_sqr, v_sts, v_st, v_inc, v_put, v_pt, v_pt2, v_fop, v_fo, v_fo2, v_ast, v_as, v_as2, v_as3, v_aop, v_ao, v_ao2, v_ao3, v_exs, v_ex, v_ifs, v_if1, v_if0, v_ret, v_rt, v_rez, v_rz, v_rev, v_brk, v_sws, v_sw, v_sw2, v_run, v_rb, v_turn, v_tu1, v_tu0, v_tu2, v_tu3, fst1, snd1, Option.map_some, Option.getD_some, enA, en, stE, okb, narV, rf_toNat, rf_nn, List.getElem?_cons_zero, List.getElem?_cons_succ, w32_id, w64_id, ite_t, ite_f, Int.toNat_add, Int.toNat_mul, dec_t, dec_f, sC_1, sC_2, m0, m1, m2, A, b1]
      · have b2 : C = 32 := by omega
        simp -implicitDefEqProofs (disch := omega) [kX10_next_0c, kX10_next_0b, kX10_next_0u, v_cop, v_c1, v_c2, v_c3, v_c4, v_c5, v_bin, v_bn, v_bn2, v_div, v_dv, v_dv2, v_une, v_un, v_loc, v_num, v_get, v_gt, v_ald, v_al, v_al2, v_len, v_ln, v_rl0, v_rl1, v_rl2, v_rl3, v_rl4, v_rl5, v_cmp, v_cp, v_cp2, v_zC, v_zc, v_con, v_kc, v_and, v_an1, v_an0, v_or, v_or1, v_or0, v_not, v_nt, v_boo, v_bo, v_cnd, v_cd1, v_cd0, v_cnc, v_cc1, v_cc0, v_ev0, v_ev, v_e1, v_e2, v_cve, v_cv, v_cse, v_cs, v_skip, v_seq, v_sq0, v_sq1, v_sqr, v_sts, v_st, v_inc, v_put, v_pt, v_pt2, v_fop, v_fo, v_fo2, v_ast, v_as, v_as2, v_as3, v_aop, v_ao, v_ao2, v_ao3, v_exs, v_ex, v_ifs, v_if1, v_if0, v_ret, v_rt, v_rez, v_rz, v_rev, v_brk, v_sws, v_sw, v_sw2, v_run, v_rb, v_turn, v_tu1, v_tu0, v_tu2, v_tu3, fst1, snd1, Option.map_some, Option.getD_some, enA, en, stE, okb, narV, rf_toNat, rf_nn, List.getElem?_cons_zero, List.getElem?_cons_succ, w32_id, w64_id, ite_t, ite_f, Int.toNat_add, Int.toNat_mul, dec_t, dec_f, sC_1, sC_2, m0, m1, m2, A, b2]
    · rw [ud_s]; omega) (by
    rintro env m ⟨rfl, A, D⟩
    rw [show k + (skE c N k - k) = skE c N k by unfold skE; omega] at A
    have m0 : m 1 0 = rf 2 := by rw [D _ _ (by omega)]; exact p0
    have m1 : m 1 1 = (N : Int) := by rw [D _ _ (by omega)]; exact p1
    have g4' : skE c N k < N → blB c (skE c N k) = false := g4
    have g2' : skE c N k ≤ N := g2
    generalize skE c N k = K at *
    by_cases l : K < N
    · have m2 : m 2 K = c K := by rw [D _ _ (by omega)]; exact hs _ l
      have b := of_decide_eq_false (g4' l)
      generalize c K = C at *
      have b1 : ¬ C = 10 := fun z => b (.inl z)
      have b2 : ¬ C = 32 := fun z => b (.inr z)
      simp -implicitDefEqProofs (disch := omega) [kX10_next_0c, v_cop, v_c1, v_c2, v_c3, v_c4, v_c5, v_bin, v_bn, v_bn2, v_div, v_dv, v_dv2, v_une, v_un, v_loc, v_num, v_get, v_gt, v_ald, v_al, v_al2, v_len, v_ln, v_rl0, v_rl1, v_rl2, v_rl3, v_rl4, v_rl5, v_cmp, v_cp, v_cp2, v_zC, v_zc, v_con, v_kc, v_and, v_an1, v_an0, v_or, v_or1, v_or0, v_not, v_nt, v_boo, v_bo, v_cnd, v_cd1, v_cd0, v_cnc, v_cc1, v_cc0, v_ev0, v_ev, v_e1, v_e2, v_cve, v_cv, v_cse, v_cs, v_skip, v_seq, v_sq0, v_sq1, v_sqr, v_sts, v_st, v_inc, v_put, v_pt, v_pt2, v_fop, v_fo, v_fo2, v_ast, v_as, v_as2, v_as3, v_aop, v_ao, v_ao2, v_ao3, v_exs, v_ex, v_ifs, v_if1, v_if0, v_ret, v_rt, v_rez, v_rz, v_rev, v_brk, v_sws, v_sw, v_sw2, v_run, v_rb, v_turn, v_tu1, v_tu0, v_tu2, v_tu3, fst1, snd1, Option.map_some, Option.getD_some, enA, en, stE, okb, narV, rf_toNat, rf_nn, List.getElem?_cons_zero, List.getElem?_cons_succ, w32_id, w64_id, ite_t, ite_f, Int.toNat_add, Int.toNat_mul, dec_t, dec_f, sC_1, sC_2, m0, m1, m2, A, b1, b2]
    · simp -implicitDefEqProofs (disch := omega) [kX10_next_0c, v_cop, v_c1, v_c2, v_c3, v_c4, v_c5, v_bin, v_bn, v_bn2, v_div, v_dv, v_dv2, v_une, v_un, v_loc, v_num, v_get, v_gt, v_ald, v_al, v_al2, v_len, v_ln, v_rl0, v_rl1, v_rl2, v_rl3, v_rl4, v_rl5, v_cmp, v_cp, v_cp2, v_zC, v_zc, v_con, v_kc, v_and, v_an1, v_an0, v_or, v_or1, v_or0, v_not, v_nt, v_boo, v_bo, v_cnd, v_cd1, v_cd0, v_cnc, v_cc1, v_cc0, v_ev0, v_ev, v_e1, v_e2, v_cve, v_cv, v_cse, v_cs, v_skip, v_seq, v_sq0, v_sq1, v_sqr, v_sts, v_st, v_inc, v_put, v_pt, v_pt2, v_fop, v_fo, v_fo2, v_ast, v_as, v_as2, v_as3, v_aop, v_ao, v_ao2, v_ao3, v_exs, v_ex, v_ifs, v_if1, v_if0, v_ret, v_rt, v_rez, v_rz, v_rev, v_brk, v_sws, v_sw, v_sw2, v_run, v_rb, v_turn, v_tu1, v_tu0, v_tu2, v_tu3, fst1, snd1, Option.map_some, Option.getD_some, enA, en, stE, okb, narV, rf_toNat, rf_nn, List.getElem?_cons_zero, List.getElem?_cons_succ, w32_id, w64_id, ite_t, ite_f, Int.toNat_add, Int.toNat_mul, dec_t, dec_f, sC_1, sC_2, m0, m1, A]) (env := [(2, rf 1)]) (μ := μ) ⟨rfl, h6, fun _ _ _ => rfl⟩
  subst e0
  rw [show k + (skE c N k - k) = skE c N k by unfold skE; omega] at A
  exact ⟨m, lp, A, D⟩
/-! the word's number -/
def chW (i : Nat) : Int := ((skB.getD 0 []).getD i 0).toInt
def lxW (X : Int) (i : Nat) : Int := if 97 ≤ chW i ∧ chW i ≤ 122 then X * 27 + (chW i - 97 + 1) else X
def lwW : Nat → Int
  | 0 => 0
  | i + 1 => if i % 8 = 7 then 0 else lxW (lwW i) i
set_option maxRecDepth 100000 in theorem lw_s (i : Nat) : lwW (i + 1) = if i % 8 = 7 then 0 else lxW (lwW i) i := rfl
set_option maxRecDepth 100000 in theorem lw_ok : ∀ i, i < 192 → 0 ≤ lwW i ∧ lwW i ≤ 282429536480 ∧ 0 ≤ chW i ∧ chW i < 128 ∧ lxW (lwW i) i ≤ 282429536480 := by decide +kernel
set_option maxRecDepth 100000 in theorem lw_w : ∀ w, w < 24 → lxW (lwW (8 * w + 7)) (8 * w + 7) = wl27.getD w 0 := by decide +kernel
set_option maxRecDepth 100000 in theorem v_sch (a : Ex) (sh : Shp) (env : Ev) (μ : Mem) {i : Nat} {μ' : Mem} (h : a sh env μ = some ((i : Int), μ')) (h1 : i < 192) : strChE 0 a sh env μ = some (chW i, μ') := by
  unfold strChE
  rw [h]
  show (if 0 ≤ (i : Int) ∧ (i : Int) < ((skL.getD 0 0 : Nat) : Int) then _ else _) = _
  rw [if_pos ⟨by omega, by have : skL.getD 0 0 = 192 := rfl; omega⟩]
  rfl
set_option maxRecDepth 100000 in theorem wn_dr {v : Int} {w : Nat} (hw : w < 24) : wnL (wl27.drop w) v w = if v = wl27.getD w 0 then (w : Int) else wnL (wl27.drop (w + 1)) v (w + 1) := by
  have hl : w < wl27.length := hw
  rw [List.drop_eq_getElem_cons hl]
  have e : wl27.getD w 0 = wl27[w] := by
    rw [List.getD_eq_getElem?_getD, List.getElem?_eq_getElem hl]
    rfl
  rw [e]
  rfl
set_option maxRecDepth 100000 in theorem lw_ch : ∀ i, i < 192 → chW i = 32 ∨ 97 ≤ chW i ∧ chW i ≤ 122 := by decide +kernel
set_option maxRecDepth 100000 in theorem c_wno {μ : Mem} (h2 : μ 1 2 = 27) : loopS 4 5 kX10_takeWord_1c kX10_takeWord_1b kX10_takeWord_1u shC [(2, rf 1), (1, 0), (3, 0), (0, 0), (3, 0)] μ = some (0, 0, [(2, rf 1), (1, 0), (3, 0), (0, 0), (3, 0)], μ) := by
  refine turn_end ?_
  simp -implicitDefEqProofs (disch := omega) [kX10_takeWord_1c, v_cop, v_c1, v_c2, v_c3, v_c4, v_c5, v_bin, v_bn, v_bn2, v_div, v_dv, v_dv2, v_une, v_un, v_loc, v_num, v_get, v_gt, v_ald, v_al, v_al2, v_len, v_ln, v_rl0, v_rl1, v_rl2, v_rl3, v_rl4, v_rl5, v_cmp, v_cp, v_cp2, v_zC, v_zc, v_con, v_kc, v_and, v_an1, v_an0, v_or, v_or1, v_or0, v_not, v_nt, v_boo, v_bo, v_cnd, v_cd1, v_cd0, v_cnc, v_cc1, v_cc0, v_ev0, v_ev, v_e1, v_e2, v_cve, v_cv, v_cse, v_cs, v_skip, v_seq, v_sq0, v_sq1, v_sqr, v_sts, v_st, v_inc, v_put, v_pt, v_pt2, v_fop, v_fo, v_fo2, v_ast, v_as, v_as2, v_as3, v_aop, v_ao, v_ao2, v_ao3, v_exs, v_ex, v_ifs, v_if1, v_if0, v_ret, v_rt, v_rez, v_rz, v_rev, v_brk, v_sws, v_sw, v_sw2, v_run, v_rb, v_turn, v_tu1, v_tu0, v_tu2, v_tu3, fst1, snd1, Option.map_some, Option.getD_some, enA, en, stE, okb, narV, rf_toNat, rf_nn, List.getElem?_cons_zero, List.getElem?_cons_succ, w32_id, w64_id, ite_t, ite_f, Int.toNat_add, Int.toNat_mul, dec_t, dec_f, sC_1, h2]
set_option maxRecDepth 100000 in theorem c_wnum {μ : Mem} {v : Int} (h5 : μ 1 5 = v) (h2 : μ 1 2 = 24) : ∃ e m', loopS 4 5 kX10_takeWord_1c kX10_takeWord_1b kX10_takeWord_1u shC [(2, rf 1), (1, 0), (3, 0), (0, 0), (3, 0)] μ = some (0, 0, e, m') ∧ m' 1 2 = wnL wl27 v 0 ∧ ∀ x y, ¬ (x = 1 ∧ y = 2) → m' x y = μ x y := by
  obtain ⟨r, lp, hq⟩ := loop_up (kb := 4) (kc := 5) (c := kX10_takeWord_1c) (body := kX10_takeWord_1b) (upd := kX10_takeWord_1u) (sh := shC) (n := 192) (fun j env m => ∃ (tk : Nat) (tv : Int), tk ≠ 1 ∧ env = [(2, rf 1), (1, lwW j), (3, 0), (0, (j : Int)), (tk, tv)] ∧ (∀ x y, ¬ (x = 1 ∧ y = 2) → m x y = μ x y) ∧ ((m 1 2 = 24 ∧ wnL wl27 v 0 = wnL (wl27.drop (j / 8)) v (j / 8)) ∨ (m 1 2 = wnL wl27 v 0 ∧ wnL wl27 v 0 < 24))) (fun r => ∃ e m', r = (0, 0, e, m') ∧ m' 1 2 = wnL wl27 v 0 ∧ ∀ x y, ¬ (x = 1 ∧ y = 2) → m' x y = μ x y) (by
    rintro j env m hj ⟨tk, tv, h3, rfl, D, st⟩
    have h3' : ¬ tk = 1 := h3
    have m5 : m 1 5 = v := by rw [D _ _ (by omega)]; exact h5
    rcases st with ⟨m2, hw⟩ | ⟨m2, hlt⟩
    · by_cases c : j < 192
      · obtain ⟨w1, w2, w3, w4, w5⟩ := lw_ok j c
        have lc := lw_ch j c
        have es := v_sch (locE 0 3) shC [(2, rf 1), (1, lwW j), (3, 0), (0, (j : Int)), (tk, tv)] m (i := j) (μ' := m) (by simp -implicitDefEqProofs (disch := omega) [v_cop, v_c1, v_c2, v_c3, v_c4, v_c5, v_bin, v_bn, v_bn2, v_div, v_dv, v_dv2, v_une, v_un, v_loc, v_num, v_get, v_gt, v_ald, v_al, v_al2, v_len, v_ln, v_rl0, v_rl1, v_rl2, v_rl3, v_rl4, v_rl5, v_cmp, v_cp, v_cp2, v_zC, v_zc, v_con, v_kc, v_and, v_an1, v_an0, v_or, v_or1, v_or0, v_not, v_nt, v_boo, v_bo, v_cnd, v_cd1, v_cd0, v_cnc, v_cc1, v_cc0, v_ev0, v_ev, v_e1, v_e2, v_cve, v_cv, v_cse, v_cs, v_skip, v_seq, v_sq0, v_sq1, v_sqr, v_sts, v_st, v_inc, v_put, v_pt, v_pt2, v_fop, v_fo, v_fo2, v_ast, v_as, v_as2, v_as3, v_aop, v_ao, v_ao2, v_ao3, v_exs, v_ex, v_ifs, v_if1, v_if0, v_ret, v_rt, v_rez, v_rz, v_rev, v_brk, v_sws, v_sw, v_sw2, v_run, v_rb, v_turn, v_tu1, v_tu0, v_tu2, v_tu3, fst1, snd1, Option.map_some, Option.getD_some, enA, en, stE, okb, narV, rf_toNat, rf_nn, List.getElem?_cons_zero, List.getElem?_cons_succ, w32_id, w64_id, ite_t, ite_f, Int.toNat_add, Int.toNat_mul, dec_t, dec_f]) c
        have td : Int.tmod (j : Int) 8 = ((j % 8 : Nat) : Int) := rfl
        have tq : Int.tdiv (j : Int) 8 = ((j / 8 : Nat) : Int) := rfl
        have ls := lw_s j
        by_cases c7 : j % 8 = 7
        · have hj8 : 8 * (j / 8) + 7 = j := by omega
          have ww := lw_w (j / 8) (by omega)
          rw [hj8] at ww
          have wd := wn_dr (v := v) (w := j / 8) (by omega)
          rw [← hw] at wd
          rw [if_pos c7] at ls
          rw [c7] at td
          have lq : j / 8 < 24 := by omega
          have lj : (j + 1) / 8 = j / 8 + 1 := by omega
          unfold lxW at ww w5
          by_cases c8 : v = wl27.getD (j / 8) 0
          · rw [if_pos c8] at wd
            refine .inl ⟨c, [(2, rf 1), (1, lwW (j + 1)), (3, 0), (0, ((j + 1 : Nat) : Int)), (0, chW j)], ud m 1 2 ((j / 8 : Nat) : Int), ?_, 0, _, by decide, rfl, fun x y h => by rw [ud_n h]; exact D x y h, .inr ⟨by rw [ud_s, wd], by rw [wd]; omega⟩⟩
            rw [ls]
            rw [← c8] at ww
            clear ls wd hw hj8 lj c8 D
            generalize j / 8 = w at *
            rcases lc with cl | cl
            · rw [if_neg (by omega)] at ww w5
              generalize lwW j = L at *
              generalize chW j = C at *
              subst ww
              simp -implicitDefEqProofs (disch := omega) [kX10_takeWord_1c, kX10_takeWord_1b, kX10_takeWord_1u, v_cop, v_c1, v_c2, v_c3, v_c4, v_c5, v_bin, v_bn, v_bn2, v_div, v_dv, v_dv2, v_une, v_un, v_loc, v_num, v_get, v_gt, v_ald, v_al, v_al2, v_len, v_ln, v_rl0, v_rl1, v_rl2, v_rl3, v_rl4, v_rl5, v_cmp, v_cp, v_cp2, v_zC, v_zc, v_con, v_kc, v_and, v_an1, v_an0, v_or, v_or1, v_or0, v_not, v_nt, v_boo, v_bo, v_cnd, v_cd1, v_cd0, v_cnc, v_cc1, v_cc0, v_ev0, v_ev, v_e1, v_e2, v_cve, v_cv, v_cse, v_cs, v_skip, v_seq, v_sq0, v_sq1, v_sqr, v_sts, v_st, v_inc, v_put, v_pt, v_pt2, v_fop, v_fo, v_fo2, v_ast, v_as, v_as2, v_as3, v_aop, v_ao, v_ao2, v_ao3, v_exs, v_ex, v_ifs, v_if1, v_if0, v_ret, v_rt, v_rez, v_rz, v_rev, v_brk, v_sws, v_sw, v_sw2, v_run, v_rb, v_turn, v_tu1, v_tu0, v_tu2, v_tu3, fst1, snd1, Option.map_some, Option.getD_some, enA, en, stE, okb, narV, rf_toNat, rf_nn, List.getElem?_cons_zero, List.getElem?_cons_succ, w32_id, w64_id, ite_t, ite_f, Int.toNat_add, Int.toNat_mul, dec_t, dec_f, sC_1, es, td, tq, m2, m5, h3', cl]
            · rw [if_pos cl] at ww w5
              generalize lwW j = L at *
              generalize chW j = C at *
              have cn : ¬ C = 32 := by omega
              simp -implicitDefEqProofs (disch := omega) [kX10_takeWord_1c, kX10_takeWord_1b, kX10_takeWord_1u, v_cop, v_c1, v_c2, v_c3, v_c4, v_c5, v_bin, v_bn, v_bn2, v_div, v_dv, v_dv2, v_une, v_un, v_loc, v_num, v_get, v_gt, v_ald, v_al, v_al2, v_len, v_ln, v_rl0, v_rl1, v_rl2, v_rl3, v_rl4, v_rl5, v_cmp, v_cp, v_cp2, v_zC, v_zc, v_con, v_kc, v_and, v_an1, v_an0, v_or, v_or1, v_or0, v_not, v_nt, v_boo, v_bo, v_cnd, v_cd1, v_cd0, v_cnc, v_cc1, v_cc0, v_ev0, v_ev, v_e1, v_e2, v_cve, v_cv, v_cse, v_cs, v_skip, v_seq, v_sq0, v_sq1, v_sqr, v_sts, v_st, v_inc, v_put, v_pt, v_pt2, v_fop, v_fo, v_fo2, v_ast, v_as, v_as2, v_as3, v_aop, v_ao, v_ao2, v_ao3, v_exs, v_ex, v_ifs, v_if1, v_if0, v_ret, v_rt, v_rez, v_rz, v_rev, v_brk, v_sws, v_sw, v_sw2, v_run, v_rb, v_turn, v_tu1, v_tu0, v_tu2, v_tu3, fst1, snd1, Option.map_some, Option.getD_some, enA, en, stE, okb, narV, rf_toNat, rf_nn, List.getElem?_cons_zero, List.getElem?_cons_succ, w32_id, w64_id, ite_t, ite_f, Int.toNat_add, Int.toNat_mul, dec_t, dec_f, sC_1, es, td, tq, m2, m5, h3', cn, ww]
          · rw [if_neg c8] at wd
            refine .inl ⟨c, [(2, rf 1), (1, lwW (j + 1)), (3, 0), (0, ((j + 1 : Nat) : Int)), (0, chW j)], ud m 1 2 24, ?_, 0, _, by decide, rfl, fun x y h => by rw [ud_n h]; exact D x y h, .inl ⟨ud_s, by rw [wd, lj]⟩⟩
            rw [ls]
            have c8' : ¬ wl27.getD (j / 8) 0 = v := fun z => c8 z.symm
            rw [← ww] at c8'
            clear ls wd hw hj8 lj c8 D ww
            rcases lc with cl | cl
            · rw [if_neg (by omega)] at c8' w5
              generalize lwW j = L at *
              generalize chW j = C at *
              simp -implicitDefEqProofs (disch := omega) [kX10_takeWord_1c, kX10_takeWord_1b, kX10_takeWord_1u, v_cop, v_c1, v_c2, v_c3, v_c4, v_c5, v_bin, v_bn, v_bn2, v_div, v_dv, v_dv2, v_une, v_un, v_loc, v_num, v_get, v_gt, v_ald, v_al, v_al2, v_len, v_ln, v_rl0, v_rl1, v_rl2, v_rl3, v_rl4, v_rl5, v_cmp, v_cp, v_cp2, v_zC, v_zc, v_con, v_kc, v_and, v_an1, v_an0, v_or, v_or1, v_or0, v_not, v_nt, v_boo, v_bo, v_cnd, v_cd1, v_cd0, v_cnc, v_cc1, v_cc0, v_ev0, v_ev, v_e1, v_e2, v_cve, v_cv, v_cse, v_cs, v_skip, v_seq, v_sq0, v_sq1, v_sqr, v_sts, v_st, v_inc, v_put, v_pt, v_pt2, v_fop, v_fo, v_fo2, v_ast, v_as, v_as2, v_as3, v_aop, v_ao, v_ao2, v_ao3, v_exs, v_ex, v_ifs, v_if1, v_if0, v_ret, v_rt, v_rez, v_rz, v_rev, v_brk, v_sws, v_sw, v_sw2, v_run, v_rb, v_turn, v_tu1, v_tu0, v_tu2, v_tu3, fst1, snd1, Option.map_some, Option.getD_some, enA, en, stE, okb, narV, rf_toNat, rf_nn, List.getElem?_cons_zero, List.getElem?_cons_succ, w32_id, w64_id, ite_t, ite_f, Int.toNat_add, Int.toNat_mul, dec_t, dec_f, sC_1, es, td, m2, m5, h3', cl, c8']
            · rw [if_pos cl] at c8' w5
              generalize lwW j = L at *
              generalize chW j = C at *
              have cn : ¬ C = 32 := by omega
              simp -implicitDefEqProofs (disch := omega) [kX10_takeWord_1c, kX10_takeWord_1b, kX10_takeWord_1u, v_cop, v_c1, v_c2, v_c3, v_c4, v_c5, v_bin, v_bn, v_bn2, v_div, v_dv, v_dv2, v_une, v_un, v_loc, v_num, v_get, v_gt, v_ald, v_al, v_al2, v_len, v_ln, v_rl0, v_rl1, v_rl2, v_rl3, v_rl4, v_rl5, v_cmp, v_cp, v_cp2, v_zC, v_zc, v_con, v_kc, v_and, v_an1, v_an0, v_or, v_or1, v_or0, v_not, v_nt, v_boo, v_bo, v_cnd, v_cd1, v_cd0, v_cnc, v_cc1, v_cc0, v_ev0, v_ev, v_e1, v_e2, v_cve, v_cv, v_cse, v_cs, v_skip, v_seq, v_sq0, v_sq1, v_sqr, v_sts, v_st, v_inc, v_put, v_pt, v_pt2, v_fop, v_fo, v_fo2, v_ast, v_as, v_as2, v_as3, v_aop, v_ao, v_ao2, v_ao3, v_exs, v_ex, v_ifs, v_if1, v_if0, v_ret, v_rt, v_rez, v_rz, v_rev, v_brk, v_sws, v_sw, v_sw2, v_run, v_rb, v_turn, v_tu1, v_tu0, v_tu2, v_tu3, fst1, snd1, Option.map_some, Option.getD_some, enA, en, stE, okb, narV, rf_toNat, rf_nn, List.getElem?_cons_zero, List.getElem?_cons_succ, w32_id, w64_id, ite_t, ite_f, Int.toNat_add, Int.toNat_mul, dec_t, dec_f, sC_1, es, td, m2, m5, h3', cn, c8']
        · rw [if_neg c7] at ls
          have c7' : ¬ ((j % 8 : Nat) : Int) = 7 := by omega
          refine .inl ⟨c, [(2, rf 1), (1, lwW (j + 1)), (3, 0), (0, ((j + 1 : Nat) : Int)), (0, chW j)], m, ?_, 0, _, by decide, rfl, D, .inl ⟨m2, by rw [hw, show (j + 1) / 8 = j / 8 by omega]⟩⟩
          rw [ls]
          unfold lxW at w5 ⊢
          have b8 : j % 8 < 8 := by omega
          generalize j % 8 = Z at *
          clear ls hw D
          rcases lc with cl | cl
          · rw [if_neg (by omega)] at w5 ⊢
            generalize lwW j = L at *
            generalize chW j = C at *
            simp -implicitDefEqProofs (disch := omega) [kX10_takeWord_1c, kX10_takeWord_1b, kX10_takeWord_1u, v_cop, v_c1, v_c2, v_c3, v_c4, v_c5, v_bin, v_bn, v_bn2, v_div, v_dv, v_dv2, v_une, v_un, v_loc, v_num, v_get, v_gt, v_ald, v_al, v_al2, v_len, v_ln, v_rl0, v_rl1, v_rl2, v_rl3, v_rl4, v_rl5, v_cmp, v_cp, v_cp2, v_zC, v_zc, v_con, v_kc, v_and, v_an1, v_an0, v_or, v_or1, v_or0, v_not, v_nt, v_boo, v_bo, v_cnd, v_cd1, v_cd0, v_cnc, v_cc1, v_cc0, v_ev0, v_ev, v_e1, v_e2, v_cve, v_cv, v_cse, v_cs, v_skip, v_seq, v_sq0, v_sq1, v_sqr, v_sts, v_st, v_inc, v_put, v_pt, v_pt2, v_fop, v_fo, v_fo2, v_ast, v_as, v_as2, v_as3, v_aop, v_ao, v_ao2, v_ao3, v_exs, v_ex, v_ifs, v_if1, v_if0, v_ret, v_rt, v_rez, v_rz, v_rev, v_brk, v_sws, v_sw, v_sw2, v_run, v_rb, v_turn, v_tu1, v_tu0, v_tu2, v_tu3, fst1, snd1, Option.map_some, Option.getD_some, enA, en, stE, okb, narV, rf_toNat, rf_nn, List.getElem?_cons_zero, List.getElem?_cons_succ, w32_id, w64_id, ite_t, ite_f, Int.toNat_add, Int.toNat_mul, dec_t, dec_f, sC_1, es, td, c7', m2, h3', cl]
          · rw [if_pos cl] at w5 ⊢
            generalize lwW j = L at *
            generalize chW j = C at *
            have cn : ¬ C = 32 := by omega
            simp -implicitDefEqProofs (disch := omega) [kX10_takeWord_1c, kX10_takeWord_1b, kX10_takeWord_1u, v_cop, v_c1, v_c2, v_c3, v_c4, v_c5, v_bin, v_bn, v_bn2, v_div, v_dv, v_dv2, v_une, v_un, v_loc, v_num, v_get, v_gt, v_ald, v_al, v_al2, v_len, v_ln, v_rl0, v_rl1, v_rl2, v_rl3, v_rl4, v_rl5, v_cmp, v_cp, v_cp2, v_zC, v_zc, v_con, v_kc, v_and, v_an1, v_an0, v_or, v_or1, v_or0, v_not, v_nt, v_boo, v_bo, v_cnd, v_cd1, v_cd0, v_cnc, v_cc1, v_cc0, v_ev0, v_ev, v_e1, v_e2, v_cve, v_cv, v_cse, v_cs, v_skip, v_seq, v_sq0, v_sq1, v_sqr, v_sts, v_st, v_inc, v_put, v_pt, v_pt2, v_fop, v_fo, v_fo2, v_ast, v_as, v_as2, v_as3, v_aop, v_ao, v_ao2, v_ao3, v_exs, v_ex, v_ifs, v_if1, v_if0, v_ret, v_rt, v_rez, v_rz, v_rev, v_brk, v_sws, v_sw, v_sw2, v_run, v_rb, v_turn, v_tu1, v_tu0, v_tu2, v_tu3, fst1, snd1, Option.map_some, Option.getD_some, enA, en, stE, okb, narV, rf_toNat, rf_nn, List.getElem?_cons_zero, List.getElem?_cons_succ, w32_id, w64_id, ite_t, ite_f, Int.toNat_add, Int.toNat_mul, dec_t, dec_f, sC_1, es, td, c7', m2, h3', cn]
      · have cj : j = 192 := by omega
        subst cj
        refine .inr ⟨(0, 0, [(2, rf 1), (1, lwW 192), (3, 0), (0, ((192 : Nat) : Int)), (tk, tv)], m), ?_, _, m, rfl, by rw [m2]; exact hw.symm, D⟩
        generalize lwW 192 = L at *
        simp -implicitDefEqProofs (disch := omega) [kX10_takeWord_1c, v_cop, v_c1, v_c2, v_c3, v_c4, v_c5, v_bin, v_bn, v_bn2, v_div, v_dv, v_dv2, v_une, v_un, v_loc, v_num, v_get, v_gt, v_ald, v_al, v_al2, v_len, v_ln, v_rl0, v_rl1, v_rl2, v_rl3, v_rl4, v_rl5, v_cmp, v_cp, v_cp2, v_zC, v_zc, v_con, v_kc, v_and, v_an1, v_an0, v_or, v_or1, v_or0, v_not, v_nt, v_boo, v_bo, v_cnd, v_cd1, v_cd0, v_cnc, v_cc1, v_cc0, v_ev0, v_ev, v_e1, v_e2, v_cve, v_cv, v_cse, v_cs, v_skip, v_seq, v_sq0, v_sq1, v_sqr, v_sts, v_st, v_inc, v_put, v_pt, v_pt2, v_fop, v_fo, v_fo2, v_ast, v_as, v_as2, v_as3, v_aop, v_ao, v_ao2, v_ao3, v_exs, v_ex, v_ifs, v_if1, v_if0, v_ret, v_rt, v_rez, v_rz, v_rev, v_brk, v_sws, v_sw, v_sw2, v_run, v_rb, v_turn, v_tu1, v_tu0, v_tu2, v_tu3, fst1, snd1, Option.map_some, Option.getD_some, enA, en, stE, okb, narV, rf_toNat, rf_nn, List.getElem?_cons_zero, List.getElem?_cons_succ, w32_id, w64_id, ite_t, ite_f, Int.toNat_add, Int.toNat_mul, dec_t, dec_f]
    · refine .inr ⟨(0, 0, [(2, rf 1), (1, lwW j), (3, 0), (0, (j : Int)), (tk, tv)], m), ?_, _, m, rfl, m2, D⟩
      clear D
      generalize lwW j = L at *
      generalize wnL wl27 v 0 = V at *
      have nv : ¬ V = 24 := by omega
      by_cases c : j < 192
      · simp -implicitDefEqProofs (disch := omega) [kX10_takeWord_1c, v_cop, v_c1, v_c2, v_c3, v_c4, v_c5, v_bin, v_bn, v_bn2, v_div, v_dv, v_dv2, v_une, v_un, v_loc, v_num, v_get, v_gt, v_ald, v_al, v_al2, v_len, v_ln, v_rl0, v_rl1, v_rl2, v_rl3, v_rl4, v_rl5, v_cmp, v_cp, v_cp2, v_zC, v_zc, v_con, v_kc, v_and, v_an1, v_an0, v_or, v_or1, v_or0, v_not, v_nt, v_boo, v_bo, v_cnd, v_cd1, v_cd0, v_cnc, v_cc1, v_cc0, v_ev0, v_ev, v_e1, v_e2, v_cve, v_cv, v_cse, v_cs, v_skip, v_seq, v_sq0, v_sq1, v_sqr, v_sts, v_st, v_inc, v_put, v_pt, v_pt2, v_fop, v_fo, v_fo2, v_ast, v_as, v_as2, v_as3, v_aop, v_ao, v_ao2, v_ao3, v_exs, v_ex, v_ifs, v_if1, v_if0, v_ret, v_rt, v_rez, v_rz, v_rev, v_brk, v_sws, v_sw, v_sw2, v_run, v_rb, v_turn, v_tu1, v_tu0, v_tu2, v_tu3, fst1, snd1, Option.map_some, Option.getD_some, enA, en, stE, okb, narV, rf_toNat, rf_nn, List.getElem?_cons_zero, List.getElem?_cons_succ, w32_id, w64_id, ite_t, ite_f, Int.toNat_add, Int.toNat_mul, dec_t, dec_f, sC_1, m2, nv]
      · simp -implicitDefEqProofs (disch := omega) [kX10_takeWord_1c, v_cop, v_c1, v_c2, v_c3, v_c4, v_c5, v_bin, v_bn, v_bn2, v_div, v_dv, v_dv2, v_une, v_un, v_loc, v_num, v_get, v_gt, v_ald, v_al, v_al2, v_len, v_ln, v_rl0, v_rl1, v_rl2, v_rl3, v_rl4, v_rl5, v_cmp, v_cp, v_cp2, v_zC, v_zc, v_con, v_kc, v_and, v_an1, v_an0, v_or, v_or1, v_or0, v_not, v_nt, v_boo, v_bo, v_cnd, v_cd1, v_cd0, v_cnc, v_cc1, v_cc0, v_ev0, v_ev, v_e1, v_e2, v_cve, v_cv, v_cse, v_cs, v_skip, v_seq, v_sq0, v_sq1, v_sqr, v_sts, v_st, v_inc, v_put, v_pt, v_pt2, v_fop, v_fo, v_fo2, v_ast, v_as, v_as2, v_as3, v_aop, v_ao, v_ao2, v_ao3, v_exs, v_ex, v_ifs, v_if1, v_if0, v_ret, v_rt, v_rez, v_rz, v_rev, v_brk, v_sws, v_sw, v_sw2, v_run, v_rb, v_turn, v_tu1, v_tu0, v_tu2, v_tu3, fst1, snd1, Option.map_some, Option.getD_some, enA, en, stE, okb, narV, rf_toNat, rf_nn, List.getElem?_cons_zero, List.getElem?_cons_succ, w32_id, w64_id, ite_t, ite_f, Int.toNat_add, Int.toNat_mul, dec_t, dec_f, sC_1, m2, nv]) (env := [(2, rf 1), (1, 0), (3, 0), (0, 0), (3, 0)]) (μ := μ) ⟨3, 0, by decide, rfl, fun _ _ _ => rfl, .inl ⟨h2, rfl⟩⟩
  obtain ⟨e, m', rfl, hv, hD⟩ := hq
  exact ⟨e, m', lp, hv, hD⟩
