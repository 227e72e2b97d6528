/-! the next token: the class -/
noncomputable def hwE (c : Nat → Int) (s : Nat) : Nat → Int
  | 0 => 0
  | j + 1 => w64 (w64 (hwE c s j * 27) + (c (s + j) - 97 + 1))
noncomputable def hvE (c : Nat → Int) (s : Nat) : Nat → Int
  | 0 => 0
  | j + 1 => w32 (w32 (hvE c s j * 10) + (c (s + j) - 48))
set_option maxRecDepth 100000 in theorem hw_eq {c : Nat → Int} {s : Nat} : ∀ m, m ≤ 8 → (∀ j, j < m → 1 ≤ c (s + j) - 96 ∧ c (s + j) - 96 ≤ 26) → hwE c s m = hnE 27 (fun j => c (s + j) - 96) m
  | 0, _, _ => rfl
  | m + 1, h8, hd => by
    have ih := hw_eq m (by omega) (fun j hj => hd j (by omega))
    have b := hn_b27 (d := fun j => c (s + j) - 96) m (fun j hj => hd j (by omega))
    have b2 := bnd_27 m (by omega)
    have q := hd m (by omega)
    show w64 (w64 (hwE c s m * 27) + (c (s + m) - 97 + 1)) = hnE 27 (fun j => c (s + j) - 96) m * 27 + (c (s + m) - 96)
    rw [ih]
    generalize hnE 27 (fun j => c (s + j) - 96) m = X at *
    generalize bnd 27 26 m = Y at *
    rw [w64_id (v := X * 27) ⟨by omega, by omega⟩, w64_id ⟨by omega, by omega⟩]
    omega
set_option maxRecDepth 100000 in theorem hv_eq {c : Nat → Int} {s : Nat} : ∀ m, m ≤ 4 → (∀ j, j < m → 0 ≤ c (s + j) - 48 ∧ c (s + j) - 48 ≤ 9) → hvE c s m = hnE 10 (fun j => c (s + j) - 48) m
  | 0, _, _ => rfl
  | m + 1, h8, hd => by
    have ih := hv_eq m (by omega) (fun j hj => hd j (by omega))
    have b := hn_b10 (d := fun j => c (s + j) - 48) m (fun j hj => hd j (by omega))
    have b2 := bnd_10 m (by omega)
    have q := hd m (by omega)
    show w32 (w32 (hvE c s m * 10) + (c (s + m) - 48)) = hnE 10 (fun j => c (s + j) - 48) m * 10 + (c (s + m) - 48)
    rw [ih]
    generalize hnE 10 (fun j => c (s + j) - 48) m = X at *
    generalize bnd 10 9 m = Y at *
    rw [w32_id (v := X * 10) ⟨by omega, by omega⟩, w32_id ⟨by omega, by omega⟩]
set_option maxRecDepth 100000 in theorem dg_d {c : Nat → Int} {N s : Nat} (hs : s < N) (h1 : ltB c s = false) (h2 : dgB c s = true) : ∀ j, j < teE c N s - s → 0 ≤ c (s + j) - 48 ∧ c (s + j) - 48 ≤ 9 := fun j hj => by
  have := of_decide_eq_true ((te_d hs h1 h2).1 (s + j) (by omega) (by omega))
  omega
set_option maxRecDepth 100000 in theorem c_word {μ : Mem} {c : Nat → Int} {N s : Nat} (q : TQ μ c N) (hs : s < N) (hl : ltB c s = true) (h3 : μ 1 3 = (s : Int)) (h6 : μ 1 6 = (s : Int)) : ∃ μ', fX10_takeWord shC [(2, rf 1)] μ = some (0, μ') ∧ μ' 1 2 = tkE c N s ∧ (tkE c N s ≤ 24 → μ' 1 5 = nmE c N s) ∧ μ' 1 6 = ((teE c N s : Nat) : Int) ∧ ∀ x y, ¬ (x = 1 ∧ (y = 2 ∨ y = 5 ∨ y = 6)) → μ' x y = μ x y := by
  obtain ⟨t1, t2, t3⟩ := te_b (c := c) (N := N) (s := s) (by omega)
  obtain ⟨l1, l2⟩ := te_l hs hl
  have dd := lt_d hs hl
  have etk : tkE c N s = if 8 < teE c N s - s then 27 else wnL wl27 (nmE c N s) 0 := by unfold tkE; rw [if_pos hs, if_pos hl]
  have enm : nmE c N s = hnE 27 (fun j => c (s + j) - 96) (teE c N s - s) := rfl
  obtain ⟨p0, p1, hN, hc, hr⟩ := q
  obtain ⟨env', m, lp, ⟨e0, A5, A6, D⟩⟩ := loop_n (kb := 2) (kc := 3) (c := kX10_takeWord_0c) (body := kX10_takeWord_0b) (upd := kX10_takeWord_0u) (sh := shC) (n := teE c N s - s) (fun j env m => env = [(2, rf 1), (3, 0), (3, 0), (3, 0), (3, 0)] ∧ m 1 5 = hwE c s j ∧ m 1 6 = ((s + j : Nat) : Int) ∧ ∀ x y, ¬ (x = 1 ∧ (y = 5 ∨ y = 6)) → m x y = μ x y) (by
    rintro j env m hj ⟨rfl, A5, A6, D⟩
    have lj := of_decide_eq_true (l1 (s + j) (by omega) (by omega))
    have m0 : m 1 0 = rf 2 := by rw [D _ _ (by omega)]; exact p0
    have m1 : m 1 1 = (N : Int) := by rw [D _ _ (by omega)]; exact p1
    have m2 : m 2 (s + j) = c (s + j) := by rw [D _ _ (by omega)]; exact hc _ (by omega)
    have n6 : ud m 1 5 (hwE c s (j + 1)) 1 6 = ((s + j : Nat) : Int) := by rw [ud_n (by omega)]; exact A6
    refine ⟨[(2, rf 1), (3, 0), (3, 0), (3, 0), (3, 0)], ud (ud m 1 5 (hwE c s (j + 1))) 1 6 ((s + j : Nat) + 1 : Int), ?_, rfl, by rw [ud_n (by omega), ud_s], by rw [ud_s]; omega, fun x y h => by rw [ud_n (by omega), ud_n (by omega)]; exact D x y h⟩
    have hw : hwE c s (j + 1) = w64 (w64 (hwE c s j * 27) + (c (s + j) - 97 + 1)) := rfl
    rw [hw] at n6 ⊢
    have sN : s + j < N := by omega
    generalize s + j = K at *
    generalize c K = C at *
    generalize hwE c s j = X at *
    simp -implicitDefEqProofs (disch := omega) [kX10_takeWord_0c, kX10_takeWord_0b, kX10_takeWord_0u, v_cop, v_c1, v_c2, v_c3, v_c4, v_c5, v_bin, v_bn, v_bn2, v_div, v_dv, v_dv2, v_une, v_un, v_loc, v_num, v_get, v_gt, v_ald, v_al, v_al2, v_len, v_ln, v_rl0, v_rl1, v_rl2, v_rl3, v_rl4, v_rl5, v_cmp, v_cp, v_cp2, v_zC, v_zc, v_con, v_kc, v_and, v_an1, v_an0, v_or, v_or1, v_or0, v_not, v_nt, v_boo, v_bo, v_cnd, v_cd1, v_cd0, v_cnc, v_cc1, v_cc0, v_ev0, v_ev, v_e1, v_e2, v_cve, v_cv, v_cse, v_cs, v_skip, v_seq, v_sq0, v_sq1, v_sqr, v_sts, v_st, v_inc, v_put, v_pt, v_pt2, v_fop, v_fo, v_fo2, v_ast, v_as, v_as2, v_as3, v_aop, v_ao, v_ao2, v_ao3, v_exs, v_ex, v_ifs, v_if1, v_if0, v_ret, v_rt, v_rez, v_rz, v_rev, v_brk, v_sws, v_sw, v_sw2, v_run, v_rb, v_turn, v_tu1, v_tu0, v_tu2, v_tu3, fst1, snd1, Option.map_some, Option.getD_some, enA, en, stE, okb, narV, rf_toNat, rf_nn, List.getElem?_cons_zero, List.getElem?_cons_succ, w32_id, w64_id, ite_t, ite_f, Int.toNat_add, Int.toNat_mul, dec_t, dec_f, sC_1, sC_2, m0, m1, m2, A5, A6, n6]) (by
    rintro env m ⟨rfl, A5, A6, D⟩
    rw [show s + (teE c N s - s) = teE c N s by omega] at A6
    have m0 : m 1 0 = rf 2 := by rw [D _ _ (by omega)]; exact p0
    have m1 : m 1 1 = (N : Int) := by rw [D _ _ (by omega)]; exact p1
    generalize teE c N s = K at *
    by_cases l : K < N
    · have m2 : m 2 K = c K := by rw [D _ _ (by omega)]; exact hc _ l
      have b := of_decide_eq_false (l2 l)
      generalize c K = C at *
      by_cases c1 : 97 ≤ C
      · have c2 : ¬ C ≤ 122 := fun z => b ⟨c1, z⟩
        simp -implicitDefEqProofs (disch := omega) [kX10_takeWord_0c, v_cop, v_c1, v_c2, v_c3, v_c4, v_c5, v_bin, v_bn, v_bn2, v_div, v_dv, v_dv2, v_une, v_un, v_loc, v_num, v_get, v_gt, v_ald, v_al, v_al2, v_len, v_ln, v_rl0, v_rl1, v_rl2, v_rl3, v_rl4, v_rl5, v_cmp, v_cp, v_cp2, v_zC, v_zc, v_con, v_kc, v_and, v_an1, v_an0, v_or, v_or1, v_or0, v_not, v_nt, v_boo, v_bo, v_cnd, v_cd1, v_cd0, v_cnc, v_cc1, v_cc0, v_ev0, v_ev, v_e1, v_e2, v_cve, v_cv, v_cse, v_cs, v_skip, v_seq, v_sq0, v_sq1, v_sqr, v_sts, v_st, v_inc, v_put, v_pt, v_pt2, v_fop, v_fo, v_fo2, v_ast, v_as, v_as2, v_as3, v_aop, v_ao, v_ao2, v_ao3, v_exs, v_ex, v_ifs, v_if1, v_if0, v_ret, v_rt, v_rez, v_rz, v_rev, v_brk, v_sws, v_sw, v_sw2, v_run, v_rb, v_turn, v_tu1, v_tu0, v_tu2, v_tu3, fst1, snd1, Option.map_some, Option.getD_some, enA, en, stE, okb, narV, rf_toNat, rf_nn, List.getElem?_cons_zero, List.getElem?_cons_succ, w32_id, w64_id, ite_t, ite_f, Int.toNat_add, Int.toNat_mul, dec_t, dec_f, sC_1, sC_2, m0, m1, m2, A6]
      · simp -implicitDefEqProofs (disch := omega) [kX10_takeWord_0c, v_cop, v_c1, v_c2, v_c3, v_c4, v_c5, v_bin, v_bn, v_bn2, v_div, v_dv, v_dv2, v_une, v_un, v_loc, v_num, v_get, v_gt, v_ald, v_al, v_al2, v_len, v_ln, v_rl0, v_rl1, v_rl2, v_rl3, v_rl4, v_rl5, v_cmp, v_cp, v_cp2, v_zC, v_zc, v_con, v_kc, v_and, v_an1, v_an0, v_or, v_or1, v_or0, v_not, v_nt, v_boo, v_bo, v_cnd, v_cd1, v_cd0, v_cnc, v_cc1, v_cc0, v_ev0, v_ev, v_e1, v_e2, v_cve, v_cv, v_cse, v_cs, v_skip, v_seq, v_sq0, v_sq1, v_sqr, v_sts, v_st, v_inc, v_put, v_pt, v_pt2, v_fop, v_fo, v_fo2, v_ast, v_as, v_as2, v_as3, v_aop, v_ao, v_ao2, v_ao3, v_exs, v_ex, v_ifs, v_if1, v_if0, v_ret, v_rt, v_rez, v_rz, v_rev, v_brk, v_sws, v_sw, v_sw2, v_run, v_rb, v_turn, v_tu1, v_tu0, v_tu2, v_tu3, fst1, snd1, Option.map_some, Option.getD_some, enA, en, stE, okb, narV, rf_toNat, rf_nn, List.getElem?_cons_zero, List.getElem?_cons_succ, w32_id, w64_id, ite_t, ite_f, Int.toNat_add, Int.toNat_mul, dec_t, dec_f, sC_1, sC_2, m0, m1, m2, A6]
    · simp -implicitDefEqProofs (disch := omega) [kX10_takeWord_0c, v_cop, v_c1, v_c2, v_c3, v_c4, v_c5, v_bin, v_bn, v_bn2, v_div, v_dv, v_dv2, v_une, v_un, v_loc, v_num, v_get, v_gt, v_ald, v_al, v_al2, v_len, v_ln, v_rl0, v_rl1, v_rl2, v_rl3, v_rl4, v_rl5, v_cmp, v_cp, v_cp2, v_zC, v_zc, v_con, v_kc, v_and, v_an1, v_an0, v_or, v_or1, v_or0, v_not, v_nt, v_boo, v_bo, v_cnd, v_cd1, v_cd0, v_cnc, v_cc1, v_cc0, v_ev0, v_ev, v_e1, v_e2, v_cve, v_cv, v_cse, v_cs, v_skip, v_seq, v_sq0, v_sq1, v_sqr, v_sts, v_st, v_inc, v_put, v_pt, v_pt2, v_fop, v_fo, v_fo2, v_ast, v_as, v_as2, v_as3, v_aop, v_ao, v_ao2, v_ao3, v_exs, v_ex, v_ifs, v_if1, v_if0, v_ret, v_rt, v_rez, v_rz, v_rev, v_brk, v_sws, v_sw, v_sw2, v_run, v_rb, v_turn, v_tu1, v_tu0, v_tu2, v_tu3, fst1, snd1, Option.map_some, Option.getD_some, enA, en, stE, okb, narV, rf_toNat, rf_nn, List.getElem?_cons_zero, List.getElem?_cons_succ, w32_id, w64_id, ite_t, ite_f, Int.toNat_add, Int.toNat_mul, dec_t, dec_f, sC_1, sC_2, m0, m1, A6]) (env := [(2, rf 1), (3, 0), (3, 0), (3, 0), (3, 0)]) (μ := ud μ 1 5 0) ⟨rfl, ud_s, by rw [ud_n (by omega)]; exact h6, fun x y h => by rw [ud_n (by omega)]⟩
  subst e0
  rw [show s + (teE c N s - s) = teE c N s by omega] at A6
  have m3 : m 1 3 = (s : Int) := by rw [D _ _ (by omega)]; exact h3
  by_cases l8 : 8 < teE c N s - s
  · rw [if_pos l8] at etk
    have ln := c_wno (μ := ud m 1 2 27) ud_s
    refine ⟨ud m 1 2 27, ?_, by rw [ud_s, etk], fun z => by omega, by rw [ud_n (by omega)]; exact A6, fun x y h => by rw [ud_n (by omega)]; exact D x y (by omega)⟩
    clear etk enm dd l1 l2 D A5
    generalize hm4 : ud m 1 2 27 = m4 at *
    generalize teE c N s = K at *
    simp -implicitDefEqProofs (disch := omega) [fX10_takeWord, bX10_takeWord, kX10_takeWord_0, kX10_takeWord_1, v_cop, v_c1, v_c2, v_c3, v_c4, v_c5, v_bin, v_bn, v_bn2, v_div, v_dv, v_dv2, v_une, v_un, v_loc, v_num, v_get, v_gt, v_ald, v_al, v_al2, v_len, v_ln, v_rl0, v_rl1, v_rl2, v_rl3, v_rl4, v_rl5, v_cmp, v_cp, v_cp2, v_zC, v_zc, v_con, v_kc, v_and, v_an1, v_an0, v_or, v_or1, v_or0, v_not, v_nt, v_boo, v_bo, v_cnd, v_cd1, v_cd0, v_cnc, v_cc1, v_cc0, v_ev0, v_ev, v_e1, v_e2, v_cve, v_cv, v_cse, v_cs, v_skip, v_seq, v_sq0, v_sq1, v_sqr, v_sts, v_st, v_inc, v_put, v_pt, v_pt2, v_fop, v_fo, v_fo2, v_ast, v_as, v_as2, v_as3, v_aop, v_ao, v_ao2, v_ao3, v_exs, v_ex, v_ifs, v_if1, v_if0, v_ret, v_rt, v_rez, v_rz, v_rev, v_brk, v_sws, v_sw, v_sw2, v_run, v_rb, v_turn, v_tu1, v_tu0, v_tu2, v_tu3, fst1, snd1, Option.map_some, Option.getD_some, enA, en, stE, okb, narV, rf_toNat, rf_nn, List.getElem?_cons_zero, List.getElem?_cons_succ, w32_id, w64_id, ite_t, ite_f, Int.toNat_add, Int.toNat_mul, dec_t, dec_f, sC_1, lp, A6, m3, hm4, ln]
  · rw [if_neg l8] at etk
    rw [hw_eq (teE c N s - s) (by omega) dd, ← enm] at A5
    obtain ⟨e4, m4, ln, hv, D4⟩ := c_wnum (μ := ud m 1 2 24) (v := nmE c N s) (by rw [ud_n (by omega)]; exact A5) ud_s
    rw [← etk] at hv
    refine ⟨m4, ?_, hv, fun z => by rw [D4 _ _ (by omega), ud_n (by omega)]; exact A5, by rw [D4 _ _ (by omega), ud_n (by omega)]; exact A6, fun x y h => by rw [D4 _ _ (by omega), ud_n (by omega)]; exact D x y (by omega)⟩
    clear etk enm dd l1 l2 D A5 D4 hv
    generalize hm5 : ud m 1 2 24 = m5 at *
    generalize teE c N s = K at *
    simp -implicitDefEqProofs (disch := omega) [fX10_takeWord, bX10_takeWord, kX10_takeWord_0, kX10_takeWord_1, v_cop, v_c1, v_c2, v_c3, v_c4, v_c5, v_bin, v_bn, v_bn2, v_div, v_dv, v_dv2, v_une, v_un, v_loc, v_num, v_get, v_gt, v_ald, v_al, v_al2, v_len, v_ln, v_rl0, v_rl1, v_rl2, v_rl3, v_rl4, v_rl5, v_cmp, v_cp, v_cp2, v_zC, v_zc, v_con, v_kc, v_and, v_an1, v_an0, v_or, v_or1, v_or0, v_not, v_nt, v_boo, v_bo, v_cnd, v_cd1, v_cd0, v_cnc, v_cc1, v_cc0, v_ev0, v_ev, v_e1, v_e2, v_cve, v_cv, v_cse, v_cs, v_skip, v_seq, v_sq0, v_sq1, v_sqr, v_sts, v_st, v_inc, v_put, v_pt, v_pt2, v_fop, v_fo, v_fo2, v_ast, v_as, v_as2, v_as3, v_aop, v_ao, v_ao2, v_ao3, v_exs, v_ex, v_ifs, v_if1, v_if0, v_ret, v_rt, v_rez, v_rz, v_rev, v_brk, v_sws, v_sw, v_sw2, v_run, v_rb, v_turn, v_tu1, v_tu0, v_tu2, v_tu3, fst1, snd1, Option.map_some, Option.getD_some, enA, en, stE, okb, narV, rf_toNat, rf_nn, List.getElem?_cons_zero, List.getElem?_cons_succ, w32_id, w64_id, ite_t, ite_f, Int.toNat_add, Int.toNat_mul, dec_t, dec_f, sC_1, lp, A6, m3, hm5, ln]
set_option maxRecDepth 100000 in theorem c_numb {μ : Mem} {c : Nat → Int} {N s : Nat} (q : TQ μ c N) (hs : s < N) (hl : ltB c s = false) (hd : dgB c s = true) (h3 : μ 1 3 = (s : Int)) (h6 : μ 1 6 = (s : Int)) : ∃ μ', fX10_takeNumber shC [(2, rf 1)] μ = some (0, μ') ∧ μ' 1 2 = tkE c N s ∧ (tkE c N s = 25 → μ' 1 4 = vlE c N s) ∧ μ' 1 6 = ((teE c N s : Nat) : Int) ∧ ∀ x y, ¬ (x = 1 ∧ (y = 2 ∨ y = 4 ∨ y = 6)) → μ' x y = μ x y := by
  obtain ⟨t1, t2, t3⟩ := te_b (c := c) (N := N) (s := s) (by omega)
  obtain ⟨l1, l2⟩ := te_d hs hl hd
  have dd := dg_d hs hl hd
  have etk : tkE c N s = if 4 < teE c N s - s then 27 else 25 := by unfold tkE; rw [if_pos hs, if_neg (by rw [hl]; decide), if_pos hd]
  have enm : vlE c N s = hnE 10 (fun j => c (s + j) - 48) (teE c N s - s) := rfl
  obtain ⟨p0, p1, hN, hc, hr⟩ := q
  obtain ⟨env', m, lp, ⟨e0, A5, A6, D⟩⟩ := loop_n (kb := 2) (kc := 3) (c := kX10_takeNumber_0c) (body := kX10_takeNumber_0b) (upd := kX10_takeNumber_0u) (sh := shC) (n := teE c N s - s) (fun j env m => env = [(2, rf 1)] ∧ m 1 4 = hvE c s j ∧ m 1 6 = ((s + j : Nat) : Int) ∧ ∀ x y, ¬ (x = 1 ∧ (y = 4 ∨ y = 6)) → m x y = μ x y) (by
    rintro j env m hj ⟨rfl, A5, A6, D⟩
    have lj := of_decide_eq_true (l1 (s + j) (by omega) (by omega))
    have m0 : m 1 0 = rf 2 := by rw [D _ _ (by omega)]; exact p0
    have m1 : m 1 1 = (N : Int) := by rw [D _ _ (by omega)]; exact p1
    have m2 : m 2 (s + j) = c (s + j) := by rw [D _ _ (by omega)]; exact hc _ (by omega)
    have n6 : ud m 1 4 (hvE c s (j + 1)) 1 6 = ((s + j : Nat) : Int) := by rw [ud_n (by omega)]; exact A6
    refine ⟨[(2, rf 1)], ud (ud m 1 4 (hvE c s (j + 1))) 1 6 ((s + j : Nat) + 1 : Int), ?_, rfl, by rw [ud_n (by omega), ud_s], by rw [ud_s]; omega, fun x y h => by rw [ud_n (by omega), ud_n (by omega)]; exact D x y h⟩
    have hw : hvE c s (j + 1) = w32 (w32 (hvE c s j * 10) + (c (s + j) - 48)) := rfl
    rw [hw] at n6 ⊢
    have sN : s + j < N := by omega
    generalize s + j = K at *
    generalize c K = C at *
    generalize hvE c s j = X at *
    simp -implicitDefEqProofs (disch := omega) [kX10_takeNumber_0c, kX10_takeNumber_0b, kX10_takeNumber_0u, v_cop, v_c1, v_c2, v_c3, v_c4, v_c5, v_bin, v_bn, v_bn2, v_div, v_dv, v_dv2, v_une, v_un, v_loc, v_num, v_get, v_gt, v_ald, v_al, v_al2, v_len, v_ln, v_rl0, v_rl1, v_rl2, v_rl3, v_rl4, v_rl5, v_cmp, v_cp, v_cp2, v_zC, v_zc, v_con, v_kc, v_and, v_an1, v_an0, v_or, v_or1, v_or0, v_not, v_nt, v_boo, v_bo, v_cnd, v_cd1, v_cd0, v_cnc, v_cc1, v_cc0, v_ev0, v_ev, v_e1, v_e2, v_cve, v_cv, v_cse, v_cs, v_skip, v_seq, v_sq0, v_sq1, v_sqr, v_sts, v_st, v_inc, v_put, v_pt, v_pt2, v_fop, v_fo, v_fo2, v_ast, v_as, v_as2, v_as3, v_aop, v_ao, v_ao2, v_ao3, v_exs, v_ex, v_ifs, v_if1, v_if0, v_ret, v_rt, v_rez, v_rz, v_rev, v_brk, v_sws, v_sw, v_sw2, v_run, v_rb, v_turn, v_tu1, v_tu0, v_tu2, v_tu3, fst1, snd1, Option.map_some, Option.getD_some, enA, en, stE, okb, narV, rf_toNat, rf_nn, List.getElem?_cons_zero, List.getElem?_cons_succ, w32_id, w64_id, ite_t, ite_f, Int.toNat_add, Int.toNat_mul, dec_t, dec_f, sC_1, sC_2, m0, m1, m2, A5, A6, n6]) (by
    rintro env m ⟨rfl, A5, A6, D⟩
    rw [show s + (teE c N s - s) = teE c N s by omega] at A6
    have m0 : m 1 0 = rf 2 := by rw [D _ _ (by omega)]; exact p0
    have m1 : m 1 1 = (N : Int) := by rw [D _ _ (by omega)]; exact p1
    generalize teE c N s = K at *
    by_cases l : K < N
    · have m2 : m 2 K = c K := by rw [D _ _ (by omega)]; exact hc _ l
      have b := of_decide_eq_false (l2 l)
      generalize c K = C at *
      by_cases c1 : 48 ≤ C
      · have c2 : ¬ C ≤ 57 := fun z => b ⟨c1, z⟩
        simp -implicitDefEqProofs (disch := omega) [kX10_takeNumber_0c, v_cop, v_c1, v_c2, v_c3, v_c4, v_c5, v_bin, v_bn, v_bn2, v_div, v_dv, v_dv2, v_une, v_un, v_loc, v_num, v_get, v_gt, v_ald, v_al, v_al2, v_len, v_ln, v_rl0, v_rl1, v_rl2, v_rl3, v_rl4, v_rl5, v_cmp, v_cp, v_cp2, v_zC, v_zc, v_con, v_kc, v_and, v_an1, v_an0, v_or, v_or1, v_or0, v_not, v_nt, v_boo, v_bo, v_cnd, v_cd1, v_cd0, v_cnc, v_cc1, v_cc0, v_ev0, v_ev, v_e1, v_e2, v_cve, v_cv, v_cse, v_cs, v_skip, v_seq, v_sq0, v_sq1, v_sqr, v_sts, v_st, v_inc, v_put, v_pt, v_pt2, v_fop, v_fo, v_fo2, v_ast, v_as, v_as2, v_as3, v_aop, v_ao, v_ao2, v_ao3, v_exs, v_ex, v_ifs, v_if1, v_if0, v_ret, v_rt, v_rez, v_rz, v_rev, v_brk, v_sws, v_sw, v_sw2, v_run, v_rb, v_turn, v_tu1, v_tu0, v_tu2, v_tu3, fst1, snd1, Option.map_some, Option.getD_some, enA, en, stE, okb, narV, rf_toNat, rf_nn, List.getElem?_cons_zero, List.getElem?_cons_succ, w32_id, w64_id, ite_t, ite_f, Int.toNat_add, Int.toNat_mul, dec_t, dec_f, sC_1, sC_2, m0, m1, m2, A6]
      · simp -implicitDefEqProofs (disch := omega) [kX10_takeNumber_0c, v_cop, v_c1, v_c2, v_c3, v_c4, v_c5, v_bin, v_bn, v_bn2, v_div, v_dv, v_dv2, v_une, v_un, v_loc, v_num, v_get, v_gt, v_ald, v_al, v_al2, v_len, v_ln, v_rl0, v_rl1, v_rl2, v_rl3, v_rl4, v_rl5, v_cmp, v_cp, v_cp2, v_zC, v_zc, v_con, v_kc, v_and, v_an1, v_an0, v_or, v_or1, v_or0, v_not, v_nt, v_boo, v_bo, v_cnd, v_cd1, v_cd0, v_cnc, v_cc1, v_cc0, v_ev0, v_ev, v_e1, v_e2, v_cve, v_cv, v_cse, v_cs, v_skip, v_seq, v_sq0, v_sq1, v_sqr, v_sts, v_st, v_inc, v_put, v_pt, v_pt2, v_fop, v_fo, v_fo2, v_ast, v_as, v_as2, v_as3, v_aop, v_ao, v_ao2, v_ao3, v_exs, v_ex, v_ifs, v_if1, v_if0, v_ret, v_rt, v_rez, v_rz, v_rev, v_brk, v_sws, v_sw, v_sw2, v_run, v_rb, v_turn, v_tu1, v_tu0, v_tu2, v_tu3, fst1, snd1, Option.map_some, Option.getD_some, enA, en, stE, okb, narV, rf_toNat, rf_nn, List.getElem?_cons_zero, List.getElem?_cons_succ, w32_id, w64_id, ite_t, ite_f, Int.toNat_add, Int.toNat_mul, dec_t, dec_f, sC_1, sC_2, m0, m1, m2, A6]
    · simp -implicitDefEqProofs (disch := omega) [kX10_takeNumber_0c, v_cop, v_c1, v_c2, v_c3, v_c4, v_c5, v_bin, v_bn, v_bn2, v_div, v_dv, v_dv2, v_une, v_un, v_loc, v_num, v_get, v_gt, v_ald, v_al, v_al2, v_len, v_ln, v_rl0, v_rl1, v_rl2, v_rl3, v_rl4, v_rl5, v_cmp, v_cp, v_cp2, v_zC, v_zc, v_con, v_kc, v_and, v_an1, v_an0, v_or, v_or1, v_or0, v_not, v_nt, v_boo, v_bo, v_cnd, v_cd1, v_cd0, v_cnc, v_cc1, v_cc0, v_ev0, v_ev, v_e1, v_e2, v_cve, v_cv, v_cse, v_cs, v_skip, v_seq, v_sq0, v_sq1, v_sqr, v_sts, v_st, v_inc, v_put, v_pt, v_pt2, v_fop, v_fo, v_fo2, v_ast, v_as, v_as2, v_as3, v_aop, v_ao, v_ao2, v_ao3, v_exs, v_ex, v_ifs, v_if1, v_if0, v_ret, v_rt, v_rez, v_rz, v_rev, v_brk, v_sws, v_sw, v_sw2, v_run, v_rb, v_turn, v_tu1, v_tu0, v_tu2, v_tu3, fst1, snd1, Option.map_some, Option.getD_some, enA, en, stE, okb, narV, rf_toNat, rf_nn, List.getElem?_cons_zero, List.getElem?_cons_succ, w32_id, w64_id, ite_t, ite_f, Int.toNat_add, Int.toNat_mul, dec_t, dec_f, sC_1, sC_2, m0, m1, A6]) (env := [(2, rf 1)]) (μ := ud μ 1 4 0) ⟨rfl, ud_s, by rw [ud_n (by omega)]; exact h6, fun x y h => by rw [ud_n (by omega)]⟩
  subst e0
  rw [show s + (teE c N s - s) = teE c N s by omega] at A6
  have m3 : m 1 3 = (s : Int) := by rw [D _ _ (by omega)]; exact h3
  by_cases l8 : 4 < teE c N s - s
  · rw [if_pos l8] at etk
    refine ⟨ud m 1 2 27, ?_, by rw [ud_s, etk], fun z => by omega, by rw [ud_n (by omega)]; exact A6, fun x y h => by rw [ud_n (by omega)]; exact D x y (by omega)⟩
    clear etk enm dd l1 l2 D A5
    generalize teE c N s = K at *
    simp -implicitDefEqProofs (disch := omega) [fX10_takeNumber, bX10_takeNumber, kX10_takeNumber_0, v_cop, v_c1, v_c2, v_c3, v_c4, v_c5, v_bin, v_bn, v_bn2, v_div, v_dv, v_dv2, v_une, v_un, v_loc, v_num, v_get, v_gt, v_ald, v_al, v_al2, v_len, v_ln, v_rl0, v_rl1, v_rl2, v_rl3, v_rl4, v_rl5, v_cmp, v_cp, v_cp2, v_zC, v_zc, v_con, v_kc, v_and, v_an1, v_an0, v_or, v_or1, v_or0, v_not, v_nt, v_boo, v_bo, v_cnd, v_cd1, v_cd0, v_cnc, v_cc1, v_cc0, v_ev0, v_ev, v_e1, v_e2, v_cve, v_cv, v_cse, v_cs, v_skip, v_seq, v_sq0, v_sq1, v_sqr, v_sts, v_st, v_inc, v_put, v_pt, v_pt2, v_fop, v_fo, v_fo2, v_ast, v_as, v_as2, v_as3, v_aop, v_ao, v_ao2, v_ao3, v_exs, v_ex, v_ifs, v_if1, v_if0, v_ret, v_rt, v_rez, v_rz, v_rev, v_brk, v_sws, v_sw, v_sw2, v_run, v_rb, v_turn, v_tu1, v_tu0, v_tu2, v_tu3, fst1, snd1, Option.map_some, Option.getD_some, enA, en, stE, okb, narV, rf_toNat, rf_nn, List.getElem?_cons_zero, List.getElem?_cons_succ, w32_id, w64_id, ite_t, ite_f, Int.toNat_add, Int.toNat_mul, dec_t, dec_f, sC_1, lp, A6, m3]
  · rw [if_neg l8] at etk
    rw [hv_eq (teE c N s - s) (by omega) dd, ← enm] at A5
    refine ⟨ud m 1 2 25, ?_, by rw [ud_s, etk], fun z => by rw [ud_n (by omega)]; exact A5, by rw [ud_n (by omega)]; exact A6, fun x y h => by rw [ud_n (by omega)]; exact D x y (by omega)⟩
    clear etk enm dd l1 l2 D A5
    generalize teE c N s = K at *
    simp -implicitDefEqProofs (disch := omega) [fX10_takeNumber, bX10_takeNumber, kX10_takeNumber_0, v_cop, v_c1, v_c2, v_c3, v_c4, v_c5, v_bin, v_bn, v_bn2, v_div, v_dv, v_dv2, v_une, v_un, v_loc, v_num, v_get, v_gt, v_ald, v_al, v_al2, v_len, v_ln, v_rl0, v_rl1, v_rl2, v_rl3, v_rl4, v_rl5, v_cmp, v_cp, v_cp2, v_zC, v_zc, v_con, v_kc, v_and, v_an1, v_an0, v_or, v_or1, v_or0, v_not, v_nt, v_boo, v_bo, v_cnd, v_cd1, v_cd0, v_cnc, v_cc1, v_cc0, v_ev0, v_ev, v_e1, v_e2, v_cve, v_cv, v_cse, v_cs, v_skip, v_seq, v_sq0, v_sq1, v_sqr, v_sts, v_st, v_inc, v_put, v_pt, v_pt2, v_fop, v_fo, v_fo2, v_ast, v_as, v_as2, v_as3, v_aop, v_ao, v_ao2, v_ao3, v_exs, v_ex, v_ifs, v_if1, v_if0, v_ret, v_rt, v_rez, v_rz, v_rev, v_brk, v_sws, v_sw, v_sw2, v_run, v_rb, v_turn, v_tu1, v_tu0, v_tu2, v_tu3, fst1, snd1, Option.map_some, Option.getD_some, enA, en, stE, okb, narV, rf_toNat, rf_nn, List.getElem?_cons_zero, List.getElem?_cons_succ, w32_id, w64_id, ite_t, ite_f, Int.toNat_add, Int.toNat_mul, dec_t, dec_f, sC_1, lp, A6, m3]
/-- the tape looks at the token that begins at s -/
def CTs (μ : Mem) (c : Nat → Int) (N s : Nat) : Prop := μ 1 2 = tkE c N s ∧ μ 1 3 = (s : Int) ∧ (tkE c N s = 25 → μ 1 4 = vlE c N s) ∧ (tkE c N s ≤ 24 → μ 1 5 = nmE c N s) ∧ μ 1 6 = ((teE c N s : Nat) : Int)
set_option maxRecDepth 100000 in theorem sg_r {x : Int} (h : sgB x = true) : 40 ≤ x ∧ x ≤ 61 := by
  have := of_decide_eq_true h
  omega
set_option maxRecDepth 100000 in theorem c_nextAt {μ : Mem} {c : Nat → Int} {N k : Nat} (q : TQ μ c N) (hk : k ≤ N) (h6 : μ 1 6 = (k : Int)) : ∃ μ', fX10_next shC [(2, rf 1)] μ = some (0, μ') ∧ CTs μ' c N (skE c N k) ∧ ∀ x y, ¬ (x = 1 ∧ 2 ≤ y) → μ' x y = μ x y := by
  obtain ⟨m, lp, A6, D⟩ := c_sk q hk h6
  obtain ⟨b1, b2, b3⟩ := skp_b (c := c) hk
  generalize skE c N k = s at *
  have qm : TQ (ud m 1 3 (s : Int)) c N := q.of (fun x y h _ => by rw [ud_n (by omega)]; exact D x y (by omega))
  have m3 : ud m 1 3 (s : Int) 1 3 = (s : Int) := ud_s
  have m6 : ud m 1 3 (s : Int) 1 6 = (s : Int) := by rw [ud_n (by omega)]; exact A6
  have D' : ∀ x y, ¬ (x = 1 ∧ 2 ≤ y) → ud m 1 3 (s : Int) x y = μ x y := fun x y h => by rw [ud_n (by omega)]; exact D x y (by omega)
  generalize hm1 : ud m 1 3 (s : Int) = m1 at *
  obtain ⟨p0, p1, hN, hc, hr⟩ := qm
  by_cases hs : s < N
  · have p2 : m1 2 s = c s := hc s hs
    have rs := hr s hs
    have el := c_isLetter m1 (c s)
    cases hl : ltB c s with
    | true =>
      have l1 := of_decide_eq_true hl
      rw [if_pos l1] at el
      obtain ⟨m2, e2, B2, B5, B6, D2⟩ := c_word ⟨p0, p1, hN, hc, hr⟩ hs hl m3 m6
      have tq := tok_both (c := c) hs
      have t25 : ¬ tkE c N s = 25 := by
        intro z
        unfold tkE at z
        rw [if_pos hs, if_pos hl] at z
        split at z
        · omega
        · have := wn_r (nmE c N s); omega
      refine ⟨m2, ?_, ⟨B2, by rw [D2 _ _ (by omega)]; exact m3, fun z => absurd z t25, B5, B6⟩, fun x y h => by rw [D2 _ _ (by omega)]; exact D' x y h⟩
      clear B2 B5 B6 D2 D D' tq t25 hc hr
      generalize c s = C at *
      simp -implicitDefEqProofs (disch := omega) [fX10_next, bX10_next, kX10_next_0, v_cop, v_c1, v_c2, v_c3, v_c4, v_c5, v_bin, v_bn, v_bn2, v_div, v_dv, v_dv2, v_une, v_un, v_loc, v_num, v_get, v_gt, v_ald, v_al, v_al2, v_len, v_ln, v_rl0, v_rl1, v_rl2, v_rl3, v_rl4, v_rl5, v_cmp, v_cp, v_cp2, v_zC, v_zc, v_con, v_kc, v_and, v_an1, v_an0, v_or, v_or1, v_or0, v_not, v_nt, v_boo, v_bo, v_cnd, v_cd1, v_cd0, v_cnc, v_cc1, v_cc0, v_ev0, v_ev, v_e1, v_e2, v_cve, v_cv, v_cse, v_cs, v_skip, v_seq, v_sq0, v_sq1, v_sqr, v_sts, v_st, v_inc, v_put, v_pt, v_pt2, v_fop, v_fo, v_fo2, v_ast, v_as, v_as2, v_as3, v_aop, v_ao, v_ao2, v_ao3, v_exs, v_ex, v_ifs, v_if1, v_if0, v_ret, v_rt, v_rez, v_rz, v_rev, v_brk, v_sws, v_sw, v_sw2, v_run, v_rb, v_turn, v_tu1, v_tu0, v_tu2, v_tu3, fst1, snd1, Option.map_some, Option.getD_some, enA, en, stE, okb, narV, rf_toNat, rf_nn, List.getElem?_cons_zero, List.getElem?_cons_succ, w32_id, w64_id, ite_t, ite_f, Int.toNat_add, Int.toNat_mul, dec_t, dec_f, sC_1, sC_2, lp, A6, hm1, m6, p0, p1, p2, el, e2]
    | false =>
      have l1 := of_decide_eq_false hl
      rw [if_neg l1] at el
      have ed := c_isDigit m1 (c s)
      cases hd : dgB c s with
      | true =>
        have d1 := of_decide_eq_true hd
        rw [if_pos d1] at ed
        obtain ⟨m2, e2, B2, B4, B6, D2⟩ := c_numb ⟨p0, p1, hN, hc, hr⟩ hs hl hd m3 m6
        have t25 : ¬ tkE c N s ≤ 24 := by
          unfold tkE
          rw [if_pos hs, if_neg (by rw [hl]; decide), if_pos hd]
          split <;> decide
        refine ⟨m2, ?_, ⟨B2, by rw [D2 _ _ (by omega)]; exact m3, B4, fun z => absurd z t25, B6⟩, fun x y h => by rw [D2 _ _ (by omega)]; exact D' x y h⟩
        clear B2 B4 B6 D2 D D' t25 hc hr
        generalize c s = C at *
        simp -implicitDefEqProofs (disch := omega) [fX10_next, bX10_next, kX10_next_0, v_cop, v_c1, v_c2, v_c3, v_c4, v_c5, v_bin, v_bn, v_bn2, v_div, v_dv, v_dv2, v_une, v_un, v_loc, v_num, v_get, v_gt, v_ald, v_al, v_al2, v_len, v_ln, v_rl0, v_rl1, v_rl2, v_rl3, v_rl4, v_rl5, v_cmp, v_cp, v_cp2, v_zC, v_zc, v_con, v_kc, v_and, v_an1, v_an0, v_or, v_or1, v_or0, v_not, v_nt, v_boo, v_bo, v_cnd, v_cd1, v_cd0, v_cnc, v_cc1, v_cc0, v_ev0, v_ev, v_e1, v_e2, v_cve, v_cv, v_cse, v_cs, v_skip, v_seq, v_sq0, v_sq1, v_sqr, v_sts, v_st, v_inc, v_put, v_pt, v_pt2, v_fop, v_fo, v_fo2, v_ast, v_as, v_as2, v_as3, v_aop, v_ao, v_ao2, v_ao3, v_exs, v_ex, v_ifs, v_if1, v_if0, v_ret, v_rt, v_rez, v_rz, v_rev, v_brk, v_sws, v_sw, v_sw2, v_run, v_rb, v_turn, v_tu1, v_tu0, v_tu2, v_tu3, fst1, snd1, Option.map_some, Option.getD_some, enA, en, stE, okb, narV, rf_toNat, rf_nn, List.getElem?_cons_zero, List.getElem?_cons_succ, w32_id, w64_id, ite_t, ite_f, Int.toNat_add, Int.toNat_mul, dec_t, dec_f, sC_1, sC_2, lp, A6, hm1, m6, p0, p1, p2, el, ed, e2]
      | false =>
        have d1 := of_decide_eq_false hd
        rw [if_neg d1] at ed
        have es := c_isSign m1 (x := c s) (by omega) (by omega)
        have et : tkE c N s = if sgB (c s) = true then c s else 27 := by
          unfold tkE
          rw [if_pos hs, if_neg (by rw [hl]; decide), if_neg (by rw [hd]; decide)]
        have ee := te_o hs hl hd
        have tr : 26 ≤ tkE c N s := by
          rw [et]
          split
          · rename_i h; have := sg_r h; omega
          · decide
        have n6 : ∀ v, ud m1 1 2 v 1 6 = (s : Int) := fun v => by rw [ud_n (by omega)]; exact m6
        refine ⟨ud (ud m1 1 2 (tkE c N s)) 1 6 ((s : Int) + 1), ?_, ⟨by rw [ud_n (by omega), ud_s], by rw [ud_n (by omega), ud_n (by omega)]; exact m3, fun z => by omega, fun z => by omega, by rw [ud_s, ee]; omega⟩, fun x y h => by rw [ud_n (by omega), ud_n (by omega)]; exact D' x y h⟩
        clear tr ee D D' hc hr b3
        rw [et]
        by_cases c1 : sgB (c s) = true
        · rw [if_pos c1] at es ⊢
          generalize c s = C at *
          simp -implicitDefEqProofs (disch := omega) [fX10_next, bX10_next, kX10_next_0, v_cop, v_c1, v_c2, v_c3, v_c4, v_c5, v_bin, v_bn, v_bn2, v_div, v_dv, v_dv2, v_une, v_un, v_loc, v_num, v_get, v_gt, v_ald, v_al, v_al2, v_len, v_ln, v_rl0, v_rl1, v_rl2, v_rl3, v_rl4, v_rl5, v_cmp, v_cp, v_cp2, v_zC, v_zc, v_con, v_kc, v_and, v_an1, v_an0, v_or, v_or1, v_or0, v_not, v_nt, v_boo, v_bo, v_cnd, v_cd1, v_cd0, v_cnc, v_cc1, v_cc0, v_ev0, v_ev, v_e1, v_e2, v_cve, v_cv, v_cse, v_cs, v_skip, v_seq, v_sq0, v_sq1, v_sqr, v_sts, v_st, v_inc, v_put, v_pt, v_pt2, v_fop, v_fo, v_fo2, v_ast, v_as, v_as2, v_as3, v_aop, v_ao, v_ao2, v_ao3, v_exs, v_ex, v_ifs, v_if1, v_if0, v_ret, v_rt, v_rez, v_rz, v_rev, v_brk, v_sws, v_sw, v_sw2, v_run, v_rb, v_turn, v_tu1, v_tu0, v_tu2, v_tu3, fst1, snd1, Option.map_some, Option.getD_some, enA, en, stE, okb, narV, rf_toNat, rf_nn, List.getElem?_cons_zero, List.getElem?_cons_succ, w32_id, w64_id, ite_t, ite_f, Int.toNat_add, Int.toNat_mul, dec_t, dec_f, sC_1, sC_2, lp, A6, hm1, m6, p0, p1, p2, el, ed, es, n6]
        · rw [if_neg c1] at es ⊢
          generalize c s = C at *
          simp -implicitDefEqProofs (disch := omega) [fX10_next, bX10_next, kX10_next_0, v_cop, v_c1, v_c2, v_c3, v_c4, v_c5, v_bin, v_bn, v_bn2, v_div, v_dv, v_dv2, v_une, v_un, v_loc, v_num, v_get, v_gt, v_ald, v_al, v_al2, v_len, v_ln, v_rl0, v_rl1, v_rl2, v_rl3, v_rl4, v_rl5, v_cmp, v_cp, v_cp2, v_zC, v_zc, v_con, v_kc, v_and, v_an1, v_an0, v_or, v_or1, v_or0, v_not, v_nt, v_boo, v_bo, v_cnd, v_cd1, v_cd0, v_cnc, v_cc1, v_cc0, v_ev0, v_ev, v_e1, v_e2, v_cve, v_cv, v_cse, v_cs, v_skip, v_seq, v_sq0, v_sq1, v_sqr, v_sts, v_st, v_inc, v_put, v_pt, v_pt2, v_fop, v_fo, v_fo2, v_ast, v_as, v_as2, v_as3, v_aop, v_ao, v_ao2, v_ao3, v_exs, v_ex, v_ifs, v_if1, v_if0, v_ret, v_rt, v_rez, v_rz, v_rev, v_brk, v_sws, v_sw, v_sw2, v_run, v_rb, v_turn, v_tu1, v_tu0, v_tu2, v_tu3, fst1, snd1, Option.map_some, Option.getD_some, enA, en, stE, okb, narV, rf_toNat, rf_nn, List.getElem?_cons_zero, List.getElem?_cons_succ, w32_id, w64_id, ite_t, ite_f, Int.toNat_add, Int.toNat_mul, dec_t, dec_f, sC_1, sC_2, lp, A6, hm1, m6, p0, p1, p2, el, ed, es, n6]
  · have hs2 : s = N := by omega
    have et : tkE c N s = 26 := by unfold tkE; rw [if_neg hs]
    have ee : teE c N s = s := by unfold teE; rw [if_neg hs]
    refine ⟨ud m1 1 2 26, ?_, ⟨by rw [ud_s, et], by rw [ud_n (by omega)]; exact m3, fun z => by omega, fun z => by omega, by rw [ud_n (by omega), ee]; exact m6⟩, fun x y h => by rw [ud_n (by omega)]; exact D' x y h⟩
    clear D D' hc hr b3
    simp -implicitDefEqProofs (disch := omega) [fX10_next, bX10_next, kX10_next_0, v_cop, v_c1, v_c2, v_c3, v_c4, v_c5, v_bin, v_bn, v_bn2, v_div, v_dv, v_dv2, v_une, v_un, v_loc, v_num, v_get, v_gt, v_ald, v_al, v_al2, v_len, v_ln, v_rl0, v_rl1, v_rl2, v_rl3, v_rl4, v_rl5, v_cmp, v_cp, v_cp2, v_zC, v_zc, v_con, v_kc, v_and, v_an1, v_an0, v_or, v_or1, v_or0, v_not, v_nt, v_boo, v_bo, v_cnd, v_cd1, v_cd0, v_cnc, v_cc1, v_cc0, v_ev0, v_ev, v_e1, v_e2, v_cve, v_cv, v_cse, v_cs, v_skip, v_seq, v_sq0, v_sq1, v_sqr, v_sts, v_st, v_inc, v_put, v_pt, v_pt2, v_fop, v_fo, v_fo2, v_ast, v_as, v_as2, v_as3, v_aop, v_ao, v_ao2, v_ao3, v_exs, v_ex, v_ifs, v_if1, v_if0, v_ret, v_rt, v_rez, v_rz, v_rev, v_brk, v_sws, v_sw, v_sw2, v_run, v_rb, v_turn, v_tu1, v_tu0, v_tu2, v_tu3, fst1, snd1, Option.map_some, Option.getD_some, enA, en, stE, okb, narV, rf_toNat, rf_nn, List.getElem?_cons_zero, List.getElem?_cons_succ, w32_id, w64_id, ite_t, ite_f, Int.toNat_add, Int.toNat_mul, dec_t, dec_f, sC_1, sC_2, lp, A6, hm1, m6, p0, p1]
set_option maxRecDepth 100000 in theorem c_next {μ : Mem} {c : Nat → Int} {N a : Nat} (q : TQ μ c N) (t : CTs μ c N (plE c N a)) : ∃ μ', fX10_next shC [(2, rf 1)] μ = some (0, μ') ∧ CTs μ' c N (plE c N (a + 1)) ∧ ∀ x y, ¬ (x = 1 ∧ 2 ≤ y) → μ' x y = μ x y := c_nextAt q (te_b pl_b.2).2.1 t.2.2.2.2
set_option maxRecDepth 100000 in theorem c_rewind {μ : Mem} {c : Nat → Int} {N : Nat} (q : TQ μ c N) : ∃ μ', fX10_rewind shC [(2, rf 1)] μ = some (0, μ') ∧ CTs μ' c N (plE c N 0) ∧ ∀ x y, ¬ (x = 1 ∧ 2 ≤ y) → μ' x y = μ x y := by
  have q1 : TQ (ud μ 1 6 0) c N := q.of (fun x y h _ => by rw [ud_n (by omega)])
  obtain ⟨m, e, t, D⟩ := c_nextAt q1 (Nat.zero_le N) ud_s
  refine ⟨m, ?_, t, fun x y h => by rw [D x y h, ud_n (by omega)]⟩
  simp -implicitDefEqProofs (disch := omega) [fX10_rewind, bX10_rewind, v_cop, v_c1, v_c2, v_c3, v_c4, v_c5, v_bin, v_bn, v_bn2, v_div, v_dv, v_dv2, v_une, v_un, v_loc, v_num, v_get, v_gt, v_ald, v_al, v_al2, v_len, v_ln, v_rl0, v_rl1, v_rl2, v_rl3, v_rl4, v_rl5, v_cmp, v_cp, v_cp2, v_zC, v_zc, v_con, v_kc, v_and, v_an1, v_an0, v_or, v_or1, v_or0, v_not, v_nt, v_boo, v_bo, v_cnd, v_cd1, v_cd0, v_cnc, v_cc1, v_cc0, v_ev0, v_ev, v_e1, v_e2, v_cve, v_cv, v_cse, v_cs, v_skip, v_seq, v_sq0, v_sq1, v_sqr, v_sts, v_st, v_inc, v_put, v_pt, v_pt2, v_fop, v_fo, v_fo2, v_ast, v_as, v_as2, v_as3, v_aop, v_ao, v_ao2, v_ao3, v_exs, v_ex, v_ifs, v_if1, v_if0, v_ret, v_rt, v_rez, v_rz, v_rev, v_brk, v_sws, v_sw, v_sw2, v_run, v_rb, v_turn, v_tu1, v_tu0, v_tu2, v_tu3, fst1, snd1, Option.map_some, Option.getD_some, enA, en, stE, okb, narV, rf_toNat, rf_nn, List.getElem?_cons_zero, List.getElem?_cons_succ, w32_id, w64_id, ite_t, ite_f, Int.toNat_add, Int.toNat_mul, dec_t, dec_f, sC_1, e]
