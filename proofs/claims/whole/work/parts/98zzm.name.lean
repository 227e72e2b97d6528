/-! names: both -/
set_option maxRecDepth 100000 in theorem MDq.plt {μ : Mem} {c : Nat → Int} {N T a : Nat} (q : MDq μ c N T a) {t : Nat} (ht : t < T) : plE c N t < N := (q.2.1 t ht).1
set_option maxRecDepth 100000 in theorem nr_known {μC μM : Mem} {c : Nat → Int} {N T n M a : Nat} (h : NR μC μM c N T n M) (hn : n ≤ 12) (pl : ∀ t, t < T → plE c N t < N) (ha : a < T) (rs : rsA c N a = 1) : (∃ k, k < n + M ∧ μM 9 k = rvA c N a) ↔ knN μC n M (nmA c N a) := by
  obtain ⟨h1, h2, h3, h4, h5, -⟩ := h
  have nb : ∀ t, t < T → rsA c N t = 1 → (rvA c N t = rvA c N a ↔ nmA c N t = nmA c N a) := fun t ht hr => name_both (pl t ht) (pl a ha) hr rs
  refine ⟨fun ⟨k, g1, g2⟩ => ?_, fun g => ?_⟩
  · obtain ⟨t, i1, i2, i3, i4⟩ := h2 k g1
    rw [g2] at i3
    have e := (nb t i1 i2).mp i3.symm
    rcases i4 with ⟨b, j1, j2, j3⟩ | ⟨b, j1, j2, j3⟩
    · exact .inl ⟨b, j1, j3.trans e⟩
    · exact .inr ⟨b, j1, j3.trans e⟩
  · rcases g with ⟨b, g1, g2⟩ | ⟨m, g1, g2⟩
    · obtain ⟨k, i1, i2⟩ := h3 b g1
      obtain ⟨t, j1, j2, j3, j4⟩ := h2 k i1
      refine ⟨k, i1, ?_⟩
      rw [j3]
      refine (nb t j1 j2).mpr ?_
      rcases j4 with ⟨b', l1, l2, l3⟩ | ⟨m', l1, l2, l3⟩
      · have e : b' = b := by omega
        rw [← l3, e, g2]
      · omega
    · obtain ⟨k, i1, i2⟩ := h4 m g1
      obtain ⟨t, j1, j2, j3, j4⟩ := h2 k i1
      refine ⟨k, i1, ?_⟩
      rw [j3]
      refine (nb t j1 j2).mpr ?_
      rcases j4 with ⟨b', l1, l2, l3⟩ | ⟨m', l1, l2, l3⟩
      · omega
      · have e : m' = m := by omega
        rw [← l3, e, g2]
set_option maxRecDepth 100000 in theorem NR.nn {μC μM : Mem} {c : Nat → Int} {N T n M : Nat} (h : NR μC μM c N T n M) {k : Nat} (hk : k < n + M) : 0 ≤ μM 10 k := by
  obtain ⟨t, -, -, -, g⟩ := h.2.1 k hk
  rcases g with ⟨b, -, g, -⟩ | ⟨b, -, g, -⟩ <;> omega
set_option maxRecDepth 100000 in theorem MDq.word {μ : Mem} {c : Nat → Int} {N T a : Nat} (q : MDq μ c N T a) (t1 : 0 ≤ tkA c N a) (t2 : tkA c N a ≤ 24) : a < T ∧ rsA c N a = 1 ∧ μ 4 a = rvA c N a := by
  rcases q.tok with ⟨g1, g2, g3, g4, -⟩ | ⟨g1, g2, g3, g4, -⟩ | ⟨g1, g2, g3, g4⟩ | ⟨g1, g2, g3⟩ | ⟨g1, g2, g3⟩
  · exact ⟨g3, g2, g4⟩
  · omega
  · have := sg_r g4; omega
  · omega
  · omega
def nwN (μ : Mem) (c : Nat → Int) (N a Q : Nat) (w : Int) : Mem := ud (ud (ud μ 9 Q (rvA c N a)) 10 Q w) 0 17 ((Q : Int) + 1)
set_option maxRecDepth 100000 in theorem b_name {mC mM μC μM : Mem} {c : Nat → Int} {N T d a K n M : Nat} {w : Int} (h : PF mC mM μC μM c N T d a K) (R : NR μC μM c N T n M) (hn : μC d 1 = (n : Int)) (h12 : n ≤ 12) (hM : μC d 3 = (M : Int)) (h6 : M ≤ 6) (hs : n + M < 18) : (∃ k : Int, 1 ≤ k ∧ fX8_isNewName shC [(2, rf 27)] μC = some (0, ud μC 27 5 (ftA c N a k)) ∧ fX12_readName shM [(2, rf 0), (0, w)] μM = some (0, ud μM 0 8 (ftA c N a k))) ∨ (a < T ∧ rsA c N a = 1 ∧ tkA c N a ≤ 24 ∧ ¬ knN μC n M (nmA c N a) ∧ fX8_isNewName shC [(2, rf 27)] μC = some (1, μC) ∧ fX12_readName shM [(2, rf 0), (0, w)] μM = some (0, ud (nwN μM c N a (n + M) w) 0 7 ((a : Int) + 1))) := by
  have p := h.mq.1
  have a7 := h.a7
  have f0 := h.f0
  have la := h.mq.pl.2.2
  have e1 := r_isName h.mq h.f0
  by_cases t : 18 ≤ tkA c N a ∧ tkA c N a ≤ 24
  · rw [if_pos ⟨rfl, t⟩] at e1
    obtain ⟨w1, w2, w3⟩ := h.mq.word (by omega) t.2
    obtain ⟨r, e2, hr⟩ := r_find (Q := n + M) h.mq (by omega) t.2 R.1 (by omega)
    have kn := nr_known R h12 (fun t ht => h.mq.plt ht) w1 w2
    obtain ⟨c1, c2⟩ := c_new h.rq hn h12 hM h6 t.1 t.2
    rcases hr with ⟨g1, g2⟩ | ⟨k, g1, g2, g3⟩
    · have nk : ¬ knN μC n M (nmA c N a) := fun z => by
        obtain ⟨k, i1, i2⟩ := kn.mpr z
        exact g2 k i1 i2
      refine .inr ⟨w1, w2, t.2, nk, c1 nk, ?_⟩
      subst g1
      have h17 := R.1
      unfold nwN
      have q4 : ud μM 9 (n + M) (rvA c N a) 0 17 = ((n + M : Nat) : Int) := by rw [ud_n (by omega)]; exact h17
      have q5 : ud μM 9 (n + M) (rvA c N a) 0 16 = rf 10 := by rw [ud_n (by omega)]; exact p.p16
      have q6 : ud (ud μM 9 (n + M) (rvA c N a)) 10 (n + M) w 0 17 = ((n + M : Nat) : Int) := by rw [ud_n (by omega)]; exact q4
      have q7 : ud (ud (ud μM 9 (n + M) (rvA c N a)) 10 (n + M) w) 0 17 (((n + M : Nat) : Int) + 1) 0 7 = (a : Int) := by rw [ud_n (by omega), ud_n (by omega), ud_n (by omega)]; exact a7
      clear c1 c2 kn nk g2 hn hM
      generalize rvA c N a = v at *
      generalize hQ : n + M = Q at *
      simp -implicitDefEqProofs (disch := omega) [fX12_readName, bX12_readName, v_cop, v_c1, v_c2, v_c3, v_c4, v_c5, v_bin, v_bn, v_bn2, v_div, v_dv, v_dv2, v_une, v_un, v_loc, v_num, v_get, v_gt, v_ald, v_al, v_al2, v_len, v_ln, v_rl0, v_rl1, v_rl2, v_rl3, v_rl4, v_rl5, v_cmp, v_cp, v_cp2, v_zC, v_zc, v_con, v_kc, v_and, v_an1, v_an0, v_or, v_or1, v_or0, v_not, v_nt, v_boo, v_bo, v_cnd, v_cd1, v_cd0, v_cnc, v_cc1, v_cc0, v_ev0, v_ev, v_e1, v_e2, v_cve, v_cv, v_cse, v_cs, v_skip, v_seq, v_sq0, v_sq1, v_sqr, v_sts, v_st, v_inc, v_put, v_pt, v_pt2, v_fop, v_fo, v_fo2, v_ast, v_as, v_as2, v_as3, v_aop, v_ao, v_ao2, v_ao3, v_exs, v_ex, v_ifs, v_if1, v_if0, v_ret, v_rt, v_rez, v_rz, v_rev, v_brk, v_sws, v_sw, v_sw2, v_run, v_rb, v_turn, v_tu1, v_tu0, v_tu2, v_tu3, fst1, snd1, Option.map_some, Option.getD_some, enA, en, stE, okb, narV, rf_toNat, rf_nn, List.getElem?_cons_zero, List.getElem?_cons_succ, w32_id, w64_id, ite_t, ite_f, Int.toNat_add, Int.toNat_mul, dec_t, dec_f, sM_0, sM_4, sM_9, sM_10, p.p6, p.p15, p.p16, a7, f0, e1, e2, h17, w3, q4, q5, q6, q7]
    · have kk := kn.mp ⟨k, g1, g2⟩
      have g0 := R.nn g1
      have e3 := r_wrong h.mq h.f0 (k := 3) (by decide) (by decide)
      have fp := ft_pos (c := c) (N := N) (a := a) (k := 3) (by decide)
      refine .inl ⟨3, by decide, c2 kk, ?_⟩
      have q8 : ud μM 0 8 (ftA c N a 3) 0 8 = ftA c N a 3 := ud_s
      rw [← g3] at g0
      clear c1 c2 kn kk
      generalize ftA c N a 3 = F at *
      have fn : ¬ F = 0 := by omega
      simp -implicitDefEqProofs (disch := omega) [fX12_readName, bX12_readName, v_cop, v_c1, v_c2, v_c3, v_c4, v_c5, v_bin, v_bn, v_bn2, v_div, v_dv, v_dv2, v_une, v_un, v_loc, v_num, v_get, v_gt, v_ald, v_al, v_al2, v_len, v_ln, v_rl0, v_rl1, v_rl2, v_rl3, v_rl4, v_rl5, v_cmp, v_cp, v_cp2, v_zC, v_zc, v_con, v_kc, v_and, v_an1, v_an0, v_or, v_or1, v_or0, v_not, v_nt, v_boo, v_bo, v_cnd, v_cd1, v_cd0, v_cnc, v_cc1, v_cc0, v_ev0, v_ev, v_e1, v_e2, v_cve, v_cv, v_cse, v_cs, v_skip, v_seq, v_sq0, v_sq1, v_sqr, v_sts, v_st, v_inc, v_put, v_pt, v_pt2, v_fop, v_fo, v_fo2, v_ast, v_as, v_as2, v_as3, v_aop, v_ao, v_ao2, v_ao3, v_exs, v_ex, v_ifs, v_if1, v_if0, v_ret, v_rt, v_rez, v_rz, v_rev, v_brk, v_sws, v_sw, v_sw2, v_run, v_rb, v_turn, v_tu1, v_tu0, v_tu2, v_tu3, fst1, snd1, Option.map_some, Option.getD_some, enA, en, stE, okb, narV, rf_toNat, rf_nn, List.getElem?_cons_zero, List.getElem?_cons_succ, w32_id, w64_id, ite_t, ite_f, Int.toNat_add, Int.toNat_mul, dec_t, dec_f, sM_0, e1, e2, e3, q8, fn]
  · rw [if_neg (fun z => t z.2)] at e1
    have e3 := r_wrong h.mq h.f0 (k := 1) (by decide) (by decide)
    have fp := ft_pos (c := c) (N := N) (a := a) (k := 1) (by decide)
    refine .inl ⟨1, by decide, c_new0 h.rq t, ?_⟩
    have q8 : ud μM 0 8 (ftA c N a 1) 0 8 = ftA c N a 1 := ud_s
    generalize ftA c N a 1 = F at *
    have fn : ¬ F = 0 := by omega
    simp -implicitDefEqProofs (disch := omega) [fX12_readName, bX12_readName, v_cop, v_c1, v_c2, v_c3, v_c4, v_c5, v_bin, v_bn, v_bn2, v_div, v_dv, v_dv2, v_une, v_un, v_loc, v_num, v_get, v_gt, v_ald, v_al, v_al2, v_len, v_ln, v_rl0, v_rl1, v_rl2, v_rl3, v_rl4, v_rl5, v_cmp, v_cp, v_cp2, v_zC, v_zc, v_con, v_kc, v_and, v_an1, v_an0, v_or, v_or1, v_or0, v_not, v_nt, v_boo, v_bo, v_cnd, v_cd1, v_cd0, v_cnc, v_cc1, v_cc0, v_ev0, v_ev, v_e1, v_e2, v_cve, v_cv, v_cse, v_cs, v_skip, v_seq, v_sq0, v_sq1, v_sqr, v_sts, v_st, v_inc, v_put, v_pt, v_pt2, v_fop, v_fo, v_fo2, v_ast, v_as, v_as2, v_as3, v_aop, v_ao, v_ao2, v_ao3, v_exs, v_ex, v_ifs, v_if1, v_if0, v_ret, v_rt, v_rez, v_rz, v_rev, v_brk, v_sws, v_sw, v_sw2, v_run, v_rb, v_turn, v_tu1, v_tu0, v_tu2, v_tu3, fst1, snd1, Option.map_some, Option.getD_some, enA, en, stE, okb, narV, rf_toNat, rf_nn, List.getElem?_cons_zero, List.getElem?_cons_succ, w32_id, w64_id, ite_t, ite_f, Int.toNat_add, Int.toNat_mul, dec_t, dec_f, sM_0, e1, e3, q8, fn]
set_option maxRecDepth 100000 in theorem PF.pass {mC mM μC μM : Mem} {c : Nat → Int} {N T d a K : Nat} (h : PF mC mM μC μM c N T d a K) {w : Int} (t : tkA c N a = w) (t2 : w ≠ 26) : ∃ μC', fX8_passed shC [(2, rf 27), (0, w)] μC = some (1, μC') ∧ PF mC mM μC' (ud μM 0 7 ((a : Int) + 1)) c N T d (a + 1) K ∧ ∀ x y, ¬ (x = 1 ∧ 2 ≤ y) → μC' x y = μC x y := by
  have hd := h.rq.1
  have aT := h.lt (by rw [t]; exact t2)
  obtain ⟨μC', e, q, D⟩ := c_passed h.rq t
  refine ⟨μC', e, ⟨q, h.mq.of (fun x y hx => by rw [ud_n (by omega)]) (by rw [ud_s]; omega) (by omega), by rw [ud_n (by omega)]; exact h.f0, by rw [ud_n (by omega)]; exact h.k0, by have := h.ka; omega, fun x y hx => ?_, fun x y hx => ?_⟩, D⟩
  · rw [D x y (fun z => hx (by unfold ZC; omega))]
    exact h.fc x y hx
  · rw [ud_n (fun z => hx (by unfold ZM; omega))]
    exact h.fm x y hx
set_option maxRecDepth 100000 in theorem b_after {mC mM μC μM : Mem} {c : Nat → Int} {N T d a K w : Nat} {l u wi : Int} (h : PF mC mM μC μM c N T d a K) (hw : w < 24) (hi : wi = (w : Int)) : (∃ μC' μM', ((fX8_passed shC [(2, rf 27), (0, wi)] μC = some (0, μC')) ∨ (∃ m, fX8_passed shC [(2, rf 27), (0, wi)] μC = some (1, m) ∧ fX8_isNumber shC [(2, rf 27), (0, l), (0, u)] m = some (0, μC'))) ∧ fX12_takeAfter shM [(2, rf 0), (0, wi), (0, l), (0, u)] μM = some (0, μM') ∧ FO mC mM μC' μM' c N T d ∧ (∀ x y, ¬ (x = 0 ∧ (y = 7 ∨ y = 8)) → μM' x y = μM x y)) ∨ (∃ m v, fX8_passed shC [(2, rf 27), (0, wi)] μC = some (1, m) ∧ fX8_isNumber shC [(2, rf 27), (0, l), (0, u)] m = some (1, m) ∧ m 1 4 = v ∧ l ≤ v ∧ v ≤ u ∧ fX12_takeAfter shM [(2, rf 0), (0, wi), (0, l), (0, u)] μM = some (v, ud (ud μM 0 7 ((a : Int) + 1)) 0 7 (((a + 1 : Nat) : Int) + 1)) ∧ PF mC mM m (ud μM 0 7 ((a : Int) + 1)) c N T d (a + 1) K ∧ a + 1 < T ∧ ∀ x y, ¬ (x = 1 ∧ 2 ≤ y) → m x y = μC x y) := by
  subst hi
  have e1 := r_takeWord h.mq h.f0 hw
  by_cases t : tkA c N a = (w : Int)
  · rw [if_pos t] at e1
    obtain ⟨m, e2, h1, D⟩ := h.pass t (by omega)
    by_cases t25 : tkA c N (a + 1) = 25
    · by_cases v : l ≤ vlA c N (a + 1) ∧ vlA c N (a + 1) ≤ u
      · have e3 := r_num1 h1.mq h1.f0 t25 v.1 v.2
        have e4 := c_isNum1 h1.rq t25 v.1 v.2
        refine .inr ⟨m, vlA c N (a + 1), e2, e4, h1.rq.t4 t25, v.1, v.2, ?_, h1, h1.lt (by omega), D⟩
        generalize ud (ud μM 0 7 ((a : Int) + 1)) 0 7 (((a + 1 : Nat) : Int) + 1) = k2 at *
        generalize vlA c N (a + 1) = V at *
        simp -implicitDefEqProofs (disch := omega) [fX12_takeAfter, bX12_takeAfter, v_cop, v_c1, v_c2, v_c3, v_c4, v_c5, v_bin, v_bn, v_bn2, v_div, v_dv, v_dv2, v_une, v_un, v_loc, v_num, v_get, v_gt, v_ald, v_al, v_al2, v_len, v_ln, v_rl0, v_rl1, v_rl2, v_rl3, v_rl4, v_rl5, v_cmp, v_cp, v_cp2, v_zC, v_zc, v_con, v_kc, v_and, v_an1, v_an0, v_or, v_or1, v_or0, v_not, v_nt, v_boo, v_bo, v_cnd, v_cd1, v_cd0, v_cnc, v_cc1, v_cc0, v_ev0, v_ev, v_e1, v_e2, v_cve, v_cv, v_cse, v_cs, v_skip, v_seq, v_sq0, v_sq1, v_sqr, v_sts, v_st, v_inc, v_put, v_pt, v_pt2, v_fop, v_fo, v_fo2, v_ast, v_as, v_as2, v_as3, v_aop, v_ao, v_ao2, v_ao3, v_exs, v_ex, v_ifs, v_if1, v_if0, v_ret, v_rt, v_rez, v_rz, v_rev, v_brk, v_sws, v_sw, v_sw2, v_run, v_rb, v_turn, v_tu1, v_tu0, v_tu2, v_tu3, fst1, snd1, Option.map_some, Option.getD_some, enA, en, stE, okb, narV, rf_toNat, rf_nn, List.getElem?_cons_zero, List.getElem?_cons_succ, w32_id, w64_id, ite_t, ite_f, Int.toNat_add, Int.toNat_mul, dec_t, dec_f, sM_0, e1, e3]
      · have e3 := r_num4 h1.mq h1.f0 t25 v
        have e4 := c_isNum4 h1.rq t25 v
        refine .inl ⟨_, _, .inr ⟨m, e2, e4⟩, ?_, h1.fo (k := 4) (by decide), fun x y hx => by rw [ud_n (by omega), ud_n (by omega)]⟩
        generalize ud (ud μM 0 7 ((a : Int) + 1)) 0 8 (ftA c N (a + 1) 4) = k2 at *
        simp -implicitDefEqProofs (disch := omega) [fX12_takeAfter, bX12_takeAfter, v_cop, v_c1, v_c2, v_c3, v_c4, v_c5, v_bin, v_bn, v_bn2, v_div, v_dv, v_dv2, v_une, v_un, v_loc, v_num, v_get, v_gt, v_ald, v_al, v_al2, v_len, v_ln, v_rl0, v_rl1, v_rl2, v_rl3, v_rl4, v_rl5, v_cmp, v_cp, v_cp2, v_zC, v_zc, v_con, v_kc, v_and, v_an1, v_an0, v_or, v_or1, v_or0, v_not, v_nt, v_boo, v_bo, v_cnd, v_cd1, v_cd0, v_cnc, v_cc1, v_cc0, v_ev0, v_ev, v_e1, v_e2, v_cve, v_cv, v_cse, v_cs, v_skip, v_seq, v_sq0, v_sq1, v_sqr, v_sts, v_st, v_inc, v_put, v_pt, v_pt2, v_fop, v_fo, v_fo2, v_ast, v_as, v_as2, v_as3, v_aop, v_ao, v_ao2, v_ao3, v_exs, v_ex, v_ifs, v_if1, v_if0, v_ret, v_rt, v_rez, v_rz, v_rev, v_brk, v_sws, v_sw, v_sw2, v_run, v_rb, v_turn, v_tu1, v_tu0, v_tu2, v_tu3, fst1, snd1, Option.map_some, Option.getD_some, enA, en, stE, okb, narV, rf_toNat, rf_nn, List.getElem?_cons_zero, List.getElem?_cons_succ, w32_id, w64_id, ite_t, ite_f, Int.toNat_add, Int.toNat_mul, dec_t, dec_f, sM_0, e1, e3]
    · have e3 := r_num0 (l := l) (u := u) h1.mq h1.f0 t25
      have e4 := c_isNum0 (l := l) (u := u) h1.rq t25
      refine .inl ⟨_, _, .inr ⟨m, e2, e4⟩, ?_, h1.fo (k := 1) (by decide), fun x y hx => by rw [ud_n (by omega), ud_n (by omega)]⟩
      generalize ud (ud μM 0 7 ((a : Int) + 1)) 0 8 (ftA c N (a + 1) 1) = k2 at *
      simp -implicitDefEqProofs (disch := omega) [fX12_takeAfter, bX12_takeAfter, v_cop, v_c1, v_c2, v_c3, v_c4, v_c5, v_bin, v_bn, v_bn2, v_div, v_dv, v_dv2, v_une, v_un, v_loc, v_num, v_get, v_gt, v_ald, v_al, v_al2, v_len, v_ln, v_rl0, v_rl1, v_rl2, v_rl3, v_rl4, v_rl5, v_cmp, v_cp, v_cp2, v_zC, v_zc, v_con, v_kc, v_and, v_an1, v_an0, v_or, v_or1, v_or0, v_not, v_nt, v_boo, v_bo, v_cnd, v_cd1, v_cd0, v_cnc, v_cc1, v_cc0, v_ev0, v_ev, v_e1, v_e2, v_cve, v_cv, v_cse, v_cs, v_skip, v_seq, v_sq0, v_sq1, v_sqr, v_sts, v_st, v_inc, v_put, v_pt, v_pt2, v_fop, v_fo, v_fo2, v_ast, v_as, v_as2, v_as3, v_aop, v_ao, v_ao2, v_ao3, v_exs, v_ex, v_ifs, v_if1, v_if0, v_ret, v_rt, v_rez, v_rz, v_rev, v_brk, v_sws, v_sw, v_sw2, v_run, v_rb, v_turn, v_tu1, v_tu0, v_tu2, v_tu3, fst1, snd1, Option.map_some, Option.getD_some, enA, en, stE, okb, narV, rf_toNat, rf_nn, List.getElem?_cons_zero, List.getElem?_cons_succ, w32_id, w64_id, ite_t, ite_f, Int.toNat_add, Int.toNat_mul, dec_t, dec_f, sM_0, e1, e3]
  · rw [if_neg t] at e1
    have e2 := c_passed0 h.rq t
    have fp := ft_pos (c := c) (N := N) (a := a) (k := 1) (by decide)
    have e3 := r_numF (l := l) (u := u) (μ := ud μM 0 8 (ftA c N a 1)) ud_s fp
    refine .inl ⟨_, _, .inl e2, ?_, h.fo (k := 1) (by decide), fun x y hx => by rw [ud_n (by omega)]⟩
    generalize ud μM 0 8 (ftA c N a 1) = k2 at *
    simp -implicitDefEqProofs (disch := omega) [fX12_takeAfter, bX12_takeAfter, v_cop, v_c1, v_c2, v_c3, v_c4, v_c5, v_bin, v_bn, v_bn2, v_div, v_dv, v_dv2, v_une, v_un, v_loc, v_num, v_get, v_gt, v_ald, v_al, v_al2, v_len, v_ln, v_rl0, v_rl1, v_rl2, v_rl3, v_rl4, v_rl5, v_cmp, v_cp, v_cp2, v_zC, v_zc, v_con, v_kc, v_and, v_an1, v_an0, v_or, v_or1, v_or0, v_not, v_nt, v_boo, v_bo, v_cnd, v_cd1, v_cd0, v_cnc, v_cc1, v_cc0, v_ev0, v_ev, v_e1, v_e2, v_cve, v_cv, v_cse, v_cs, v_skip, v_seq, v_sq0, v_sq1, v_sqr, v_sts, v_st, v_inc, v_put, v_pt, v_pt2, v_fop, v_fo, v_fo2, v_ast, v_as, v_as2, v_as3, v_aop, v_ao, v_ao2, v_ao3, v_exs, v_ex, v_ifs, v_if1, v_if0, v_ret, v_rt, v_rez, v_rz, v_rev, v_brk, v_sws, v_sw, v_sw2, v_run, v_rb, v_turn, v_tu1, v_tu0, v_tu2, v_tu3, fst1, snd1, Option.map_some, Option.getD_some, enA, en, stE, okb, narV, rf_toNat, rf_nn, List.getElem?_cons_zero, List.getElem?_cons_succ, w32_id, w64_id, ite_t, ite_f, Int.toNat_add, Int.toNat_mul, dec_t, dec_f, sM_0, e1, e3]
set_option maxRecDepth 100000 in theorem takeAfterF {μ : Mem} {c : Nat → Int} {N T a w : Nat} {F l u wi : Int} (q : MDq μ c N T a) (h8 : μ 0 8 = F) (hF : 0 < F) (hw : w < 24) (hi : wi = (w : Int)) : fX12_takeAfter shM [(2, rf 0), (0, wi), (0, l), (0, u)] μ = some (0, μ) := by
  subst hi
  have e1 := r_takeWordF q h8 hF hw
  have e3 := r_numF (l := l) (u := u) h8 hF
  simp -implicitDefEqProofs (disch := omega) [fX12_takeAfter, bX12_takeAfter, v_cop, v_c1, v_c2, v_c3, v_c4, v_c5, v_bin, v_bn, v_bn2, v_div, v_dv, v_dv2, v_une, v_un, v_loc, v_num, v_get, v_gt, v_ald, v_al, v_al2, v_len, v_ln, v_rl0, v_rl1, v_rl2, v_rl3, v_rl4, v_rl5, v_cmp, v_cp, v_cp2, v_zC, v_zc, v_con, v_kc, v_and, v_an1, v_an0, v_or, v_or1, v_or0, v_not, v_nt, v_boo, v_bo, v_cnd, v_cd1, v_cd0, v_cnc, v_cc1, v_cc0, v_ev0, v_ev, v_e1, v_e2, v_cve, v_cv, v_cse, v_cs, v_skip, v_seq, v_sq0, v_sq1, v_sqr, v_sts, v_st, v_inc, v_put, v_pt, v_pt2, v_fop, v_fo, v_fo2, v_ast, v_as, v_as2, v_as3, v_aop, v_ao, v_ao2, v_ao3, v_exs, v_ex, v_ifs, v_if1, v_if0, v_ret, v_rt, v_rez, v_rz, v_rev, v_brk, v_sws, v_sw, v_sw2, v_run, v_rb, v_turn, v_tu1, v_tu0, v_tu2, v_tu3, fst1, snd1, Option.map_some, Option.getD_some, enA, en, stE, okb, narV, rf_toNat, rf_nn, List.getElem?_cons_zero, List.getElem?_cons_succ, w32_id, w64_id, ite_t, ite_f, Int.toNat_add, Int.toNat_mul, dec_t, dec_f, sM_0, e1, e3]
