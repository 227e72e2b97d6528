/-! the lines: both -/
set_option maxRecDepth 100000 in theorem PF.emit {mC mM μC μM : Mem} {c : Nat → Int} {N T d a K : Nat} {o v : Int} (h : PF mC mM μC μM c N T d a K) (hK : K + 1 ≤ a) : fX12_emit shM [(2, rf 0), (0, o), (0, v)] μM = some (0, emM μM K o v) ∧ PF mC mM μC (emM μM K o v) c N T d a (K + 1) := by
  have la := h.la
  refine ⟨r_emit h.mq.1 h.k0 (by omega), h.rq, h.mq.of (fun x y hx => by unfold emM; rw [ud_n (by omega), ud_n (by omega), ud_n (by omega)]) (by unfold emM; rw [ud_n (by omega), ud_n (by omega), ud_n (by omega)]; exact h.a7) la.1, by unfold emM; rw [ud_n (by omega), ud_n (by omega), ud_n (by omega)]; exact h.f0, by unfold emM; rw [ud_s]; omega, hK, h.fc, fun x y hx => ?_⟩
  unfold emM
  rw [ud_n (fun z => hx (by unfold ZM; omega)), ud_n (fun z => hx (by unfold ZM; omega)), ud_n (fun z => hx (by unfold ZM; omega))]
  exact h.fm x y hx
set_option maxRecDepth 100000 in theorem FB.ofl {fl fl' : Nat → Int} {n P M : Nat} (B : FB fl n P M) (e : ∀ i, i < 183 → fl' i = fl i) : FB fl' n P M := by
  have n1 := B.n1
  have M1 := B.M1
  exact ⟨by rw [e _ (by omega)]; exact B.P0, B.P1, B.P2, by rw [e _ (by omega)]; exact B.n0, B.n1, B.n2, by rw [e _ (by omega)]; exact B.M0, B.M1, fun x hx => by rw [e _ (by omega)]; exact B.ki x hx, fun x hx => by rw [e _ (by omega)]; exact B.to x hx, fun x y hx hy => by rw [e _ (by omega)]; exact B.li x y hx hy, fun x y hx hy => by rw [e _ (by omega), e _ (by omega)]; exact B.sy x y hx hy, fun m hm => by rw [e _ (by omega)]; exact B.gr m hm, fun m hm => by rw [e _ (by omega)]; exact B.fa m hm⟩
set_option maxRecDepth 100000 in theorem FR.ofl {μ : Mem} {h n M : Nat} {fl fl' : Nat → Int} (R : FR μ h fl n M) (n1 : n ≤ 12) (M1 : M ≤ 6) (e : ∀ i, i < 183 → fl' i = fl i) : FR μ h fl' n M := by
  refine ⟨by rw [e _ (by omega)]; exact R.pl, by rw [e _ (by omega)]; exact R.be, ?_, by rw [e _ (by omega)]; exact R.me, fun x hx => by rw [e _ (by omega)]; exact R.ki x hx, fun x hx => by rw [e _ (by omega)]; exact R.to x hx, fun i hi => by rw [e _ (by omega)]; exact R.li i hi, fun m hm => by rw [e _ (by omega)]; exact R.gr m hm, fun m hm => by rw [e _ (by omega)]; exact R.fa m hm⟩
  rw [R.pa]
  unfold prS
  exact sum_congr (fun x hx => sum_congr (fun y hy => by rw [e _ (by omega)]))
set_option maxRecDepth 100000 in theorem c_begin {μ : Mem} {cc : Nat} (h : shC[cc]? = some (4, 0)) : fX4_begin shC [(2, rf cc)] μ = some (0, ud (ud μ cc 2 0) cc 3 1) := by
  simp -implicitDefEqProofs (disch := omega) [fX4_begin, bX4_begin, v_cop, v_c1, v_c2, v_c3, v_c4, v_c5, v_bin, v_bn, v_bn2, v_div, v_dv, v_dv2, v_une, v_un, v_loc, v_num, v_get, v_gt, v_ald, v_al, v_al2, v_len, v_ln, v_rl0, v_rl1, v_rl2, v_rl3, v_rl4, v_rl5, v_cmp, v_cp, v_cp2, v_zC, v_zc, v_con, v_kc, v_and, v_an1, v_an0, v_or, v_or1, v_or0, v_not, v_nt, v_boo, v_bo, v_cnd, v_cd1, v_cd0, v_cnc, v_cc1, v_cc0, v_ev0, v_ev, v_e1, v_e2, v_cve, v_cv, v_cse, v_cs, v_skip, v_seq, v_sq0, v_sq1, v_sqr, v_sts, v_st, v_inc, v_put, v_pt, v_pt2, v_fop, v_fo, v_fo2, v_ast, v_as, v_as2, v_as3, v_aop, v_ao, v_ao2, v_ao3, v_exs, v_ex, v_ifs, v_if1, v_if0, v_ret, v_rt, v_rez, v_rz, v_rev, v_brk, v_sws, v_sw, v_sw2, v_run, v_rb, v_turn, v_tu1, v_tu0, v_tu2, v_tu3, fst1, snd1, Option.map_some, Option.getD_some, enA, en, stE, okb, narV, rf_toNat, rf_nn, List.getElem?_cons_zero, List.getElem?_cons_succ, w32_id, w64_id, ite_t, ite_f, Int.toNat_add, Int.toNat_mul, dec_t, dec_f, h]

set_option maxRecDepth 100000 in theorem b_rule_l {mC mM μC μM : Mem} {c : Nat → Int} {N T d a K n P M : Nat} (h : PF mC mM μC μM c N T d a K) (C : CN μC μM c N T d n P M K) (t : tkA c N a = 4) : BO a mC mM (fX8_readLaw shC [(2, rf 27), (2, rf (d + 6))] μC) (fX12_readRule shM [(2, rf 0)] μM) c N T d := by
  have hd := h.rq.1
  have aT := h.lt (by omega)
  have lT := h.la
  have r0 := h.rq.2.2.2.1
  have pm := h.mq.1
  have e8 := r_isWord (w := 8) h.mq h.f0 (by decide)
  rw [show ((8 : Nat) : Int) = 8 from rfl, t, if_neg (by decide)] at e8
  have h0 : PF mC mM μC (ud μM 0 18 0) c N T d a K := h.ref (fun x y hx => by rw [ud_n (by omega)])
  have s18 : ud μM 0 18 0 0 18 = 0 := ud_s
  have q6 : ∀ y, ud μM 0 18 0 6 y = μM 6 y := fun y => by rw [ud_n (by omega)]
  have p10 := h0.mq.1.p10
  have oc : shC[d + 6]? = some (4, 0) := (h.rq.law (cc := d + 6) (.inl rfl)).1
  rcases C.ll with ⟨g1, g2, g3, g4⟩ | ⟨g0, u, v, g1, -⟩
  · -- not told yet
    have g1' : ud μM 0 18 0 6 373 = -1 := (q6 373).trans g1
    have h0c : PF mC mM (ud (ud (ud μC 27 4 (rf (d + 6))) (d + 6) 2 0) (d + 6) 3 1) (ud μM 0 18 0) c N T d a K := h0.cls (fun x y hx => by rw [ud_n (fun z => hx (by unfold ZC; omega)), ud_n (fun z => hx (by unfold ZC; omega)), ud_n (fun z => hx (by unfold ZC; omega))])
    obtain ⟨m1, e1, h1, D1⟩ := h0c.adv aT
    have cb := c_begin (μ := ud μC 27 4 (rf (d + 6))) oc
    have x7 := h0.a7
    have k13 := h1.k0
    have EC1 : ∀ x y, ¬ ((x = 1 ∧ 2 ≤ y) ∨ (x = 27 ∧ y = 4) ∨ (x = d + 6 ∧ (y = 2 ∨ y = 3))) → m1 x y = μC x y := fun x y hx => by rw [D1 _ _ (by omega), ud_n (by omega), ud_n (by omega), ud_n (by omega)]
    have m274 : m1 27 4 = rf (d + 6) := by rw [D1 _ _ (by omega), ud_n (by omega), ud_n (by omega), ud_s]
    have mc2 : m1 (d + 6) 2 = 0 := by rw [D1 _ _ (by omega), ud_n (by omega), ud_s]
    have mc3 : m1 (d + 6) 3 = 1 := by rw [D1 _ _ (by omega), ud_s]
    have m0r : ud (ud (ud μC 27 4 (rf (d + 6))) (d + 6) 2 0) (d + 6) 3 1 27 0 = rf 1 := h0c.rq.2.2.2.1
    generalize hm0 : ud (ud (ud μC 27 4 (rf (d + 6))) (d + 6) 2 0) (d + 6) 3 1 = m0 at *
    have EM1 : ∀ x y, ¬ (x = 0 ∧ (y = 7 ∨ y = 18)) → ud (ud μM 0 18 0) 0 7 ((a : Int) + 1) x y = μM x y := fun x y hx => by rw [ud_n (by omega), ud_n (by omega)]
    have w18 : ud (ud μM 0 18 0) 0 7 ((a : Int) + 1) 0 18 = 0 := by rw [ud_n (by omega), ud_s]
    generalize hk0 : ud μM 0 18 0 = k0 at *
    generalize hk1 : ud k0 0 7 ((a : Int) + 1) = k1 at *
    have p101 := h1.mq.1.p10
    have h2 : PF mC mM m1 (ud k1 6 373 (K : Int)) c N T d (a + 1) (K + 0) := h1.ref (fun x y hx => by rw [ud_n (by omega)])
    have L0 : LwS mC mM m1 (ud k1 6 373 (K : Int)) c N T d (d + 6) lieW K 0 m1 (ud k1 6 373 (K : Int)) (a + 1) 0 0 := ⟨h2, .inl ⟨rfl, rfl, rfl⟩, m274, by rw [ud_n (by omega)]; exact w18, ⟨mc2, fun i hi => by omega, fun i hi => by omega, fun i hi => by omega, rfl⟩, fun _ _ _ => rfl, fun _ _ _ => rfl⟩
    have ka := h.ka
    have ih := b_law m1 (ud k1 6 373 (K : Int)) (a + 1) 0 0 L0 (by omega) (by decide) (by decide)
    rw [show ((0 : Nat) : Int) = 0 from rfl] at ih
    rcases ih with ⟨a', j', m', k', e2, e3, h3, l1, l2⟩ | ⟨m', k', e2, e3, fx⟩
    · obtain ⟨em, h4⟩ := h3.1.emit (o := 0) (v := 0) (by omega)
      have e2' : fX8_readJoined shC [(2, rf 27), (0, 0), (0, 0)] m1 = some (1, m') := e2
      have e3' : fX12_all shM [(2, rf 0), (0, 0)] (ud k1 6 373 (K : Int)) = some (0, k') := e3
      refine .inl ⟨a', K + j' + 1, n, P, M, m', emM k' (K + j') 0 0, ?_, ?_, by omega, h4, ?_⟩
      · clear h3 h4 em e3 e3' L0 h2 C
        simp -implicitDefEqProofs (disch := omega) [fX8_readLaw, bX8_readLaw, v_cop, v_c1, v_c2, v_c3, v_c4, v_c5, v_bin, v_bn, v_bn2, v_div, v_dv, v_dv2, v_une, v_un, v_loc, v_num, v_get, v_gt, v_ald, v_al, v_al2, v_len, v_ln, v_rl0, v_rl1, v_rl2, v_rl3, v_rl4, v_rl5, v_cmp, v_cp, v_cp2, v_zC, v_zc, v_con, v_kc, v_and, v_an1, v_an0, v_or, v_or1, v_or0, v_not, v_nt, v_boo, v_bo, v_cnd, v_cd1, v_cd0, v_cnc, v_cc1, v_cc0, v_ev0, v_ev, v_e1, v_e2, v_cve, v_cv, v_cse, v_cs, v_skip, v_seq, v_sq0, v_sq1, v_sqr, v_sts, v_st, v_inc, v_put, v_pt, v_pt2, v_fop, v_fo, v_fo2, v_ast, v_as, v_as2, v_as3, v_aop, v_ao, v_ao2, v_ao3, v_exs, v_ex, v_ifs, v_if1, v_if0, v_ret, v_rt, v_rez, v_rz, v_rev, v_brk, v_sws, v_sw, v_sw2, v_run, v_rb, v_turn, v_tu1, v_tu0, v_tu2, v_tu3, fst1, snd1, Option.map_some, Option.getD_some, enA, en, stE, okb, narV, rf_toNat, rf_nn, List.getElem?_cons_zero, List.getElem?_cons_succ, w32_id, w64_id, ite_t, ite_f, Int.toNat_add, Int.toNat_mul, dec_t, dec_f, sC_27, sC_1, oc, g2, r0, ud_s, cb, hm0, m0r, e1, e2']
      · clear h3 h4 e2 e2' L0 C
        generalize emM k' (K + j') 0 0 = k3 at *
        generalize hk2 : ud k1 6 373 (K : Int) = k2 at *
        simp -implicitDefEqProofs (disch := omega) [fX12_readRule, bX12_readRule, v_cop, v_c1, v_c2, v_c3, v_c4, v_c5, v_bin, v_bn, v_bn2, v_div, v_dv, v_dv2, v_une, v_un, v_loc, v_num, v_get, v_gt, v_ald, v_al, v_al2, v_len, v_ln, v_rl0, v_rl1, v_rl2, v_rl3, v_rl4, v_rl5, v_cmp, v_cp, v_cp2, v_zC, v_zc, v_con, v_kc, v_and, v_an1, v_an0, v_or, v_or1, v_or0, v_not, v_nt, v_boo, v_bo, v_cnd, v_cd1, v_cd0, v_cnc, v_cc1, v_cc0, v_ev0, v_ev, v_e1, v_e2, v_cve, v_cv, v_cse, v_cs, v_skip, v_seq, v_sq0, v_sq1, v_sqr, v_sts, v_st, v_inc, v_put, v_pt, v_pt2, v_fop, v_fo, v_fo2, v_ast, v_as, v_as2, v_as3, v_aop, v_ao, v_ao2, v_ao3, v_exs, v_ex, v_ifs, v_if1, v_if0, v_ret, v_rt, v_rez, v_rz, v_rev, v_brk, v_sws, v_sw, v_sw2, v_run, v_rb, v_turn, v_tu1, v_tu0, v_tu2, v_tu3, fst1, snd1, Option.map_some, Option.getD_some, enA, en, stE, okb, narV, rf_toNat, rf_nn, List.getElem?_cons_zero, List.getElem?_cons_succ, w32_id, w64_id, ite_t, ite_f, Int.toNat_add, Int.toNat_mul, dec_t, dec_f, sM_0, sM_6, e8, hk0, s18, p10, g1', x7, hk1, p101, k13, hk2, e3', em]
      · obtain ⟨p3, -, -, -, Lw, fC, fM⟩ := h3
        have la3 := p3.la
        have EC : ∀ x y, ¬ ((x = 1 ∧ 2 ≤ y) ∨ (x = 27 ∧ (y = 4 ∨ y = 5)) ∨ (x = d + 6 ∧ (y = 2 ∨ y = 3)) ∨ x = d + 6 + 1) → m' x y = μC x y := fun x y hx => by rw [fC _ _ (by omega)]; exact EC1 x y (by omega)
        have EM : ∀ x y, ¬ ((x = 0 ∧ (y = 7 ∨ y = 8 ∨ y = 13 ∨ y = 18)) ∨ (x = 6 ∧ y = 373) ∨ ((x = 7 ∨ x = 8) ∧ 1100 + K ≤ y)) → emM k' (K + j') 0 0 x y = μM x y := fun x y hx => by
          unfold emM
          rw [ud_n (by omega), ud_n (by omega), ud_n (by omega), fM _ _ (by omega), ud_n (by omega)]
          exact EM1 x y (by omega)
        have F183 : emM k' (K + j') 0 0 6 373 = (K : Int) := by
          unfold emM
          rw [ud_n (by omega), ud_n (by omega), ud_n (by omega), fM _ _ (by omega), ud_s]
        have c3 : m' (d + 6) 3 = 1 := by rw [fC _ _ (by omega)]; exact mc3
        have Lw' : LwP m' (emM k' (K + j') 0 0) (d + 6) lieW K j' (0 + 1) := Lw.of rfl (fun i hi => rfl) (fun i hi => by
          show emM k' (K + j') 0 0 7 (1100 + (K + i)) = k' 7 (1100 + (K + i))
          unfold emM; rw [ud_n (by omega), ud_n (by omega), ud_n (by omega)]) (fun i hi => by
          show emM k' (K + j') 0 0 8 (1100 + (K + i)) = k' 8 (1100 + (K + i))
          unfold emM; rw [ud_n (by omega), ud_n (by omega), ud_n (by omega)])
        have o0 : opD (emM k' (K + j') 0 0) (K + j') = 0 := by
          show emM k' (K + j') 0 0 7 (1100 + (K + j')) = 0
          unfold emM; rw [ud_n (by omega), ud_n (by omega), ud_s]
        generalize emM k' (K + j') 0 0 = k3 at *
        have fl : ∀ i, i ≠ 183 → fld k3 i = fld μM i := fun i hi => EM _ _ (by omega)
        have n1 := C.fb.n1
        have M1 := C.fb.M1
        refine ⟨⟨by rw [EM _ _ (by omega), EC _ _ (by omega)]; exact C.1.1, by rw [EC _ _ (by omega)]; exact C.1.2⟩, C.fb.ofl (fun i hi => fl i (by omega)), (C.fr.of (fun x y h1 h2 => EC _ _ (by omega))).ofl n1 M1 (fun i hi => fl i (by omega)), fun x y hx hy hz => by rw [fl _ (by omega)]; exact C.lz x y hx hy hz, C.nr.of (fun x y hx => EC _ _ (by omega)) (fun x y hx => EM _ _ (by omega)), ?_, ?_⟩
        · refine .inr ⟨c3, K, j', F183, ⟨by omega, by omega, Lw'.2.2.1, o0, Lw'.2.2.2.1, by rw [Lw'.2.2.2.2]; decide⟩, by omega, Lw'.1, Lw'.2.1⟩
        · have q := (C.ls.cls (μ' := m') (fun x y hx => EC _ _ (by omega))).ref (op' := opD k3) (arg' := agD k3) (K' := K + j' + 1) (by omega) (fun i hi => EM _ _ (by omega)) (fun i hi => EM _ _ (by omega))
          rw [← fl 184 (by decide)] at q
          exact q
    · obtain ⟨k3, em, fx2, -⟩ := fx.emit (o := 0) (v := 0) (a := a) (Nat.le_refl _) (by omega) lT.2
      have e2' : fX8_readJoined shC [(2, rf 27), (0, 0), (0, 0)] m1 = some (0, m') := e2
      have e3' : fX12_all shM [(2, rf 0), (0, 0)] (ud k1 6 373 (K : Int)) = some (0, k') := e3
      refine .inr ⟨m', k3, ?_, ?_, fx2.fo (by omega)⟩
      · clear em e3 e3' L0 h2 C fx fx2
        simp -implicitDefEqProofs (disch := omega) [fX8_readLaw, bX8_readLaw, v_cop, v_c1, v_c2, v_c3, v_c4, v_c5, v_bin, v_bn, v_bn2, v_div, v_dv, v_dv2, v_une, v_un, v_loc, v_num, v_get, v_gt, v_ald, v_al, v_al2, v_len, v_ln, v_rl0, v_rl1, v_rl2, v_rl3, v_rl4, v_rl5, v_cmp, v_cp, v_cp2, v_zC, v_zc, v_con, v_kc, v_and, v_an1, v_an0, v_or, v_or1, v_or0, v_not, v_nt, v_boo, v_bo, v_cnd, v_cd1, v_cd0, v_cnc, v_cc1, v_cc0, v_ev0, v_ev, v_e1, v_e2, v_cve, v_cv, v_cse, v_cs, v_skip, v_seq, v_sq0, v_sq1, v_sqr, v_sts, v_st, v_inc, v_put, v_pt, v_pt2, v_fop, v_fo, v_fo2, v_ast, v_as, v_as2, v_as3, v_aop, v_ao, v_ao2, v_ao3, v_exs, v_ex, v_ifs, v_if1, v_if0, v_ret, v_rt, v_rez, v_rz, v_rev, v_brk, v_sws, v_sw, v_sw2, v_run, v_rb, v_turn, v_tu1, v_tu0, v_tu2, v_tu3, fst1, snd1, Option.map_some, Option.getD_some, enA, en, stE, okb, narV, rf_toNat, rf_nn, List.getElem?_cons_zero, List.getElem?_cons_succ, w32_id, w64_id, ite_t, ite_f, Int.toNat_add, Int.toNat_mul, dec_t, dec_f, sC_27, sC_1, oc, g2, r0, ud_s, cb, hm0, m0r, e1, e2']
      · clear e2 e2' L0 C fx fx2
        generalize hk2 : ud k1 6 373 (K : Int) = k2 at *
        simp -implicitDefEqProofs (disch := omega) [fX12_readRule, bX12_readRule, v_cop, v_c1, v_c2, v_c3, v_c4, v_c5, v_bin, v_bn, v_bn2, v_div, v_dv, v_dv2, v_une, v_un, v_loc, v_num, v_get, v_gt, v_ald, v_al, v_al2, v_len, v_ln, v_rl0, v_rl1, v_rl2, v_rl3, v_rl4, v_rl5, v_cmp, v_cp, v_cp2, v_zC, v_zc, v_con, v_kc, v_and, v_an1, v_an0, v_or, v_or1, v_or0, v_not, v_nt, v_boo, v_bo, v_cnd, v_cd1, v_cd0, v_cnc, v_cc1, v_cc0, v_ev0, v_ev, v_e1, v_e2, v_cve, v_cv, v_cse, v_cs, v_skip, v_seq, v_sq0, v_sq1, v_sqr, v_sts, v_st, v_inc, v_put, v_pt, v_pt2, v_fop, v_fo, v_fo2, v_ast, v_as, v_as2, v_as3, v_aop, v_ao, v_ao2, v_ao3, v_exs, v_ex, v_ifs, v_if1, v_if0, v_ret, v_rt, v_rez, v_rz, v_rev, v_brk, v_sws, v_sw, v_sw2, v_run, v_rb, v_turn, v_tu1, v_tu0, v_tu2, v_tu3, fst1, snd1, Option.map_some, Option.getD_some, enA, en, stE, okb, narV, rf_toNat, rf_nn, List.getElem?_cons_zero, List.getElem?_cons_succ, w32_id, w64_id, ite_t, ite_f, Int.toNat_add, Int.toNat_mul, dec_t, dec_f, sM_0, sM_6, e8, hk0, s18, p10, g1', x7, hk1, p101, k13, hk2, e3', em]
  · have g1' : ud μM 0 18 0 6 373 = (u : Int) := (q6 373).trans g1
    have ew := c_wrong h.rq (k := 3) (by decide) (by decide)
    have er := r_wrong h0.mq h0.f0 (k := 3) (by decide) (by decide)
    refine .inr ⟨_, _, ?_, ?_, h0.fo (k := 3) (by decide)⟩
    · generalize ud μC 27 5 (ftA c N a 3) = m1 at *
      simp -implicitDefEqProofs (disch := omega) [fX8_readLaw, bX8_readLaw, v_cop, v_c1, v_c2, v_c3, v_c4, v_c5, v_bin, v_bn, v_bn2, v_div, v_dv, v_dv2, v_une, v_un, v_loc, v_num, v_get, v_gt, v_ald, v_al, v_al2, v_len, v_ln, v_rl0, v_rl1, v_rl2, v_rl3, v_rl4, v_rl5, v_cmp, v_cp, v_cp2, v_zC, v_zc, v_con, v_kc, v_and, v_an1, v_an0, v_or, v_or1, v_or0, v_not, v_nt, v_boo, v_bo, v_cnd, v_cd1, v_cd0, v_cnc, v_cc1, v_cc0, v_ev0, v_ev, v_e1, v_e2, v_cve, v_cv, v_cse, v_cs, v_skip, v_seq, v_sq0, v_sq1, v_sqr, v_sts, v_st, v_inc, v_put, v_pt, v_pt2, v_fop, v_fo, v_fo2, v_ast, v_as, v_as2, v_as3, v_aop, v_ao, v_ao2, v_ao3, v_exs, v_ex, v_ifs, v_if1, v_if0, v_ret, v_rt, v_rez, v_rz, v_rev, v_brk, v_sws, v_sw, v_sw2, v_run, v_rb, v_turn, v_tu1, v_tu0, v_tu2, v_tu3, fst1, snd1, Option.map_some, Option.getD_some, enA, en, stE, okb, narV, rf_toNat, rf_nn, List.getElem?_cons_zero, List.getElem?_cons_succ, w32_id, w64_id, ite_t, ite_f, Int.toNat_add, Int.toNat_mul, dec_t, dec_f, sC_27, sC_1, oc, g0, ew]
    · generalize hk0 : ud μM 0 18 0 = k0 at *
      generalize ud k0 0 8 (ftA c N a 3) = k1 at *
      simp -implicitDefEqProofs (disch := omega) [fX12_readRule, bX12_readRule, v_cop, v_c1, v_c2, v_c3, v_c4, v_c5, v_bin, v_bn, v_bn2, v_div, v_dv, v_dv2, v_une, v_un, v_loc, v_num, v_get, v_gt, v_ald, v_al, v_al2, v_len, v_ln, v_rl0, v_rl1, v_rl2, v_rl3, v_rl4, v_rl5, v_cmp, v_cp, v_cp2, v_zC, v_zc, v_con, v_kc, v_and, v_an1, v_an0, v_or, v_or1, v_or0, v_not, v_nt, v_boo, v_bo, v_cnd, v_cd1, v_cd0, v_cnc, v_cc1, v_cc0, v_ev0, v_ev, v_e1, v_e2, v_cve, v_cv, v_cse, v_cs, v_skip, v_seq, v_sq0, v_sq1, v_sqr, v_sts, v_st, v_inc, v_put, v_pt, v_pt2, v_fop, v_fo, v_fo2, v_ast, v_as, v_as2, v_as3, v_aop, v_ao, v_ao2, v_ao3, v_exs, v_ex, v_ifs, v_if1, v_if0, v_ret, v_rt, v_rez, v_rz, v_rev, v_brk, v_sws, v_sw, v_sw2, v_run, v_rb, v_turn, v_tu1, v_tu0, v_tu2, v_tu3, fst1, snd1, Option.map_some, Option.getD_some, enA, en, stE, okb, narV, rf_toNat, rf_nn, List.getElem?_cons_zero, List.getElem?_cons_succ, w32_id, w64_id, ite_t, ite_f, Int.toNat_add, Int.toNat_mul, dec_t, dec_f, sM_0, sM_6, e8, hk0, s18, p10, g1', er]
set_option maxRecDepth 100000 in theorem b_rule_s {mC mM μC μM : Mem} {c : Nat → Int} {N T d a K n P M : Nat} (h : PF mC mM μC μM c N T d a K) (C : CN μC μM c N T d n P M K) (t : tkA c N a = 8) : BO a mC mM (fX8_readLaw shC [(2, rf 27), (2, rf (d + 9))] μC) (fX12_readRule shM [(2, rf 0)] μM) c N T d := by
  have hd := h.rq.1
  have aT := h.lt (by omega)
  have lT := h.la
  have r0 := h.rq.2.2.2.1
  have pm := h.mq.1
  have e8 := r_isWord (w := 8) h.mq h.f0 (by decide)
  rw [show ((8 : Nat) : Int) = 8 from rfl, t, if_pos ⟨rfl, rfl⟩] at e8
  have h0 : PF mC mM μC (ud μM 0 18 1) c N T d a K := h.ref (fun x y hx => by rw [ud_n (by omega)])
  have s18 : ud μM 0 18 1 0 18 = 1 := ud_s
  have q6 : ∀ y, ud μM 0 18 1 6 y = μM 6 y := fun y => by rw [ud_n (by omega)]
  have p10 := h0.mq.1.p10
  have oc : shC[d + 9]? = some (4, 0) := (h.rq.law (cc := d + 9) (.inr rfl)).1
  rcases C.ls with ⟨g1, g2, g3, g4⟩ | ⟨g0, u, v, g1, -⟩
  · -- not told yet
    have g1' : ud μM 0 18 1 6 374 = -1 := (q6 374).trans g1
    have h0c : PF mC mM (ud (ud (ud μC 27 4 (rf (d + 9))) (d + 9) 2 0) (d + 9) 3 1) (ud μM 0 18 1) c N T d a K := h0.cls (fun x y hx => by rw [ud_n (fun z => hx (by unfold ZC; omega)), ud_n (fun z => hx (by unfold ZC; omega)), ud_n (fun z => hx (by unfold ZC; omega))])
    obtain ⟨m1, e1, h1, D1⟩ := h0c.adv aT
    have cb := c_begin (μ := ud μC 27 4 (rf (d + 9))) oc
    have x7 := h0.a7
    have k13 := h1.k0
    have EC1 : ∀ x y, ¬ ((x = 1 ∧ 2 ≤ y) ∨ (x = 27 ∧ y = 4) ∨ (x = d + 9 ∧ (y = 2 ∨ y = 3))) → m1 x y = μC x y := fun x y hx => by rw [D1 _ _ (by omega), ud_n (by omega), ud_n (by omega), ud_n (by omega)]
    have m274 : m1 27 4 = rf (d + 9) := by rw [D1 _ _ (by omega), ud_n (by omega), ud_n (by omega), ud_s]
    have mc2 : m1 (d + 9) 2 = 0 := by rw [D1 _ _ (by omega), ud_n (by omega), ud_s]
    have mc3 : m1 (d + 9) 3 = 1 := by rw [D1 _ _ (by omega), ud_s]
    have m0r : ud (ud (ud μC 27 4 (rf (d + 9))) (d + 9) 2 0) (d + 9) 3 1 27 0 = rf 1 := h0c.rq.2.2.2.1
    generalize hm0 : ud (ud (ud μC 27 4 (rf (d + 9))) (d + 9) 2 0) (d + 9) 3 1 = m0 at *
    have EM1 : ∀ x y, ¬ (x = 0 ∧ (y = 7 ∨ y = 18)) → ud (ud μM 0 18 1) 0 7 ((a : Int) + 1) x y = μM x y := fun x y hx => by rw [ud_n (by omega), ud_n (by omega)]
    have w18 : ud (ud μM 0 18 1) 0 7 ((a : Int) + 1) 0 18 = 1 := by rw [ud_n (by omega), ud_s]
    generalize hk0 : ud μM 0 18 1 = k0 at *
    generalize hk1 : ud k0 0 7 ((a : Int) + 1) = k1 at *
    have p101 := h1.mq.1.p10
    have h2 : PF mC mM m1 (ud k1 6 374 (K : Int)) c N T d (a + 1) (K + 0) := h1.ref (fun x y hx => by rw [ud_n (by omega)])
    have L0 : LwS mC mM m1 (ud k1 6 374 (K : Int)) c N T d (d + 9) strW K 1 m1 (ud k1 6 374 (K : Int)) (a + 1) 0 0 := ⟨h2, .inr ⟨rfl, rfl, rfl⟩, m274, by rw [ud_n (by omega)]; exact w18, ⟨mc2, fun i hi => by omega, fun i hi => by omega, fun i hi => by omega, rfl⟩, fun _ _ _ => rfl, fun _ _ _ => rfl⟩
    have ka := h.ka
    have ih := b_law m1 (ud k1 6 374 (K : Int)) (a + 1) 0 0 L0 (by omega) (by decide) (by decide)
    rw [show ((0 : Nat) : Int) = 0 from rfl] at ih
    rcases ih with ⟨a', j', m', k', e2, e3, h3, l1, l2⟩ | ⟨m', k', e2, e3, fx⟩
    · obtain ⟨em, h4⟩ := h3.1.emit (o := 0) (v := 0) (by omega)
      have e2' : fX8_readJoined shC [(2, rf 27), (0, 0), (0, 0)] m1 = some (1, m') := e2
      have e3' : fX12_all shM [(2, rf 0), (0, 0)] (ud k1 6 374 (K : Int)) = some (0, k') := e3
      refine .inl ⟨a', K + j' + 1, n, P, M, m', emM k' (K + j') 0 0, ?_, ?_, by omega, h4, ?_⟩
      · clear h3 h4 em e3 e3' L0 h2 C
        simp -implicitDefEqProofs (disch := omega) [fX8_readLaw, bX8_readLaw, v_cop, v_c1, v_c2, v_c3, v_c4, v_c5, v_bin, v_bn, v_bn2, v_div, v_dv, v_dv2, v_une, v_un, v_loc, v_num, v_get, v_gt, v_ald, v_al, v_al2, v_len, v_ln, v_rl0, v_rl1, v_rl2, v_rl3, v_rl4, v_rl5, v_cmp, v_cp, v_cp2, v_zC, v_zc, v_con, v_kc, v_and, v_an1, v_an0, v_or, v_or1, v_or0, v_not, v_nt, v_boo, v_bo, v_cnd, v_cd1, v_cd0, v_cnc, v_cc1, v_cc0, v_ev0, v_ev, v_e1, v_e2, v_cve, v_cv, v_cse, v_cs, v_skip, v_seq, v_sq0, v_sq1, v_sqr, v_sts, v_st, v_inc, v_put, v_pt, v_pt2, v_fop, v_fo, v_fo2, v_ast, v_as, v_as2, v_as3, v_aop, v_ao, v_ao2, v_ao3, v_exs, v_ex, v_ifs, v_if1, v_if0, v_ret, v_rt, v_rez, v_rz, v_rev, v_brk, v_sws, v_sw, v_sw2, v_run, v_rb, v_turn, v_tu1, v_tu0, v_tu2, v_tu3, fst1, snd1, Option.map_some, Option.getD_some, enA, en, stE, okb, narV, rf_toNat, rf_nn, List.getElem?_cons_zero, List.getElem?_cons_succ, w32_id, w64_id, ite_t, ite_f, Int.toNat_add, Int.toNat_mul, dec_t, dec_f, sC_27, sC_1, oc, g2, r0, ud_s, cb, hm0, m0r, e1, e2']
      · clear h3 h4 e2 e2' L0 C
        generalize emM k' (K + j') 0 0 = k3 at *
        generalize hk2 : ud k1 6 374 (K : Int) = k2 at *
        simp -implicitDefEqProofs (disch := omega) [fX12_readRule, bX12_readRule, v_cop, v_c1, v_c2, v_c3, v_c4, v_c5, v_bin, v_bn, v_bn2, v_div, v_dv, v_dv2, v_une, v_un, v_loc, v_num, v_get, v_gt, v_ald, v_al, v_al2, v_len, v_ln, v_rl0, v_rl1, v_rl2, v_rl3, v_rl4, v_rl5, v_cmp, v_cp, v_cp2, v_zC, v_zc, v_con, v_kc, v_and, v_an1, v_an0, v_or, v_or1, v_or0, v_not, v_nt, v_boo, v_bo, v_cnd, v_cd1, v_cd0, v_cnc, v_cc1, v_cc0, v_ev0, v_ev, v_e1, v_e2, v_cve, v_cv, v_cse, v_cs, v_skip, v_seq, v_sq0, v_sq1, v_sqr, v_sts, v_st, v_inc, v_put, v_pt, v_pt2, v_fop, v_fo, v_fo2, v_ast, v_as, v_as2, v_as3, v_aop, v_ao, v_ao2, v_ao3, v_exs, v_ex, v_ifs, v_if1, v_if0, v_ret, v_rt, v_rez, v_rz, v_rev, v_brk, v_sws, v_sw, v_sw2, v_run, v_rb, v_turn, v_tu1, v_tu0, v_tu2, v_tu3, fst1, snd1, Option.map_some, Option.getD_some, enA, en, stE, okb, narV, rf_toNat, rf_nn, List.getElem?_cons_zero, List.getElem?_cons_succ, w32_id, w64_id, ite_t, ite_f, Int.toNat_add, Int.toNat_mul, dec_t, dec_f, sM_0, sM_6, e8, hk0, s18, p10, g1', x7, hk1, p101, k13, hk2, e3', em]
      · obtain ⟨p3, -, -, -, Lw, fC, fM⟩ := h3
        have la3 := p3.la
        have EC : ∀ x y, ¬ ((x = 1 ∧ 2 ≤ y) ∨ (x = 27 ∧ (y = 4 ∨ y = 5)) ∨ (x = d + 9 ∧ (y = 2 ∨ y = 3)) ∨ x = d + 9 + 1) → m' x y = μC x y := fun x y hx => by rw [fC _ _ (by omega)]; exact EC1 x y (by omega)
        have EM : ∀ x y, ¬ ((x = 0 ∧ (y = 7 ∨ y = 8 ∨ y = 13 ∨ y = 18)) ∨ (x = 6 ∧ y = 374) ∨ ((x = 7 ∨ x = 8) ∧ 1100 + K ≤ y)) → emM k' (K + j') 0 0 x y = μM x y := fun x y hx => by
          unfold emM
          rw [ud_n (by omega), ud_n (by omega), ud_n (by omega), fM _ _ (by omega), ud_n (by omega)]
          exact EM1 x y (by omega)
        have F183 : emM k' (K + j') 0 0 6 374 = (K : Int) := by
          unfold emM
          rw [ud_n (by omega), ud_n (by omega), ud_n (by omega), fM _ _ (by omega), ud_s]
        have c3 : m' (d + 9) 3 = 1 := by rw [fC _ _ (by omega)]; exact mc3
        have Lw' : LwP m' (emM k' (K + j') 0 0) (d + 9) strW K j' (0 + 1) := Lw.of rfl (fun i hi => rfl) (fun i hi => by
          show emM k' (K + j') 0 0 7 (1100 + (K + i)) = k' 7 (1100 + (K + i))
          unfold emM; rw [ud_n (by omega), ud_n (by omega), ud_n (by omega)]) (fun i hi => by
          show emM k' (K + j') 0 0 8 (1100 + (K + i)) = k' 8 (1100 + (K + i))
          unfold emM; rw [ud_n (by omega), ud_n (by omega), ud_n (by omega)])
        have o0 : opD (emM k' (K + j') 0 0) (K + j') = 0 := by
          show emM k' (K + j') 0 0 7 (1100 + (K + j')) = 0
          unfold emM; rw [ud_n (by omega), ud_n (by omega), ud_s]
        generalize emM k' (K + j') 0 0 = k3 at *
        have fl : ∀ i, i ≠ 184 → fld k3 i = fld μM i := fun i hi => EM _ _ (by omega)
        have n1 := C.fb.n1
        have M1 := C.fb.M1
        refine ⟨⟨by rw [EM _ _ (by omega), EC _ _ (by omega)]; exact C.1.1, by rw [EC _ _ (by omega)]; exact C.1.2⟩, C.fb.ofl (fun i hi => fl i (by omega)), (C.fr.of (fun x y h1 h2 => EC _ _ (by omega))).ofl n1 M1 (fun i hi => fl i (by omega)), fun x y hx hy hz => by rw [fl _ (by omega)]; exact C.lz x y hx hy hz, C.nr.of (fun x y hx => EC _ _ (by omega)) (fun x y hx => EM _ _ (by omega)), ?_, ?_⟩
        · have q := (C.ll.cls (μ' := m') (fun x y hx => EC _ _ (by omega))).ref (op' := opD k3) (arg' := agD k3) (K' := K + j' + 1) (by omega) (fun i hi => EM _ _ (by omega)) (fun i hi => EM _ _ (by omega))
          rw [← fl 183 (by decide)] at q
          exact q
        · refine .inr ⟨c3, K, j', F183, ⟨by omega, by omega, Lw'.2.2.1, o0, Lw'.2.2.2.1, by rw [Lw'.2.2.2.2]; decide⟩, by omega, Lw'.1, Lw'.2.1⟩
    · obtain ⟨k3, em, fx2, -⟩ := fx.emit (o := 0) (v := 0) (a := a) (Nat.le_refl _) (by omega) lT.2
      have e2' : fX8_readJoined shC [(2, rf 27), (0, 0), (0, 0)] m1 = some (0, m') := e2
      have e3' : fX12_all shM [(2, rf 0), (0, 0)] (ud k1 6 374 (K : Int)) = some (0, k') := e3
      refine .inr ⟨m', k3, ?_, ?_, fx2.fo (by omega)⟩
      · clear em e3 e3' L0 h2 C fx fx2
        simp -implicitDefEqProofs (disch := omega) [fX8_readLaw, bX8_readLaw, v_cop, v_c1, v_c2, v_c3, v_c4, v_c5, v_bin, v_bn, v_bn2, v_div, v_dv, v_dv2, v_une, v_un, v_loc, v_num, v_get, v_gt, v_ald, v_al, v_al2, v_len, v_ln, v_rl0, v_rl1, v_rl2, v_rl3, v_rl4, v_rl5, v_cmp, v_cp, v_cp2, v_zC, v_zc, v_con, v_kc, v_and, v_an1, v_an0, v_or, v_or1, v_or0, v_not, v_nt, v_boo, v_bo, v_cnd, v_cd1, v_cd0, v_cnc, v_cc1, v_cc0, v_ev0, v_ev, v_e1, v_e2, v_cve, v_cv, v_cse, v_cs, v_skip, v_seq, v_sq0, v_sq1, v_sqr, v_sts, v_st, v_inc, v_put, v_pt, v_pt2, v_fop, v_fo, v_fo2, v_ast, v_as, v_as2, v_as3, v_aop, v_ao, v_ao2, v_ao3, v_exs, v_ex, v_ifs, v_if1, v_if0, v_ret, v_rt, v_rez, v_rz, v_rev, v_brk, v_sws, v_sw, v_sw2, v_run, v_rb, v_turn, v_tu1, v_tu0, v_tu2, v_tu3, fst1, snd1, Option.map_some, Option.getD_some, enA, en, stE, okb, narV, rf_toNat, rf_nn, List.getElem?_cons_zero, List.getElem?_cons_succ, w32_id, w64_id, ite_t, ite_f, Int.toNat_add, Int.toNat_mul, dec_t, dec_f, sC_27, sC_1, oc, g2, r0, ud_s, cb, hm0, m0r, e1, e2']
      · clear e2 e2' L0 C fx fx2
        generalize hk2 : ud k1 6 374 (K : Int) = k2 at *
        simp -implicitDefEqProofs (disch := omega) [fX12_readRule, bX12_readRule, v_cop, v_c1, v_c2, v_c3, v_c4, v_c5, v_bin, v_bn, v_bn2, v_div, v_dv, v_dv2, v_une, v_un, v_loc, v_num, v_get, v_gt, v_ald, v_al, v_al2, v_len, v_ln, v_rl0, v_rl1, v_rl2, v_rl3, v_rl4, v_rl5, v_cmp, v_cp, v_cp2, v_zC, v_zc, v_con, v_kc, v_and, v_an1, v_an0, v_or, v_or1, v_or0, v_not, v_nt, v_boo, v_bo, v_cnd, v_cd1, v_cd0, v_cnc, v_cc1, v_cc0, v_ev0, v_ev, v_e1, v_e2, v_cve, v_cv, v_cse, v_cs, v_skip, v_seq, v_sq0, v_sq1, v_sqr, v_sts, v_st, v_inc, v_put, v_pt, v_pt2, v_fop, v_fo, v_fo2, v_ast, v_as, v_as2, v_as3, v_aop, v_ao, v_ao2, v_ao3, v_exs, v_ex, v_ifs, v_if1, v_if0, v_ret, v_rt, v_rez, v_rz, v_rev, v_brk, v_sws, v_sw, v_sw2, v_run, v_rb, v_turn, v_tu1, v_tu0, v_tu2, v_tu3, fst1, snd1, Option.map_some, Option.getD_some, enA, en, stE, okb, narV, rf_toNat, rf_nn, List.getElem?_cons_zero, List.getElem?_cons_succ, w32_id, w64_id, ite_t, ite_f, Int.toNat_add, Int.toNat_mul, dec_t, dec_f, sM_0, sM_6, e8, hk0, s18, p10, g1', x7, hk1, p101, k13, hk2, e3', em]
  · have g1' : ud μM 0 18 1 6 374 = (u : Int) := (q6 374).trans g1
    have ew := c_wrong h.rq (k := 3) (by decide) (by decide)
    have er := r_wrong h0.mq h0.f0 (k := 3) (by decide) (by decide)
    refine .inr ⟨_, _, ?_, ?_, h0.fo (k := 3) (by decide)⟩
    · generalize ud μC 27 5 (ftA c N a 3) = m1 at *
      simp -implicitDefEqProofs (disch := omega) [fX8_readLaw, bX8_readLaw, v_cop, v_c1, v_c2, v_c3, v_c4, v_c5, v_bin, v_bn, v_bn2, v_div, v_dv, v_dv2, v_une, v_un, v_loc, v_num, v_get, v_gt, v_ald, v_al, v_al2, v_len, v_ln, v_rl0, v_rl1, v_rl2, v_rl3, v_rl4, v_rl5, v_cmp, v_cp, v_cp2, v_zC, v_zc, v_con, v_kc, v_and, v_an1, v_an0, v_or, v_or1, v_or0, v_not, v_nt, v_boo, v_bo, v_cnd, v_cd1, v_cd0, v_cnc, v_cc1, v_cc0, v_ev0, v_ev, v_e1, v_e2, v_cve, v_cv, v_cse, v_cs, v_skip, v_seq, v_sq0, v_sq1, v_sqr, v_sts, v_st, v_inc, v_put, v_pt, v_pt2, v_fop, v_fo, v_fo2, v_ast, v_as, v_as2, v_as3, v_aop, v_ao, v_ao2, v_ao3, v_exs, v_ex, v_ifs, v_if1, v_if0, v_ret, v_rt, v_rez, v_rz, v_rev, v_brk, v_sws, v_sw, v_sw2, v_run, v_rb, v_turn, v_tu1, v_tu0, v_tu2, v_tu3, fst1, snd1, Option.map_some, Option.getD_some, enA, en, stE, okb, narV, rf_toNat, rf_nn, List.getElem?_cons_zero, List.getElem?_cons_succ, w32_id, w64_id, ite_t, ite_f, Int.toNat_add, Int.toNat_mul, dec_t, dec_f, sC_27, sC_1, oc, g0, ew]
    · generalize hk0 : ud μM 0 18 1 = k0 at *
      generalize ud k0 0 8 (ftA c N a 3) = k1 at *
      simp -implicitDefEqProofs (disch := omega) [fX12_readRule, bX12_readRule, v_cop, v_c1, v_c2, v_c3, v_c4, v_c5, v_bin, v_bn, v_bn2, v_div, v_dv, v_dv2, v_une, v_un, v_loc, v_num, v_get, v_gt, v_ald, v_al, v_al2, v_len, v_ln, v_rl0, v_rl1, v_rl2, v_rl3, v_rl4, v_rl5, v_cmp, v_cp, v_cp2, v_zC, v_zc, v_con, v_kc, v_and, v_an1, v_an0, v_or, v_or1, v_or0, v_not, v_nt, v_boo, v_bo, v_cnd, v_cd1, v_cd0, v_cnc, v_cc1, v_cc0, v_ev0, v_ev, v_e1, v_e2, v_cve, v_cv, v_cse, v_cs, v_skip, v_seq, v_sq0, v_sq1, v_sqr, v_sts, v_st, v_inc, v_put, v_pt, v_pt2, v_fop, v_fo, v_fo2, v_ast, v_as, v_as2, v_as3, v_aop, v_ao, v_ao2, v_ao3, v_exs, v_ex, v_ifs, v_if1, v_if0, v_ret, v_rt, v_rez, v_rz, v_rev, v_brk, v_sws, v_sw, v_sw2, v_run, v_rb, v_turn, v_tu1, v_tu0, v_tu2, v_tu3, fst1, snd1, Option.map_some, Option.getD_some, enA, en, stE, okb, narV, rf_toNat, rf_nn, List.getElem?_cons_zero, List.getElem?_cons_succ, w32_id, w64_id, ite_t, ite_f, Int.toNat_add, Int.toNat_mul, dec_t, dec_f, sM_0, sM_6, e8, hk0, s18, p10, g1', er]
/-- one line, by its first token -/
noncomputable def lineF (V : Int) (d : Nat) (μ : Mem) : Option (Int × Mem) := if V = 0 then fX8_readField shC [(2, rf 27)] μ else if V = 1 then fX8_readBeast shC [(2, rf 27)] μ else if V = 3 then fX8_readLike shC [(2, rf 27)] μ else if V = 4 then fX8_readLaw shC [(2, rf 27), (2, rf (d + 6))] μ else if V = 5 then fX8_readMeadow shC [(2, rf 27)] μ else if V = 8 then fX8_readLaw shC [(2, rf 27), (2, rf (d + 9))] μ else fX8_wrong shC [(2, rf 27), (0, 1)] μ
set_option maxRecDepth 100000 in theorem ln_0 {d : Nat} {μ : Mem} : lineF 0 d μ = fX8_readField shC [(2, rf 27)] μ := by unfold lineF; rw [if_pos rfl]
set_option maxRecDepth 100000 in theorem ln_1 {d : Nat} {μ : Mem} : lineF 1 d μ = fX8_readBeast shC [(2, rf 27)] μ := by unfold lineF; rw [if_neg (by decide), if_pos rfl]
set_option maxRecDepth 100000 in theorem ln_3 {d : Nat} {μ : Mem} : lineF 3 d μ = fX8_readLike shC [(2, rf 27)] μ := by unfold lineF; rw [if_neg (by decide), if_neg (by decide), if_pos rfl]
set_option maxRecDepth 100000 in theorem ln_4 {d : Nat} {μ : Mem} : lineF 4 d μ = fX8_readLaw shC [(2, rf 27), (2, rf (d + 6))] μ := by unfold lineF; rw [if_neg (by decide), if_neg (by decide), if_neg (by decide), if_pos rfl]
set_option maxRecDepth 100000 in theorem ln_5 {d : Nat} {μ : Mem} : lineF 5 d μ = fX8_readMeadow shC [(2, rf 27)] μ := by unfold lineF; rw [if_neg (by decide), if_neg (by decide), if_neg (by decide), if_neg (by decide), if_pos rfl]
set_option maxRecDepth 100000 in theorem ln_8 {d : Nat} {μ : Mem} : lineF 8 d μ = fX8_readLaw shC [(2, rf 27), (2, rf (d + 9))] μ := by unfold lineF; rw [if_neg (by decide), if_neg (by decide), if_neg (by decide), if_neg (by decide), if_neg (by decide), if_pos rfl]
set_option maxRecDepth 100000 in theorem ln_w {V : Int} {d : Nat} {μ : Mem} (n0 : ¬ V = 0) (n1 : ¬ V = 1) (n3 : ¬ V = 3) (n4 : ¬ V = 4) (n5 : ¬ V = 5) (n8 : ¬ V = 8) : lineF V d μ = fX8_wrong shC [(2, rf 27), (0, 1)] μ := by unfold lineF; rw [if_neg n0, if_neg n1, if_neg n3, if_neg n4, if_neg n5, if_neg n8]
/-- what the loop does behind a line -/
noncomputable def lnT : Sx := ifS (orC (notC (zC 1 (locE 0 3))) (notC (zC 1 (cvE 8 fX8_passed [(2, (locE 2 0)), (0, (numE 59))])))) (retS (getE 8 5 0 (locE 2 0))) skipS
set_option maxRecDepth 100000 in theorem c_body {mC mM μC μM : Mem} {c : Nat → Int} {N T d a K : Nat} (h : PF mC mM μC μM c N T d a K) {i : Int} {tk : Nat} {tv v : Int} {m : Mem} (h3 : ¬ tk = 1) (e : lineF (tkA c N a) d μC = some (v, m)) : kX8_read_0b shC [(2, rf 27), (2, rf d), (0, i), (tk, tv)] μC = lnT shC [(2, rf 27), (2, rf d), (0, i), (0, v)] m := by
  have t2 := h.rq.t2
  have r0 := h.rq.2.2.2.1
  have r3 := h.rq.2.2.2.2.2.2.1
  have ob := h.rq.2.2.2.2.2.2.2
  have o0 := ob.1
  have p9 : μC d 9 = rf (d + 6) := ob.2.2.2.2.2.2.2.2.2.2.2.2.2.2.2.2.2.1
  have p10 : μC d 10 = rf (d + 9) := ob.2.2.2.2.2.2.2.2.2.2.2.2.2.2.2.2.2.2.1
  clear h ob
  unfold kX8_read_0b
  change seqS _ lnT _ _ _ = _
  generalize lnT = B
  rcases (by omega : tkA c N a = 0 ∨ tkA c N a = 1 ∨ tkA c N a = 3 ∨ tkA c N a = 4 ∨ tkA c N a = 5 ∨ tkA c N a = 8 ∨ (¬ tkA c N a = 0 ∧ ¬ tkA c N a = 1 ∧ ¬ tkA c N a = 3 ∧ ¬ tkA c N a = 4 ∧ ¬ tkA c N a = 5 ∧ ¬ tkA c N a = 8)) with t | t | t | t | t | t | t
  · rw [t] at t2 e
    rw [ln_0] at e
    simp -implicitDefEqProofs (disch := omega) [wX8_read_54_sel, v_cop, v_c1, v_c2, v_c3, v_c4, v_c5, v_bin, v_bn, v_bn2, v_div, v_dv, v_dv2, v_une, v_un, v_loc, v_num, v_get, v_gt, v_ald, v_al, v_al2, v_len, v_ln, v_rl0, v_rl1, v_rl2, v_rl3, v_rl4, v_rl5, v_cmp, v_cp, v_cp2, v_zC, v_zc, v_con, v_kc, v_and, v_an1, v_an0, v_or, v_or1, v_or0, v_not, v_nt, v_boo, v_bo, v_cnd, v_cd1, v_cd0, v_cnc, v_cc1, v_cc0, v_ev0, v_ev, v_e1, v_e2, v_cve, v_cv, v_cse, v_cs, v_skip, v_seq, v_sq0, v_sq1, v_sqr, v_sts, v_st, v_inc, v_put, v_pt, v_pt2, v_fop, v_fo, v_fo2, v_ast, v_as, v_as2, v_as3, v_aop, v_ao, v_ao2, v_ao3, v_exs, v_ex, v_ifs, v_if1, v_if0, v_ret, v_rt, v_rez, v_rz, v_rev, v_brk, v_sws, v_sw, v_sw2, v_run, v_rb, v_turn, v_tu1, v_tu0, v_tu2, v_tu3, fst1, snd1, Option.map_some, Option.getD_some, enA, en, stE, okb, narV, rf_toNat, rf_nn, List.getElem?_cons_zero, List.getElem?_cons_succ, w32_id, w64_id, ite_t, ite_f, Int.toNat_add, Int.toNat_mul, dec_t, dec_f, sC_27, sC_1, r0, r3, o0, p9, p10, t2, e, h3]
  · rw [t] at t2 e
    rw [ln_1] at e
    simp -implicitDefEqProofs (disch := omega) [wX8_read_54_sel, v_cop, v_c1, v_c2, v_c3, v_c4, v_c5, v_bin, v_bn, v_bn2, v_div, v_dv, v_dv2, v_une, v_un, v_loc, v_num, v_get, v_gt, v_ald, v_al, v_al2, v_len, v_ln, v_rl0, v_rl1, v_rl2, v_rl3, v_rl4, v_rl5, v_cmp, v_cp, v_cp2, v_zC, v_zc, v_con, v_kc, v_and, v_an1, v_an0, v_or, v_or1, v_or0, v_not, v_nt, v_boo, v_bo, v_cnd, v_cd1, v_cd0, v_cnc, v_cc1, v_cc0, v_ev0, v_ev, v_e1, v_e2, v_cve, v_cv, v_cse, v_cs, v_skip, v_seq, v_sq0, v_sq1, v_sqr, v_sts, v_st, v_inc, v_put, v_pt, v_pt2, v_fop, v_fo, v_fo2, v_ast, v_as, v_as2, v_as3, v_aop, v_ao, v_ao2, v_ao3, v_exs, v_ex, v_ifs, v_if1, v_if0, v_ret, v_rt, v_rez, v_rz, v_rev, v_brk, v_sws, v_sw, v_sw2, v_run, v_rb, v_turn, v_tu1, v_tu0, v_tu2, v_tu3, fst1, snd1, Option.map_some, Option.getD_some, enA, en, stE, okb, narV, rf_toNat, rf_nn, List.getElem?_cons_zero, List.getElem?_cons_succ, w32_id, w64_id, ite_t, ite_f, Int.toNat_add, Int.toNat_mul, dec_t, dec_f, sC_27, sC_1, r0, r3, o0, p9, p10, t2, e, h3]
  · rw [t] at t2 e
    rw [ln_3] at e
    simp -implicitDefEqProofs (disch := omega) [wX8_read_54_sel, v_cop, v_c1, v_c2, v_c3, v_c4, v_c5, v_bin, v_bn, v_bn2, v_div, v_dv, v_dv2, v_une, v_un, v_loc, v_num, v_get, v_gt, v_ald, v_al, v_al2, v_len, v_ln, v_rl0, v_rl1, v_rl2, v_rl3, v_rl4, v_rl5, v_cmp, v_cp, v_cp2, v_zC, v_zc, v_con, v_kc, v_and, v_an1, v_an0, v_or, v_or1, v_or0, v_not, v_nt, v_boo, v_bo, v_cnd, v_cd1, v_cd0, v_cnc, v_cc1, v_cc0, v_ev0, v_ev, v_e1, v_e2, v_cve, v_cv, v_cse, v_cs, v_skip, v_seq, v_sq0, v_sq1, v_sqr, v_sts, v_st, v_inc, v_put, v_pt, v_pt2, v_fop, v_fo, v_fo2, v_ast, v_as, v_as2, v_as3, v_aop, v_ao, v_ao2, v_ao3, v_exs, v_ex, v_ifs, v_if1, v_if0, v_ret, v_rt, v_rez, v_rz, v_rev, v_brk, v_sws, v_sw, v_sw2, v_run, v_rb, v_turn, v_tu1, v_tu0, v_tu2, v_tu3, fst1, snd1, Option.map_some, Option.getD_some, enA, en, stE, okb, narV, rf_toNat, rf_nn, List.getElem?_cons_zero, List.getElem?_cons_succ, w32_id, w64_id, ite_t, ite_f, Int.toNat_add, Int.toNat_mul, dec_t, dec_f, sC_27, sC_1, r0, r3, o0, p9, p10, t2, e, h3]
  · rw [t] at t2 e
    rw [ln_4] at e
    simp -implicitDefEqProofs (disch := omega) [wX8_read_54_sel, v_cop, v_c1, v_c2, v_c3, v_c4, v_c5, v_bin, v_bn, v_bn2, v_div, v_dv, v_dv2, v_une, v_un, v_loc, v_num, v_get, v_gt, v_ald, v_al, v_al2, v_len, v_ln, v_rl0, v_rl1, v_rl2, v_rl3, v_rl4, v_rl5, v_cmp, v_cp, v_cp2, v_zC, v_zc, v_con, v_kc, v_and, v_an1, v_an0, v_or, v_or1, v_or0, v_not, v_nt, v_boo, v_bo, v_cnd, v_cd1, v_cd0, v_cnc, v_cc1, v_cc0, v_ev0, v_ev, v_e1, v_e2, v_cve, v_cv, v_cse, v_cs, v_skip, v_seq, v_sq0, v_sq1, v_sqr, v_sts, v_st, v_inc, v_put, v_pt, v_pt2, v_fop, v_fo, v_fo2, v_ast, v_as, v_as2, v_as3, v_aop, v_ao, v_ao2, v_ao3, v_exs, v_ex, v_ifs, v_if1, v_if0, v_ret, v_rt, v_rez, v_rz, v_rev, v_brk, v_sws, v_sw, v_sw2, v_run, v_rb, v_turn, v_tu1, v_tu0, v_tu2, v_tu3, fst1, snd1, Option.map_some, Option.getD_some, enA, en, stE, okb, narV, rf_toNat, rf_nn, List.getElem?_cons_zero, List.getElem?_cons_succ, w32_id, w64_id, ite_t, ite_f, Int.toNat_add, Int.toNat_mul, dec_t, dec_f, sC_27, sC_1, r0, r3, o0, p9, p10, t2, e, h3]
  · rw [t] at t2 e
    rw [ln_5] at e
    simp -implicitDefEqProofs (disch := omega) [wX8_read_54_sel, v_cop, v_c1, v_c2, v_c3, v_c4, v_c5, v_bin, v_bn, v_bn2, v_div, v_dv, v_dv2, v_une, v_un, v_loc, v_num, v_get, v_gt, v_ald, v_al, v_al2, v_len, v_ln, v_rl0, v_rl1, v_rl2, v_rl3, v_rl4, v_rl5, v_cmp, v_cp, v_cp2, v_zC, v_zc, v_con, v_kc, v_and, v_an1, v_an0, v_or, v_or1, v_or0, v_not, v_nt, v_boo, v_bo, v_cnd, v_cd1, v_cd0, v_cnc, v_cc1, v_cc0, v_ev0, v_ev, v_e1, v_e2, v_cve, v_cv, v_cse, v_cs, v_skip, v_seq, v_sq0, v_sq1, v_sqr, v_sts, v_st, v_inc, v_put, v_pt, v_pt2, v_fop, v_fo, v_fo2, v_ast, v_as, v_as2, v_as3, v_aop, v_ao, v_ao2, v_ao3, v_exs, v_ex, v_ifs, v_if1, v_if0, v_ret, v_rt, v_rez, v_rz, v_rev, v_brk, v_sws, v_sw, v_sw2, v_run, v_rb, v_turn, v_tu1, v_tu0, v_tu2, v_tu3, fst1, snd1, Option.map_some, Option.getD_some, enA, en, stE, okb, narV, rf_toNat, rf_nn, List.getElem?_cons_zero, List.getElem?_cons_succ, w32_id, w64_id, ite_t, ite_f, Int.toNat_add, Int.toNat_mul, dec_t, dec_f, sC_27, sC_1, r0, r3, o0, p9, p10, t2, e, h3]
  · rw [t] at t2 e
    rw [ln_8] at e
    simp -implicitDefEqProofs (disch := omega) [wX8_read_54_sel, v_cop, v_c1, v_c2, v_c3, v_c4, v_c5, v_bin, v_bn, v_bn2, v_div, v_dv, v_dv2, v_une, v_un, v_loc, v_num, v_get, v_gt, v_ald, v_al, v_al2, v_len, v_ln, v_rl0, v_rl1, v_rl2, v_rl3, v_rl4, v_rl5, v_cmp, v_cp, v_cp2, v_zC, v_zc, v_con, v_kc, v_and, v_an1, v_an0, v_or, v_or1, v_or0, v_not, v_nt, v_boo, v_bo, v_cnd, v_cd1, v_cd0, v_cnc, v_cc1, v_cc0, v_ev0, v_ev, v_e1, v_e2, v_cve, v_cv, v_cse, v_cs, v_skip, v_seq, v_sq0, v_sq1, v_sqr, v_sts, v_st, v_inc, v_put, v_pt, v_pt2, v_fop, v_fo, v_fo2, v_ast, v_as, v_as2, v_as3, v_aop, v_ao, v_ao2, v_ao3, v_exs, v_ex, v_ifs, v_if1, v_if0, v_ret, v_rt, v_rez, v_rz, v_rev, v_brk, v_sws, v_sw, v_sw2, v_run, v_rb, v_turn, v_tu1, v_tu0, v_tu2, v_tu3, fst1, snd1, Option.map_some, Option.getD_some, enA, en, stE, okb, narV, rf_toNat, rf_nn, List.getElem?_cons_zero, List.getElem?_cons_succ, w32_id, w64_id, ite_t, ite_f, Int.toNat_add, Int.toNat_mul, dec_t, dec_f, sC_27, sC_1, r0, r3, o0, p9, p10, t2, e, h3]
  · obtain ⟨n0, n1, n3, n4, n5, n8⟩ := t
    rw [ln_w n0 n1 n3 n4 n5 n8] at e
    generalize tkA c N a = V at *
    simp -implicitDefEqProofs (disch := omega) [wX8_read_54_sel, v_cop, v_c1, v_c2, v_c3, v_c4, v_c5, v_bin, v_bn, v_bn2, v_div, v_dv, v_dv2, v_une, v_un, v_loc, v_num, v_get, v_gt, v_ald, v_al, v_al2, v_len, v_ln, v_rl0, v_rl1, v_rl2, v_rl3, v_rl4, v_rl5, v_cmp, v_cp, v_cp2, v_zC, v_zc, v_con, v_kc, v_and, v_an1, v_an0, v_or, v_or1, v_or0, v_not, v_nt, v_boo, v_bo, v_cnd, v_cd1, v_cd0, v_cnc, v_cc1, v_cc0, v_ev0, v_ev, v_e1, v_e2, v_cve, v_cv, v_cse, v_cs, v_skip, v_seq, v_sq0, v_sq1, v_sqr, v_sts, v_st, v_inc, v_put, v_pt, v_pt2, v_fop, v_fo, v_fo2, v_ast, v_as, v_as2, v_as3, v_aop, v_ao, v_ao2, v_ao3, v_exs, v_ex, v_ifs, v_if1, v_if0, v_ret, v_rt, v_rez, v_rz, v_rev, v_brk, v_sws, v_sw, v_sw2, v_run, v_rb, v_turn, v_tu1, v_tu0, v_tu2, v_tu3, fst1, snd1, Option.map_some, Option.getD_some, enA, en, stE, okb, narV, rf_toNat, rf_nn, List.getElem?_cons_zero, List.getElem?_cons_succ, w32_id, w64_id, ite_t, ite_f, Int.toNat_add, Int.toNat_mul, dec_t, dec_f, sC_27, sC_1, r0, t2, n0, n1, n3, n4, n5, n8, e, h3]
set_option maxRecDepth 100000 in theorem b_line {mC mM μC μM : Mem} {c : Nat → Int} {N T d a K n P M : Nat} (h : PF mC mM μC μM c N T d a K) (C : CN μC μM c N T d n P M K) : BO a mC mM (lineF (tkA c N a) d μC) (fX12_readLine shM [(2, rf 0)] μM) c N T d := by

  have i0 := r_isWord (w := 0) h.mq h.f0 (by decide)
  rw [show ((0 : Nat) : Int) = 0 from rfl] at i0
  have i1 := r_isWord (w := 1) h.mq h.f0 (by decide)
  rw [show ((1 : Nat) : Int) = 1 from rfl] at i1
  have i3 := r_isWord (w := 3) h.mq h.f0 (by decide)
  rw [show ((3 : Nat) : Int) = 3 from rfl] at i3
  have i4 := r_isWord (w := 4) h.mq h.f0 (by decide)
  rw [show ((4 : Nat) : Int) = 4 from rfl] at i4
  have i5 := r_isWord (w := 5) h.mq h.f0 (by decide)
  rw [show ((5 : Nat) : Int) = 5 from rfl] at i5
  have i8 := r_isWord (w := 8) h.mq h.f0 (by decide)
  rw [show ((8 : Nat) : Int) = 8 from rfl] at i8
  rcases (by omega : tkA c N a = 0 ∨ tkA c N a = 1 ∨ tkA c N a = 3 ∨ tkA c N a = 4 ∨ tkA c N a = 5 ∨ tkA c N a = 8 ∨ (¬ tkA c N a = 0 ∧ ¬ tkA c N a = 1 ∧ ¬ tkA c N a = 3 ∧ ¬ tkA c N a = 4 ∧ ¬ tkA c N a = 5 ∧ ¬ tkA c N a = 8)) with t | t | t | t | t | t | t
  · have b := b_field h C t
    rw [t] at i0
    rw [if_pos ⟨rfl, rfl⟩] at i0
    rcases b with ⟨a', K', n', P', M', m, k, e1, e2, l, p', c'⟩ | ⟨m, k, e1, e2, fo⟩
    · refine .inl ⟨a', K', n', P', M', m, k, ?_, ?_, l, p', c'⟩
      · rw [t, ln_0]; exact e1
      · simp -implicitDefEqProofs (disch := omega) [fX12_readLine, bX12_readLine, v_cop, v_c1, v_c2, v_c3, v_c4, v_c5, v_bin, v_bn, v_bn2, v_div, v_dv, v_dv2, v_une, v_un, v_loc, v_num, v_get, v_gt, v_ald, v_al, v_al2, v_len, v_ln, v_rl0, v_rl1, v_rl2, v_rl3, v_rl4, v_rl5, v_cmp, v_cp, v_cp2, v_zC, v_zc, v_con, v_kc, v_and, v_an1, v_an0, v_or, v_or1, v_or0, v_not, v_nt, v_boo, v_bo, v_cnd, v_cd1, v_cd0, v_cnc, v_cc1, v_cc0, v_ev0, v_ev, v_e1, v_e2, v_cve, v_cv, v_cse, v_cs, v_skip, v_seq, v_sq0, v_sq1, v_sqr, v_sts, v_st, v_inc, v_put, v_pt, v_pt2, v_fop, v_fo, v_fo2, v_ast, v_as, v_as2, v_as3, v_aop, v_ao, v_ao2, v_ao3, v_exs, v_ex, v_ifs, v_if1, v_if0, v_ret, v_rt, v_rez, v_rz, v_rev, v_brk, v_sws, v_sw, v_sw2, v_run, v_rb, v_turn, v_tu1, v_tu0, v_tu2, v_tu3, fst1, snd1, Option.map_some, Option.getD_some, enA, en, stE, okb, narV, rf_toNat, rf_nn, List.getElem?_cons_zero, List.getElem?_cons_succ, w32_id, w64_id, ite_t, ite_f, Int.toNat_add, Int.toNat_mul, dec_t, dec_f, sM_0, i0, e2]
    · refine .inr ⟨m, k, ?_, ?_, fo⟩
      · rw [t, ln_0]; exact e1
      · simp -implicitDefEqProofs (disch := omega) [fX12_readLine, bX12_readLine, v_cop, v_c1, v_c2, v_c3, v_c4, v_c5, v_bin, v_bn, v_bn2, v_div, v_dv, v_dv2, v_une, v_un, v_loc, v_num, v_get, v_gt, v_ald, v_al, v_al2, v_len, v_ln, v_rl0, v_rl1, v_rl2, v_rl3, v_rl4, v_rl5, v_cmp, v_cp, v_cp2, v_zC, v_zc, v_con, v_kc, v_and, v_an1, v_an0, v_or, v_or1, v_or0, v_not, v_nt, v_boo, v_bo, v_cnd, v_cd1, v_cd0, v_cnc, v_cc1, v_cc0, v_ev0, v_ev, v_e1, v_e2, v_cve, v_cv, v_cse, v_cs, v_skip, v_seq, v_sq0, v_sq1, v_sqr, v_sts, v_st, v_inc, v_put, v_pt, v_pt2, v_fop, v_fo, v_fo2, v_ast, v_as, v_as2, v_as3, v_aop, v_ao, v_ao2, v_ao3, v_exs, v_ex, v_ifs, v_if1, v_if0, v_ret, v_rt, v_rez, v_rz, v_rev, v_brk, v_sws, v_sw, v_sw2, v_run, v_rb, v_turn, v_tu1, v_tu0, v_tu2, v_tu3, fst1, snd1, Option.map_some, Option.getD_some, enA, en, stE, okb, narV, rf_toNat, rf_nn, List.getElem?_cons_zero, List.getElem?_cons_succ, w32_id, w64_id, ite_t, ite_f, Int.toNat_add, Int.toNat_mul, dec_t, dec_f, sM_0, i0, e2]
  · have b := b_beast h C t
    rw [t] at i0 i1
    rw [if_neg (by decide)] at i0
    rw [if_pos ⟨rfl, rfl⟩] at i1
    rcases b with ⟨a', K', n', P', M', m, k, e1, e2, l, p', c'⟩ | ⟨m, k, e1, e2, fo⟩
    · refine .inl ⟨a', K', n', P', M', m, k, ?_, ?_, l, p', c'⟩
      · rw [t, ln_1]; exact e1
      · simp -implicitDefEqProofs (disch := omega) [fX12_readLine, bX12_readLine, v_cop, v_c1, v_c2, v_c3, v_c4, v_c5, v_bin, v_bn, v_bn2, v_div, v_dv, v_dv2, v_une, v_un, v_loc, v_num, v_get, v_gt, v_ald, v_al, v_al2, v_len, v_ln, v_rl0, v_rl1, v_rl2, v_rl3, v_rl4, v_rl5, v_cmp, v_cp, v_cp2, v_zC, v_zc, v_con, v_kc, v_and, v_an1, v_an0, v_or, v_or1, v_or0, v_not, v_nt, v_boo, v_bo, v_cnd, v_cd1, v_cd0, v_cnc, v_cc1, v_cc0, v_ev0, v_ev, v_e1, v_e2, v_cve, v_cv, v_cse, v_cs, v_skip, v_seq, v_sq0, v_sq1, v_sqr, v_sts, v_st, v_inc, v_put, v_pt, v_pt2, v_fop, v_fo, v_fo2, v_ast, v_as, v_as2, v_as3, v_aop, v_ao, v_ao2, v_ao3, v_exs, v_ex, v_ifs, v_if1, v_if0, v_ret, v_rt, v_rez, v_rz, v_rev, v_brk, v_sws, v_sw, v_sw2, v_run, v_rb, v_turn, v_tu1, v_tu0, v_tu2, v_tu3, fst1, snd1, Option.map_some, Option.getD_some, enA, en, stE, okb, narV, rf_toNat, rf_nn, List.getElem?_cons_zero, List.getElem?_cons_succ, w32_id, w64_id, ite_t, ite_f, Int.toNat_add, Int.toNat_mul, dec_t, dec_f, sM_0, i0, i1, e2]
    · refine .inr ⟨m, k, ?_, ?_, fo⟩
      · rw [t, ln_1]; exact e1
      · simp -implicitDefEqProofs (disch := omega) [fX12_readLine, bX12_readLine, v_cop, v_c1, v_c2, v_c3, v_c4, v_c5, v_bin, v_bn, v_bn2, v_div, v_dv, v_dv2, v_une, v_un, v_loc, v_num, v_get, v_gt, v_ald, v_al, v_al2, v_len, v_ln, v_rl0, v_rl1, v_rl2, v_rl3, v_rl4, v_rl5, v_cmp, v_cp, v_cp2, v_zC, v_zc, v_con, v_kc, v_and, v_an1, v_an0, v_or, v_or1, v_or0, v_not, v_nt, v_boo, v_bo, v_cnd, v_cd1, v_cd0, v_cnc, v_cc1, v_cc0, v_ev0, v_ev, v_e1, v_e2, v_cve, v_cv, v_cse, v_cs, v_skip, v_seq, v_sq0, v_sq1, v_sqr, v_sts, v_st, v_inc, v_put, v_pt, v_pt2, v_fop, v_fo, v_fo2, v_ast, v_as, v_as2, v_as3, v_aop, v_ao, v_ao2, v_ao3, v_exs, v_ex, v_ifs, v_if1, v_if0, v_ret, v_rt, v_rez, v_rz, v_rev, v_brk, v_sws, v_sw, v_sw2, v_run, v_rb, v_turn, v_tu1, v_tu0, v_tu2, v_tu3, fst1, snd1, Option.map_some, Option.getD_some, enA, en, stE, okb, narV, rf_toNat, rf_nn, List.getElem?_cons_zero, List.getElem?_cons_succ, w32_id, w64_id, ite_t, ite_f, Int.toNat_add, Int.toNat_mul, dec_t, dec_f, sM_0, i0, i1, e2]
  · have b := b_like h C t
    rw [t] at i0 i1 i3
    rw [if_neg (by decide)] at i0
    rw [if_neg (by decide)] at i1
    rw [if_pos ⟨rfl, rfl⟩] at i3
    rcases b with ⟨a', K', n', P', M', m, k, e1, e2, l, p', c'⟩ | ⟨m, k, e1, e2, fo⟩
    · refine .inl ⟨a', K', n', P', M', m, k, ?_, ?_, l, p', c'⟩
      · rw [t, ln_3]; exact e1
      · simp -implicitDefEqProofs (disch := omega) [fX12_readLine, bX12_readLine, v_cop, v_c1, v_c2, v_c3, v_c4, v_c5, v_bin, v_bn, v_bn2, v_div, v_dv, v_dv2, v_une, v_un, v_loc, v_num, v_get, v_gt, v_ald, v_al, v_al2, v_len, v_ln, v_rl0, v_rl1, v_rl2, v_rl3, v_rl4, v_rl5, v_cmp, v_cp, v_cp2, v_zC, v_zc, v_con, v_kc, v_and, v_an1, v_an0, v_or, v_or1, v_or0, v_not, v_nt, v_boo, v_bo, v_cnd, v_cd1, v_cd0, v_cnc, v_cc1, v_cc0, v_ev0, v_ev, v_e1, v_e2, v_cve, v_cv, v_cse, v_cs, v_skip, v_seq, v_sq0, v_sq1, v_sqr, v_sts, v_st, v_inc, v_put, v_pt, v_pt2, v_fop, v_fo, v_fo2, v_ast, v_as, v_as2, v_as3, v_aop, v_ao, v_ao2, v_ao3, v_exs, v_ex, v_ifs, v_if1, v_if0, v_ret, v_rt, v_rez, v_rz, v_rev, v_brk, v_sws, v_sw, v_sw2, v_run, v_rb, v_turn, v_tu1, v_tu0, v_tu2, v_tu3, fst1, snd1, Option.map_some, Option.getD_some, enA, en, stE, okb, narV, rf_toNat, rf_nn, List.getElem?_cons_zero, List.getElem?_cons_succ, w32_id, w64_id, ite_t, ite_f, Int.toNat_add, Int.toNat_mul, dec_t, dec_f, sM_0, i0, i1, i3, e2]
    · refine .inr ⟨m, k, ?_, ?_, fo⟩
      · rw [t, ln_3]; exact e1
      · simp -implicitDefEqProofs (disch := omega) [fX12_readLine, bX12_readLine, v_cop, v_c1, v_c2, v_c3, v_c4, v_c5, v_bin, v_bn, v_bn2, v_div, v_dv, v_dv2, v_une, v_un, v_loc, v_num, v_get, v_gt, v_ald, v_al, v_al2, v_len, v_ln, v_rl0, v_rl1, v_rl2, v_rl3, v_rl4, v_rl5, v_cmp, v_cp, v_cp2, v_zC, v_zc, v_con, v_kc, v_and, v_an1, v_an0, v_or, v_or1, v_or0, v_not, v_nt, v_boo, v_bo, v_cnd, v_cd1, v_cd0, v_cnc, v_cc1, v_cc0, v_ev0, v_ev, v_e1, v_e2, v_cve, v_cv, v_cse, v_cs, v_skip, v_seq, v_sq0, v_sq1, v_sqr, v_sts, v_st, v_inc, v_put, v_pt, v_pt2, v_fop, v_fo, v_fo2, v_ast, v_as, v_as2, v_as3, v_aop, v_ao, v_ao2, v_ao3, v_exs, v_ex, v_ifs, v_if1, v_if0, v_ret, v_rt, v_rez, v_rz, v_rev, v_brk, v_sws, v_sw, v_sw2, v_run, v_rb, v_turn, v_tu1, v_tu0, v_tu2, v_tu3, fst1, snd1, Option.map_some, Option.getD_some, enA, en, stE, okb, narV, rf_toNat, rf_nn, List.getElem?_cons_zero, List.getElem?_cons_succ, w32_id, w64_id, ite_t, ite_f, Int.toNat_add, Int.toNat_mul, dec_t, dec_f, sM_0, i0, i1, i3, e2]
  · have b := b_rule_l h C t
    rw [t] at i0 i1 i3 i5 i4
    rw [if_neg (by decide)] at i0
    rw [if_neg (by decide)] at i1
    rw [if_neg (by decide)] at i3
    rw [if_neg (by decide)] at i5
    rw [if_pos ⟨rfl, rfl⟩] at i4
    rcases b with ⟨a', K', n', P', M', m, k, e1, e2, l, p', c'⟩ | ⟨m, k, e1, e2, fo⟩
    · refine .inl ⟨a', K', n', P', M', m, k, ?_, ?_, l, p', c'⟩
      · rw [t, ln_4]; exact e1
      · simp -implicitDefEqProofs (disch := omega) [fX12_readLine, bX12_readLine, v_cop, v_c1, v_c2, v_c3, v_c4, v_c5, v_bin, v_bn, v_bn2, v_div, v_dv, v_dv2, v_une, v_un, v_loc, v_num, v_get, v_gt, v_ald, v_al, v_al2, v_len, v_ln, v_rl0, v_rl1, v_rl2, v_rl3, v_rl4, v_rl5, v_cmp, v_cp, v_cp2, v_zC, v_zc, v_con, v_kc, v_and, v_an1, v_an0, v_or, v_or1, v_or0, v_not, v_nt, v_boo, v_bo, v_cnd, v_cd1, v_cd0, v_cnc, v_cc1, v_cc0, v_ev0, v_ev, v_e1, v_e2, v_cve, v_cv, v_cse, v_cs, v_skip, v_seq, v_sq0, v_sq1, v_sqr, v_sts, v_st, v_inc, v_put, v_pt, v_pt2, v_fop, v_fo, v_fo2, v_ast, v_as, v_as2, v_as3, v_aop, v_ao, v_ao2, v_ao3, v_exs, v_ex, v_ifs, v_if1, v_if0, v_ret, v_rt, v_rez, v_rz, v_rev, v_brk, v_sws, v_sw, v_sw2, v_run, v_rb, v_turn, v_tu1, v_tu0, v_tu2, v_tu3, fst1, snd1, Option.map_some, Option.getD_some, enA, en, stE, okb, narV, rf_toNat, rf_nn, List.getElem?_cons_zero, List.getElem?_cons_succ, w32_id, w64_id, ite_t, ite_f, Int.toNat_add, Int.toNat_mul, dec_t, dec_f, sM_0, i0, i1, i3, i5, i4, e2]
    · refine .inr ⟨m, k, ?_, ?_, fo⟩
      · rw [t, ln_4]; exact e1
      · simp -implicitDefEqProofs (disch := omega) [fX12_readLine, bX12_readLine, v_cop, v_c1, v_c2, v_c3, v_c4, v_c5, v_bin, v_bn, v_bn2, v_div, v_dv, v_dv2, v_une, v_un, v_loc, v_num, v_get, v_gt, v_ald, v_al, v_al2, v_len, v_ln, v_rl0, v_rl1, v_rl2, v_rl3, v_rl4, v_rl5, v_cmp, v_cp, v_cp2, v_zC, v_zc, v_con, v_kc, v_and, v_an1, v_an0, v_or, v_or1, v_or0, v_not, v_nt, v_boo, v_bo, v_cnd, v_cd1, v_cd0, v_cnc, v_cc1, v_cc0, v_ev0, v_ev, v_e1, v_e2, v_cve, v_cv, v_cse, v_cs, v_skip, v_seq, v_sq0, v_sq1, v_sqr, v_sts, v_st, v_inc, v_put, v_pt, v_pt2, v_fop, v_fo, v_fo2, v_ast, v_as, v_as2, v_as3, v_aop, v_ao, v_ao2, v_ao3, v_exs, v_ex, v_ifs, v_if1, v_if0, v_ret, v_rt, v_rez, v_rz, v_rev, v_brk, v_sws, v_sw, v_sw2, v_run, v_rb, v_turn, v_tu1, v_tu0, v_tu2, v_tu3, fst1, snd1, Option.map_some, Option.getD_some, enA, en, stE, okb, narV, rf_toNat, rf_nn, List.getElem?_cons_zero, List.getElem?_cons_succ, w32_id, w64_id, ite_t, ite_f, Int.toNat_add, Int.toNat_mul, dec_t, dec_f, sM_0, i0, i1, i3, i5, i4, e2]
  · have b := b_meadow h C t
    rw [t] at i0 i1 i3 i5
    rw [if_neg (by decide)] at i0
    rw [if_neg (by decide)] at i1
    rw [if_neg (by decide)] at i3
    rw [if_pos ⟨rfl, rfl⟩] at i5
    rcases b with ⟨a', K', n', P', M', m, k, e1, e2, l, p', c'⟩ | ⟨m, k, e1, e2, fo⟩
    · refine .inl ⟨a', K', n', P', M', m, k, ?_, ?_, l, p', c'⟩
      · rw [t, ln_5]; exact e1
      · simp -implicitDefEqProofs (disch := omega) [fX12_readLine, bX12_readLine, v_cop, v_c1, v_c2, v_c3, v_c4, v_c5, v_bin, v_bn, v_bn2, v_div, v_dv, v_dv2, v_une, v_un, v_loc, v_num, v_get, v_gt, v_ald, v_al, v_al2, v_len, v_ln, v_rl0, v_rl1, v_rl2, v_rl3, v_rl4, v_rl5, v_cmp, v_cp, v_cp2, v_zC, v_zc, v_con, v_kc, v_and, v_an1, v_an0, v_or, v_or1, v_or0, v_not, v_nt, v_boo, v_bo, v_cnd, v_cd1, v_cd0, v_cnc, v_cc1, v_cc0, v_ev0, v_ev, v_e1, v_e2, v_cve, v_cv, v_cse, v_cs, v_skip, v_seq, v_sq0, v_sq1, v_sqr, v_sts, v_st, v_inc, v_put, v_pt, v_pt2, v_fop, v_fo, v_fo2, v_ast, v_as, v_as2, v_as3, v_aop, v_ao, v_ao2, v_ao3, v_exs, v_ex, v_ifs, v_if1, v_if0, v_ret, v_rt, v_rez, v_rz, v_rev, v_brk, v_sws, v_sw, v_sw2, v_run, v_rb, v_turn, v_tu1, v_tu0, v_tu2, v_tu3, fst1, snd1, Option.map_some, Option.getD_some, enA, en, stE, okb, narV, rf_toNat, rf_nn, List.getElem?_cons_zero, List.getElem?_cons_succ, w32_id, w64_id, ite_t, ite_f, Int.toNat_add, Int.toNat_mul, dec_t, dec_f, sM_0, i0, i1, i3, i5, e2]
    · refine .inr ⟨m, k, ?_, ?_, fo⟩
      · rw [t, ln_5]; exact e1
      · simp -implicitDefEqProofs (disch := omega) [fX12_readLine, bX12_readLine, v_cop, v_c1, v_c2, v_c3, v_c4, v_c5, v_bin, v_bn, v_bn2, v_div, v_dv, v_dv2, v_une, v_un, v_loc, v_num, v_get, v_gt, v_ald, v_al, v_al2, v_len, v_ln, v_rl0, v_rl1, v_rl2, v_rl3, v_rl4, v_rl5, v_cmp, v_cp, v_cp2, v_zC, v_zc, v_con, v_kc, v_and, v_an1, v_an0, v_or, v_or1, v_or0, v_not, v_nt, v_boo, v_bo, v_cnd, v_cd1, v_cd0, v_cnc, v_cc1, v_cc0, v_ev0, v_ev, v_e1, v_e2, v_cve, v_cv, v_cse, v_cs, v_skip, v_seq, v_sq0, v_sq1, v_sqr, v_sts, v_st, v_inc, v_put, v_pt, v_pt2, v_fop, v_fo, v_fo2, v_ast, v_as, v_as2, v_as3, v_aop, v_ao, v_ao2, v_ao3, v_exs, v_ex, v_ifs, v_if1, v_if0, v_ret, v_rt, v_rez, v_rz, v_rev, v_brk, v_sws, v_sw, v_sw2, v_run, v_rb, v_turn, v_tu1, v_tu0, v_tu2, v_tu3, fst1, snd1, Option.map_some, Option.getD_some, enA, en, stE, okb, narV, rf_toNat, rf_nn, List.getElem?_cons_zero, List.getElem?_cons_succ, w32_id, w64_id, ite_t, ite_f, Int.toNat_add, Int.toNat_mul, dec_t, dec_f, sM_0, i0, i1, i3, i5, e2]
  · have b := b_rule_s h C t
    rw [t] at i0 i1 i3 i5 i4 i8
    rw [if_neg (by decide)] at i0
    rw [if_neg (by decide)] at i1
    rw [if_neg (by decide)] at i3
    rw [if_neg (by decide)] at i5
    rw [if_neg (by decide)] at i4
    rw [if_pos ⟨rfl, rfl⟩] at i8
    rcases b with ⟨a', K', n', P', M', m, k, e1, e2, l, p', c'⟩ | ⟨m, k, e1, e2, fo⟩
    · refine .inl ⟨a', K', n', P', M', m, k, ?_, ?_, l, p', c'⟩
      · rw [t, ln_8]; exact e1
      · simp -implicitDefEqProofs (disch := omega) [fX12_readLine, bX12_readLine, v_cop, v_c1, v_c2, v_c3, v_c4, v_c5, v_bin, v_bn, v_bn2, v_div, v_dv, v_dv2, v_une, v_un, v_loc, v_num, v_get, v_gt, v_ald, v_al, v_al2, v_len, v_ln, v_rl0, v_rl1, v_rl2, v_rl3, v_rl4, v_rl5, v_cmp, v_cp, v_cp2, v_zC, v_zc, v_con, v_kc, v_and, v_an1, v_an0, v_or, v_or1, v_or0, v_not, v_nt, v_boo, v_bo, v_cnd, v_cd1, v_cd0, v_cnc, v_cc1, v_cc0, v_ev0, v_ev, v_e1, v_e2, v_cve, v_cv, v_cse, v_cs, v_skip, v_seq, v_sq0, v_sq1, v_sqr, v_sts, v_st, v_inc, v_put, v_pt, v_pt2, v_fop, v_fo, v_fo2, v_ast, v_as, v_as2, v_as3, v_aop, v_ao, v_ao2, v_ao3, v_exs, v_ex, v_ifs, v_if1, v_if0, v_ret, v_rt, v_rez, v_rz, v_rev, v_brk, v_sws, v_sw, v_sw2, v_run, v_rb, v_turn, v_tu1, v_tu0, v_tu2, v_tu3, fst1, snd1, Option.map_some, Option.getD_some, enA, en, stE, okb, narV, rf_toNat, rf_nn, List.getElem?_cons_zero, List.getElem?_cons_succ, w32_id, w64_id, ite_t, ite_f, Int.toNat_add, Int.toNat_mul, dec_t, dec_f, sM_0, i0, i1, i3, i5, i4, i8, e2]
    · refine .inr ⟨m, k, ?_, ?_, fo⟩
      · rw [t, ln_8]; exact e1
      · simp -implicitDefEqProofs (disch := omega) [fX12_readLine, bX12_readLine, v_cop, v_c1, v_c2, v_c3, v_c4, v_c5, v_bin, v_bn, v_bn2, v_div, v_dv, v_dv2, v_une, v_un, v_loc, v_num, v_get, v_gt, v_ald, v_al, v_al2, v_len, v_ln, v_rl0, v_rl1, v_rl2, v_rl3, v_rl4, v_rl5, v_cmp, v_cp, v_cp2, v_zC, v_zc, v_con, v_kc, v_and, v_an1, v_an0, v_or, v_or1, v_or0, v_not, v_nt, v_boo, v_bo, v_cnd, v_cd1, v_cd0, v_cnc, v_cc1, v_cc0, v_ev0, v_ev, v_e1, v_e2, v_cve, v_cv, v_cse, v_cs, v_skip, v_seq, v_sq0, v_sq1, v_sqr, v_sts, v_st, v_inc, v_put, v_pt, v_pt2, v_fop, v_fo, v_fo2, v_ast, v_as, v_as2, v_as3, v_aop, v_ao, v_ao2, v_ao3, v_exs, v_ex, v_ifs, v_if1, v_if0, v_ret, v_rt, v_rez, v_rz, v_rev, v_brk, v_sws, v_sw, v_sw2, v_run, v_rb, v_turn, v_tu1, v_tu0, v_tu2, v_tu3, fst1, snd1, Option.map_some, Option.getD_some, enA, en, stE, okb, narV, rf_toNat, rf_nn, List.getElem?_cons_zero, List.getElem?_cons_succ, w32_id, w64_id, ite_t, ite_f, Int.toNat_add, Int.toNat_mul, dec_t, dec_f, sM_0, i0, i1, i3, i5, i4, i8, e2]
  · obtain ⟨n0, n1, n3, n4, n5, n8⟩ := t
    have ew := c_wrong h.rq (k := 1) (by decide) (by decide)
    have er := r_wrong h.mq h.f0 (k := 1) (by decide) (by decide)
    rw [if_neg (fun q => n0 q.2)] at i0
    rw [if_neg (fun q => n1 q.2)] at i1
    rw [if_neg (fun q => n3 q.2)] at i3
    rw [if_neg (fun q => n4 q.2)] at i4
    rw [if_neg (fun q => n5 q.2)] at i5
    rw [if_neg (fun q => n8 q.2)] at i8
    refine .inr ⟨_, _, ?_, ?_, h.fo (k := 1) (by decide)⟩
    · rw [ln_w n0 n1 n3 n4 n5 n8]; exact ew
    · generalize ud μM 0 8 (ftA c N a 1) = k1 at *
      simp -implicitDefEqProofs (disch := omega) [fX12_readLine, bX12_readLine, v_cop, v_c1, v_c2, v_c3, v_c4, v_c5, v_bin, v_bn, v_bn2, v_div, v_dv, v_dv2, v_une, v_un, v_loc, v_num, v_get, v_gt, v_ald, v_al, v_al2, v_len, v_ln, v_rl0, v_rl1, v_rl2, v_rl3, v_rl4, v_rl5, v_cmp, v_cp, v_cp2, v_zC, v_zc, v_con, v_kc, v_and, v_an1, v_an0, v_or, v_or1, v_or0, v_not, v_nt, v_boo, v_bo, v_cnd, v_cd1, v_cd0, v_cnc, v_cc1, v_cc0, v_ev0, v_ev, v_e1, v_e2, v_cve, v_cv, v_cse, v_cs, v_skip, v_seq, v_sq0, v_sq1, v_sqr, v_sts, v_st, v_inc, v_put, v_pt, v_pt2, v_fop, v_fo, v_fo2, v_ast, v_as, v_as2, v_as3, v_aop, v_ao, v_ao2, v_ao3, v_exs, v_ex, v_ifs, v_if1, v_if0, v_ret, v_rt, v_rez, v_rz, v_rev, v_brk, v_sws, v_sw, v_sw2, v_run, v_rb, v_turn, v_tu1, v_tu0, v_tu2, v_tu3, fst1, snd1, Option.map_some, Option.getD_some, enA, en, stE, okb, narV, rf_toNat, rf_nn, List.getElem?_cons_zero, List.getElem?_cons_succ, w32_id, w64_id, ite_t, ite_f, Int.toNat_add, Int.toNat_mul, dec_t, dec_f, sM_0, i0, i1, i3, i4, i5, i8, er]
/-- all lines -/
def AQd (mC mM : Mem) (c : Nat → Int) (N T d : Nat) (f : Nat × Int) (rC rM : Rs) : Prop := (∃ a K n P M μC μM eC, rC = (0, 0, eC, μC) ∧ rM = (0, 0, [(2, rf 0), f], μM) ∧ PF mC mM μC μM c N T d a K ∧ CN μC μM c N T d n P M K) ∨ (∃ F μC μM eC, rC = (1, F, eC, μC) ∧ rM = (0, 0, [(2, rf 0), f], μM) ∧ 0 < F ∧ FO mC mM μC μM c N T d ∧ μM 0 8 = F)
set_option maxRecDepth 100000 in theorem b_lines {mC mM : Mem} {c : Nat → Int} {N T d : Nat} {f : Nat × Int} : ∀ z eC mC' eM mM', (∃ (a i K n P M tk : Nat) (tv : Int), z = T - a ∧ eC = [(2, rf 27), (2, rf d), (0, (i : Int)), (tk, tv)] ∧ ¬ tk = 1 ∧ eM = [(2, rf 0), f] ∧ PF mC mM mC' mM' c N T d a K ∧ CN mC' mM' c N T d n P M K ∧ i ≤ a) → ∃ rC rM, loopS 2 3 kX8_read_0c kX8_read_0b kX8_read_0u shC eC mC' = some rC ∧ loopS 4 5 kX12_flock_1c kX12_flock_1b kX12_flock_1u shM eM mM' = some rM ∧ AQd mC mM c N T d f rC rM := by
  refine joint2 (S := fun z eC mC' eM mM' => ∃ (a i K n P M tk : Nat) (tv : Int), z = T - a ∧ eC = [(2, rf 27), (2, rf d), (0, (i : Int)), (tk, tv)] ∧ ¬ tk = 1 ∧ eM = [(2, rf 0), f] ∧ PF mC mM mC' mM' c N T d a K ∧ CN mC' mM' c N T d n P M K ∧ i ≤ a) (Q := AQd mC mM c N T d f) ?_
  rintro z eC μC eM μM ⟨a, i, K, n, P, M, tk, tv, rfl, rfl, hk3, rfl, h, C, ia⟩
  have t2 := h.rq.t2
  have r0 := h.rq.2.2.2.1
  have hd := h.rq.1
  have lT := h.la
  have la := h.mq.pl.2.2
  have pm := h.mq.1
  have a7 := h.a7
  have f0 := h.f0
  have stopF : ∀ (k : Mem) (F : Int), 0 < F → k 0 8 = F → turnS 4 5 kX12_flock_1c kX12_flock_1b kX12_flock_1u shM [(2, rf 0), f] k = some (.inr (0, 0, [(2, rf 0), f], k)) := fun k F hF h8 => by
    have fn : ¬ F = 0 := by omega
    simp -implicitDefEqProofs (disch := omega) [kX12_flock_1c, v_cop, v_c1, v_c2, v_c3, v_c4, v_c5, v_bin, v_bn, v_bn2, v_div, v_dv, v_dv2, v_une, v_un, v_loc, v_num, v_get, v_gt, v_ald, v_al, v_al2, v_len, v_ln, v_rl0, v_rl1, v_rl2, v_rl3, v_rl4, v_rl5, v_cmp, v_cp, v_cp2, v_zC, v_zc, v_con, v_kc, v_and, v_an1, v_an0, v_or, v_or1, v_or0, v_not, v_nt, v_boo, v_bo, v_cnd, v_cd1, v_cd0, v_cnc, v_cc1, v_cc0, v_ev0, v_ev, v_e1, v_e2, v_cve, v_cv, v_cse, v_cs, v_skip, v_seq, v_sq0, v_sq1, v_sqr, v_sts, v_st, v_inc, v_put, v_pt, v_pt2, v_fop, v_fo, v_fo2, v_ast, v_as, v_as2, v_as3, v_aop, v_ao, v_ao2, v_ao3, v_exs, v_ex, v_ifs, v_if1, v_if0, v_ret, v_rt, v_rez, v_rz, v_rev, v_brk, v_sws, v_sw, v_sw2, v_run, v_rb, v_turn, v_tu1, v_tu0, v_tu2, v_tu3, fst1, snd1, Option.map_some, Option.getD_some, enA, en, stE, okb, narV, rf_toNat, rf_nn, List.getElem?_cons_zero, List.getElem?_cons_succ, w32_id, w64_id, ite_t, ite_f, Int.toNat_add, Int.toNat_mul, dec_t, dec_f, sM_0, h8, fn]
  by_cases t : tkA c N a = 26
  · have aT := h.mq.end_.mp t
    have s2 : μM 2 a = 0 := by rw [aT]; exact h.mq.2.2.1
    rw [t] at t2
    refine .inr ⟨_, _, turn_end (r := (0, 0, [(2, rf 27), (2, rf d), (0, (i : Int)), (tk, tv)], μC)) ?_, turn_end (r := (0, 0, [(2, rf 0), f], μM)) ?_, .inl ⟨a, K, n, P, M, μC, μM, _, rfl, rfl, h, C⟩⟩
    · by_cases i1 : i < 1000
      · simp -implicitDefEqProofs (disch := omega) [kX8_read_0c, v_cop, v_c1, v_c2, v_c3, v_c4, v_c5, v_bin, v_bn, v_bn2, v_div, v_dv, v_dv2, v_une, v_un, v_loc, v_num, v_get, v_gt, v_ald, v_al, v_al2, v_len, v_ln, v_rl0, v_rl1, v_rl2, v_rl3, v_rl4, v_rl5, v_cmp, v_cp, v_cp2, v_zC, v_zc, v_con, v_kc, v_and, v_an1, v_an0, v_or, v_or1, v_or0, v_not, v_nt, v_boo, v_bo, v_cnd, v_cd1, v_cd0, v_cnc, v_cc1, v_cc0, v_ev0, v_ev, v_e1, v_e2, v_cve, v_cv, v_cse, v_cs, v_skip, v_seq, v_sq0, v_sq1, v_sqr, v_sts, v_st, v_inc, v_put, v_pt, v_pt2, v_fop, v_fo, v_fo2, v_ast, v_as, v_as2, v_as3, v_aop, v_ao, v_ao2, v_ao3, v_exs, v_ex, v_ifs, v_if1, v_if0, v_ret, v_rt, v_rez, v_rz, v_rev, v_brk, v_sws, v_sw, v_sw2, v_run, v_rb, v_turn, v_tu1, v_tu0, v_tu2, v_tu3, fst1, snd1, Option.map_some, Option.getD_some, enA, en, stE, okb, narV, rf_toNat, rf_nn, List.getElem?_cons_zero, List.getElem?_cons_succ, w32_id, w64_id, ite_t, ite_f, Int.toNat_add, Int.toNat_mul, dec_t, dec_f, sC_27, sC_1, r0, t2]
      · simp -implicitDefEqProofs (disch := omega) [kX8_read_0c, v_cop, v_c1, v_c2, v_c3, v_c4, v_c5, v_bin, v_bn, v_bn2, v_div, v_dv, v_dv2, v_une, v_un, v_loc, v_num, v_get, v_gt, v_ald, v_al, v_al2, v_len, v_ln, v_rl0, v_rl1, v_rl2, v_rl3, v_rl4, v_rl5, v_cmp, v_cp, v_cp2, v_zC, v_zc, v_con, v_kc, v_and, v_an1, v_an0, v_or, v_or1, v_or0, v_not, v_nt, v_boo, v_bo, v_cnd, v_cd1, v_cd0, v_cnc, v_cc1, v_cc0, v_ev0, v_ev, v_e1, v_e2, v_cve, v_cv, v_cse, v_cs, v_skip, v_seq, v_sq0, v_sq1, v_sqr, v_sts, v_st, v_inc, v_put, v_pt, v_pt2, v_fop, v_fo, v_fo2, v_ast, v_as, v_as2, v_as3, v_aop, v_ao, v_ao2, v_ao3, v_exs, v_ex, v_ifs, v_if1, v_if0, v_ret, v_rt, v_rez, v_rz, v_rev, v_brk, v_sws, v_sw, v_sw2, v_run, v_rb, v_turn, v_tu1, v_tu0, v_tu2, v_tu3, fst1, snd1, Option.map_some, Option.getD_some, enA, en, stE, okb, narV, rf_toNat, rf_nn, List.getElem?_cons_zero, List.getElem?_cons_succ, w32_id, w64_id, ite_t, ite_f, Int.toNat_add, Int.toNat_mul, dec_t, dec_f, sC_27, sC_1, r0, t2]
    · simp -implicitDefEqProofs (disch := omega) [kX12_flock_1c, v_cop, v_c1, v_c2, v_c3, v_c4, v_c5, v_bin, v_bn, v_bn2, v_div, v_dv, v_dv2, v_une, v_un, v_loc, v_num, v_get, v_gt, v_ald, v_al, v_al2, v_len, v_ln, v_rl0, v_rl1, v_rl2, v_rl3, v_rl4, v_rl5, v_cmp, v_cp, v_cp2, v_zC, v_zc, v_con, v_kc, v_and, v_an1, v_an0, v_or, v_or1, v_or0, v_not, v_nt, v_boo, v_bo, v_cnd, v_cd1, v_cd0, v_cnc, v_cc1, v_cc0, v_ev0, v_ev, v_e1, v_e2, v_cve, v_cv, v_cse, v_cs, v_skip, v_seq, v_sq0, v_sq1, v_sqr, v_sts, v_st, v_inc, v_put, v_pt, v_pt2, v_fop, v_fo, v_fo2, v_ast, v_as, v_as2, v_as3, v_aop, v_ao, v_ao2, v_ao3, v_exs, v_ex, v_ifs, v_if1, v_if0, v_ret, v_rt, v_rez, v_rz, v_rev, v_brk, v_sws, v_sw, v_sw2, v_run, v_rb, v_turn, v_tu1, v_tu0, v_tu2, v_tu3, fst1, snd1, Option.map_some, Option.getD_some, enA, en, stE, okb, narV, rf_toNat, rf_nn, List.getElem?_cons_zero, List.getElem?_cons_succ, w32_id, w64_id, ite_t, ite_f, Int.toNat_add, Int.toNat_mul, dec_t, dec_f, sM_0, sM_2, f0, pm.p4, a7, s2]
  · have aT := h.lt t
    have s2 : ¬ μM 2 a = 0 := by
      rcases h.mq.tok with ⟨g1, -⟩ | ⟨g1, -⟩ | ⟨g1, -⟩ | ⟨g1, -⟩ | ⟨g1, g2, g3⟩
      · omega
      · omega
      · omega
      · omega
      · omega
    have i1 : i < 1000 := by omega
    rcases b_line h C with ⟨a', K', n', P', M', m, k, e1, e2, l, p', c'⟩ | ⟨m, k, e1, e2, fo⟩
    · have cb := c_body h (i := (i : Int)) (tv := tv) hk3 e1
      have ts := r_takeSign (x := 59) p'.mq p'.f0 (by decide)
      by_cases cl : tkA c N a' = 59
      · rw [if_pos cl] at ts
        obtain ⟨m2, e3, p2, D2⟩ := p'.pass cl (by decide)
        have c2 : CN m2 (ud k 0 7 ((a' : Int) + 1)) c N T d n' P' M' K' := c'.of hd (fun x y hx => D2 x y (by omega)) (fun x y hx => by rw [ud_n (by omega)])
        refine .inl ⟨T - (a' + 1), [(2, rf 27), (2, rf d), (0, ((i + 1 : Nat) : Int)), (0, 1)], m2, [(2, rf 0), f], _, by omega, ?_, ?_, a' + 1, i + 1, K', n', P', M', 0, 1, rfl, rfl, by decide, rfl, p2, c2, by omega⟩
        · clear C c' c2 stopF
          generalize tkA c N a = V at *
          simp -implicitDefEqProofs (disch := omega) [kX8_read_0c, kX8_read_0u, v_cop, v_c1, v_c2, v_c3, v_c4, v_c5, v_bin, v_bn, v_bn2, v_div, v_dv, v_dv2, v_une, v_un, v_loc, v_num, v_get, v_gt, v_ald, v_al, v_al2, v_len, v_ln, v_rl0, v_rl1, v_rl2, v_rl3, v_rl4, v_rl5, v_cmp, v_cp, v_cp2, v_zC, v_zc, v_con, v_kc, v_and, v_an1, v_an0, v_or, v_or1, v_or0, v_not, v_nt, v_boo, v_bo, v_cnd, v_cd1, v_cd0, v_cnc, v_cc1, v_cc0, v_ev0, v_ev, v_e1, v_e2, v_cve, v_cv, v_cse, v_cs, v_skip, v_seq, v_sq0, v_sq1, v_sqr, v_sts, v_st, v_inc, v_put, v_pt, v_pt2, v_fop, v_fo, v_fo2, v_ast, v_as, v_as2, v_as3, v_aop, v_ao, v_ao2, v_ao3, v_exs, v_ex, v_ifs, v_if1, v_if0, v_ret, v_rt, v_rez, v_rz, v_rev, v_brk, v_sws, v_sw, v_sw2, v_run, v_rb, v_turn, v_tu1, v_tu0, v_tu2, v_tu3, fst1, snd1, Option.map_some, Option.getD_some, enA, en, stE, okb, narV, rf_toNat, rf_nn, List.getElem?_cons_zero, List.getElem?_cons_succ, w32_id, w64_id, ite_t, ite_f, Int.toNat_add, Int.toNat_mul, dec_t, dec_f, sC_27, sC_1, r0, t2, t, cb, lnT, e3]
        · clear C c' c2 stopF
          generalize ud k 0 7 ((a' : Int) + 1) = k2 at *
          simp -implicitDefEqProofs (disch := omega) [kX12_flock_1c, kX12_flock_1b, kX12_flock_1u, v_cop, v_c1, v_c2, v_c3, v_c4, v_c5, v_bin, v_bn, v_bn2, v_div, v_dv, v_dv2, v_une, v_un, v_loc, v_num, v_get, v_gt, v_ald, v_al, v_al2, v_len, v_ln, v_rl0, v_rl1, v_rl2, v_rl3, v_rl4, v_rl5, v_cmp, v_cp, v_cp2, v_zC, v_zc, v_con, v_kc, v_and, v_an1, v_an0, v_or, v_or1, v_or0, v_not, v_nt, v_boo, v_bo, v_cnd, v_cd1, v_cd0, v_cnc, v_cc1, v_cc0, v_ev0, v_ev, v_e1, v_e2, v_cve, v_cv, v_cse, v_cs, v_skip, v_seq, v_sq0, v_sq1, v_sqr, v_sts, v_st, v_inc, v_put, v_pt, v_pt2, v_fop, v_fo, v_fo2, v_ast, v_as, v_as2, v_as3, v_aop, v_ao, v_ao2, v_ao3, v_exs, v_ex, v_ifs, v_if1, v_if0, v_ret, v_rt, v_rez, v_rz, v_rev, v_brk, v_sws, v_sw, v_sw2, v_run, v_rb, v_turn, v_tu1, v_tu0, v_tu2, v_tu3, fst1, snd1, Option.map_some, Option.getD_some, enA, en, stE, okb, narV, rf_toNat, rf_nn, List.getElem?_cons_zero, List.getElem?_cons_succ, w32_id, w64_id, ite_t, ite_f, Int.toNat_add, Int.toNat_mul, dec_t, dec_f, sM_0, sM_2, f0, pm.p4, a7, s2, e2, ts]
      · rw [if_neg cl] at ts
        have e3 := c_passed0 p'.rq cl
        have fo := p'.fo (k := 1) (by decide)
        have fp := ft_pos (c := c) (N := N) (a := a') (k := 1) (by decide)
        have z5 : ud m 27 5 (ftA c N a' 1) 27 5 = ftA c N a' 1 := ud_s
        have z8 : ud k 0 8 (ftA c N a' 1) 0 8 = ftA c N a' 1 := ud_s
        have st := stopF _ _ fp z8
        refine .inr ⟨_, _, turn_end (r := (1, ftA c N a' 1, [(2, rf 27), (2, rf d), (0, (i : Int)), (0, 1)], ud m 27 5 (ftA c N a' 1))) ?_, (turn_go (env' := [(2, rf 0), f]) (μ' := ud k 0 8 (ftA c N a' 1)) ?_).trans (turn_end st), .inr ⟨_, _, _, _, rfl, rfl, fp, fo, z8⟩⟩
        · clear C c' stopF fo st z8
          generalize tkA c N a = V at *
          generalize ud m 27 5 (ftA c N a' 1) = m2 at *
          generalize ftA c N a' 1 = F at *
          simp -implicitDefEqProofs (disch := omega) [kX8_read_0c, kX8_read_0u, v_cop, v_c1, v_c2, v_c3, v_c4, v_c5, v_bin, v_bn, v_bn2, v_div, v_dv, v_dv2, v_une, v_un, v_loc, v_num, v_get, v_gt, v_ald, v_al, v_al2, v_len, v_ln, v_rl0, v_rl1, v_rl2, v_rl3, v_rl4, v_rl5, v_cmp, v_cp, v_cp2, v_zC, v_zc, v_con, v_kc, v_and, v_an1, v_an0, v_or, v_or1, v_or0, v_not, v_nt, v_boo, v_bo, v_cnd, v_cd1, v_cd0, v_cnc, v_cc1, v_cc0, v_ev0, v_ev, v_e1, v_e2, v_cve, v_cv, v_cse, v_cs, v_skip, v_seq, v_sq0, v_sq1, v_sqr, v_sts, v_st, v_inc, v_put, v_pt, v_pt2, v_fop, v_fo, v_fo2, v_ast, v_as, v_as2, v_as3, v_aop, v_ao, v_ao2, v_ao3, v_exs, v_ex, v_ifs, v_if1, v_if0, v_ret, v_rt, v_rez, v_rz, v_rev, v_brk, v_sws, v_sw, v_sw2, v_run, v_rb, v_turn, v_tu1, v_tu0, v_tu2, v_tu3, fst1, snd1, Option.map_some, Option.getD_some, enA, en, stE, okb, narV, rf_toNat, rf_nn, List.getElem?_cons_zero, List.getElem?_cons_succ, w32_id, w64_id, ite_t, ite_f, Int.toNat_add, Int.toNat_mul, dec_t, dec_f, sC_27, sC_1, r0, t2, t, cb, lnT, e3, z5]
        · clear C c' stopF fo st
          generalize ud k 0 8 (ftA c N a' 1) = k2 at *
          simp -implicitDefEqProofs (disch := omega) [kX12_flock_1c, kX12_flock_1b, kX12_flock_1u, v_cop, v_c1, v_c2, v_c3, v_c4, v_c5, v_bin, v_bn, v_bn2, v_div, v_dv, v_dv2, v_une, v_un, v_loc, v_num, v_get, v_gt, v_ald, v_al, v_al2, v_len, v_ln, v_rl0, v_rl1, v_rl2, v_rl3, v_rl4, v_rl5, v_cmp, v_cp, v_cp2, v_zC, v_zc, v_con, v_kc, v_and, v_an1, v_an0, v_or, v_or1, v_or0, v_not, v_nt, v_boo, v_bo, v_cnd, v_cd1, v_cd0, v_cnc, v_cc1, v_cc0, v_ev0, v_ev, v_e1, v_e2, v_cve, v_cv, v_cse, v_cs, v_skip, v_seq, v_sq0, v_sq1, v_sqr, v_sts, v_st, v_inc, v_put, v_pt, v_pt2, v_fop, v_fo, v_fo2, v_ast, v_as, v_as2, v_as3, v_aop, v_ao, v_ao2, v_ao3, v_exs, v_ex, v_ifs, v_if1, v_if0, v_ret, v_rt, v_rez, v_rz, v_rev, v_brk, v_sws, v_sw, v_sw2, v_run, v_rb, v_turn, v_tu1, v_tu0, v_tu2, v_tu3, fst1, snd1, Option.map_some, Option.getD_some, enA, en, stE, okb, narV, rf_toNat, rf_nn, List.getElem?_cons_zero, List.getElem?_cons_succ, w32_id, w64_id, ite_t, ite_f, Int.toNat_add, Int.toNat_mul, dec_t, dec_f, sM_0, sM_2, f0, pm.p4, a7, s2, e2, ts]
    · have cb := c_body h (i := (i : Int)) (tv := tv) hk3 e1
      have fo0 := fo
      obtain ⟨F, b, K', g1, g2, g3, g4, -⟩ := fo0
      have ts := r_takeSignF (x := 59) g4 g3 g1 (by decide)
      have st := stopF _ _ g1 g3
      refine .inr ⟨_, _, turn_end (r := (1, F, [(2, rf 27), (2, rf d), (0, (i : Int)), (0, 0)], m)) ?_, (turn_go (env' := [(2, rf 0), f]) (μ' := k) ?_).trans (turn_end st), .inr ⟨_, _, _, _, rfl, rfl, g1, fo, g3⟩⟩
      · clear C stopF fo st
        generalize tkA c N a = V at *
        simp -implicitDefEqProofs (disch := omega) [kX8_read_0c, kX8_read_0u, v_cop, v_c1, v_c2, v_c3, v_c4, v_c5, v_bin, v_bn, v_bn2, v_div, v_dv, v_dv2, v_une, v_un, v_loc, v_num, v_get, v_gt, v_ald, v_al, v_al2, v_len, v_ln, v_rl0, v_rl1, v_rl2, v_rl3, v_rl4, v_rl5, v_cmp, v_cp, v_cp2, v_zC, v_zc, v_con, v_kc, v_and, v_an1, v_an0, v_or, v_or1, v_or0, v_not, v_nt, v_boo, v_bo, v_cnd, v_cd1, v_cd0, v_cnc, v_cc1, v_cc0, v_ev0, v_ev, v_e1, v_e2, v_cve, v_cv, v_cse, v_cs, v_skip, v_seq, v_sq0, v_sq1, v_sqr, v_sts, v_st, v_inc, v_put, v_pt, v_pt2, v_fop, v_fo, v_fo2, v_ast, v_as, v_as2, v_as3, v_aop, v_ao, v_ao2, v_ao3, v_exs, v_ex, v_ifs, v_if1, v_if0, v_ret, v_rt, v_rez, v_rz, v_rev, v_brk, v_sws, v_sw, v_sw2, v_run, v_rb, v_turn, v_tu1, v_tu0, v_tu2, v_tu3, fst1, snd1, Option.map_some, Option.getD_some, enA, en, stE, okb, narV, rf_toNat, rf_nn, List.getElem?_cons_zero, List.getElem?_cons_succ, w32_id, w64_id, ite_t, ite_f, Int.toNat_add, Int.toNat_mul, dec_t, dec_f, sC_27, sC_1, r0, t2, t, cb, lnT, g2]
      · clear C stopF fo st
        simp -implicitDefEqProofs (disch := omega) [kX12_flock_1c, kX12_flock_1b, kX12_flock_1u, v_cop, v_c1, v_c2, v_c3, v_c4, v_c5, v_bin, v_bn, v_bn2, v_div, v_dv, v_dv2, v_une, v_un, v_loc, v_num, v_get, v_gt, v_ald, v_al, v_al2, v_len, v_ln, v_rl0, v_rl1, v_rl2, v_rl3, v_rl4, v_rl5, v_cmp, v_cp, v_cp2, v_zC, v_zc, v_con, v_kc, v_and, v_an1, v_an0, v_or, v_or1, v_or0, v_not, v_nt, v_boo, v_bo, v_cnd, v_cd1, v_cd0, v_cnc, v_cc1, v_cc0, v_ev0, v_ev, v_e1, v_e2, v_cve, v_cv, v_cse, v_cs, v_skip, v_seq, v_sq0, v_sq1, v_sqr, v_sts, v_st, v_inc, v_put, v_pt, v_pt2, v_fop, v_fo, v_fo2, v_ast, v_as, v_as2, v_as3, v_aop, v_ao, v_ao2, v_ao3, v_exs, v_ex, v_ifs, v_if1, v_if0, v_ret, v_rt, v_rez, v_rz, v_rev, v_brk, v_sws, v_sw, v_sw2, v_run, v_rb, v_turn, v_tu1, v_tu0, v_tu2, v_tu3, fst1, snd1, Option.map_some, Option.getD_some, enA, en, stE, okb, narV, rf_toNat, rf_nn, List.getElem?_cons_zero, List.getElem?_cons_succ, w32_id, w64_id, ite_t, ite_f, Int.toNat_add, Int.toNat_mul, dec_t, dec_f, sM_0, sM_2, f0, pm.p4, a7, s2, e2, ts]
