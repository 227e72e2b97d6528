/-! a meadow's line -/
set_option maxRecDepth 100000 in theorem cn_meadow {μC μM mC mM : Mem} {c : Nat → Int} {N T d n P M K b : Nat} {gr fa : Int} (C : CN μC μM c N T d n P M K) (hd : d = 3 ∨ d = 15) (m6' : M < 6) (hb : b < T) (rs : rsA c N b = 1) (nk : ¬ knN μC n M (nmA c N b)) (k0 : 0 ≤ gr ∧ gr ≤ 99) (t0 : 1 ≤ fa ∧ fa ≤ 99) (eC : ∀ x y, ¬ ((x = 1 ∧ 2 ≤ y) ∨ (x = d ∧ y = 3) ∨ (x = d + 4 ∧ y = M) ∨ (x = d + 5 ∧ y = M) ∨ (x = 29 ∧ y = M)) → mC x y = μC x y) (c1 : mC d 3 = (M : Int) + 1) (c2 : mC (d + 4) M = gr) (c3 : mC (d + 5) M = fa) (c4 : mC 29 M = nmA c N b) (eM : ∀ x y, ¬ ((x = 0 ∧ (y = 7 ∨ y = 17)) ∨ (x = 6 ∧ (y = 192 ∨ y = 361 + 2 * M ∨ y = 362 + 2 * M)) ∨ (x = 9 ∧ y = n + M) ∨ (x = 10 ∧ y = n + M)) → mM x y = μM x y) (m1 : mM 6 192 = (M : Int) + 1) (m2 : mM 6 (361 + 2 * M) = gr) (m3 : mM 6 (362 + 2 * M) = fa) (m4 : mM 9 (n + M) = rvA c N b) (m5 : mM 10 (n + M) = 12 + (M : Int)) (m6 : mM 0 17 = ((n + M : Nat) : Int) + 1) : CN mC mM c N T d n P (M + 1) K := by
  have fl : ∀ i, i ≠ 2 → i ≠ 171 + 2 * M → i ≠ 172 + 2 * M → fld mM i = fld μM i := fun i h1 h2 h3 => eM _ _ (by omega)
  have q7 : opD mM = opD μM := funext (fun i => eM _ _ (by omega))
  have q8 : agD mM = agD μM := funext (fun i => eM _ _ (by omega))
  have B := C.fb
  have R := C.fr
  have f1 : fld mM 2 = (M : Int) + 1 := m1
  have f2 : fld mM (171 + 2 * M) = gr := by show mM 6 (190 + (171 + 2 * M)) = gr; rw [show 190 + (171 + 2 * M) = 361 + 2 * M by omega]; exact m2
  have f3 : fld mM (171 + 2 * M + 1) = fa := by show mM 6 (190 + (171 + 2 * M + 1)) = fa; rw [show 190 + (171 + 2 * M + 1) = 362 + 2 * M by omega]; exact m3
  have n1 := B.n1
  refine ⟨⟨by rw [eM _ _ (by omega), eC _ _ (by omega)]; exact C.1.1, by rw [eC _ _ (by omega)]; exact C.1.2⟩, ?_, ?_, fun x y hx hy hz => by rw [fl _ (by omega) (by omega) (by omega)]; exact C.lz x y hx hy hz, ?_, ?_, ?_⟩
  · refine ⟨by rw [fl _ (by omega) (by omega) (by omega)]; exact B.P0, B.P1, B.P2, by rw [fl _ (by omega) (by omega) (by omega)]; exact B.n0, B.n1, B.n2, by rw [f1]; omega, by omega, fun x hx => by rw [fl _ (by omega) (by omega) (by omega)]; exact B.ki x hx, fun x hx => by rw [fl _ (by omega) (by omega) (by omega)]; exact B.to x hx, fun x y hx hy => by rw [fl _ (by omega) (by omega) (by omega)]; exact B.li x y hx hy, fun x y hx hy => by rw [fl _ (by omega) (by omega) (by omega), fl _ (by omega) (by omega) (by omega)]; exact B.sy x y hx hy, fun m hm => ?_, fun m hm => ?_⟩
    · by_cases e : m = M
      · rw [e, f2]; exact k0
      · rw [fl _ (by omega) (by omega) (by omega)]; exact B.gr m (by omega)
    · by_cases e : m = M
      · rw [e, f3]; exact t0
      · rw [fl _ (by omega) (by omega) (by omega)]; exact B.fa m (by omega)
  · refine ⟨by rw [eC _ _ (by omega), fl _ (by omega) (by omega) (by omega)]; exact R.pl, by rw [eC _ _ (by omega), fl _ (by omega) (by omega) (by omega)]; exact R.be, ?_, by rw [c1, f1], fun x hx => by rw [eC _ _ (by omega), fl _ (by omega) (by omega) (by omega)]; exact R.ki x hx, fun x hx => by rw [eC _ _ (by omega), fl _ (by omega) (by omega) (by omega)]; exact R.to x hx, fun i hi => by rw [eC _ _ (by omega), fl _ (by omega) (by omega) (by omega)]; exact R.li i hi, fun m hm => ?_, fun m hm => ?_⟩
    · rw [eC _ _ (by omega), R.pa]
      unfold prS
      exact sum_congr (fun x hx => sum_congr (fun y hy => by rw [fl _ (by omega) (by omega) (by omega)]))
    · by_cases e : m = M
      · rw [e, c2, f2]
      · rw [eC _ _ (by omega), fl _ (by omega) (by omega) (by omega)]; exact R.gr m (by omega)
    · by_cases e : m = M
      · rw [e, c3, f3]
      · rw [eC _ _ (by omega), fl _ (by omega) (by omega) (by omega)]; exact R.fa m (by omega)
  · obtain ⟨h1, h2, h3, h4, h5, h6⟩ := C.nr
    refine ⟨by rw [m6]; omega, fun k hk => ?_, fun x hx => ?_, fun m hm => ?_, fun x y hx hy hh => ?_, fun x m hx hm hh => ?_⟩
    · by_cases e : k = n + M
      · subst e
        exact ⟨b, hb, rs, m4, .inr ⟨M, by omega, m5, c4⟩⟩
      · obtain ⟨t, g1, g2, g3, g4⟩ := h2 k (by omega)
        refine ⟨t, g1, g2, by rw [eM _ _ (by omega)]; exact g3, ?_⟩
        rcases g4 with ⟨x, i1, i2, i3⟩ | ⟨x, i1, i2, i3⟩
        · exact .inl ⟨x, i1, by rw [eM _ _ (by omega)]; exact i2, by rw [eC _ _ (by omega)]; exact i3⟩
        · exact .inr ⟨x, by omega, by rw [eM _ _ (by omega)]; exact i2, by rw [eC _ _ (by omega)]; exact i3⟩
    · obtain ⟨k, g1, g2⟩ := h3 x hx
      exact ⟨k, by omega, by rw [eM _ _ (by omega)]; exact g2⟩
    · by_cases e : m = M
      · subst e
        exact ⟨n + m, by omega, m5⟩
      · obtain ⟨k, g1, g2⟩ := h4 m (by omega)
        exact ⟨k, by omega, by rw [eM _ _ (by omega)]; exact g2⟩
    · rw [eC _ _ (by omega), eC _ _ (by omega)] at hh
      exact h5 x y hx hy hh
    · by_cases e1 : m = M
      · rw [e1, c4, eC _ _ (by omega)] at hh
        exact nk (.inl ⟨x, hx, hh⟩)
      · rw [eC _ _ (by omega), eC _ _ (by omega)] at hh
        exact h6 x m hx (by omega) hh
  · rw [q7, q8, fl _ (by omega) (by omega) (by omega)]
    exact C.ll.cls (fun x y hx => eC _ _ (by omega))
  · rw [q7, q8, fl _ (by omega) (by omega) (by omega)]
    exact C.ls.cls (fun x y hx => eC _ _ (by omega))
set_option maxRecDepth 100000 in theorem FO.mq {mC mM μC μM : Mem} {c : Nat → Int} {N T d : Nat} (h : FO mC mM μC μM c N T d) : ∃ F a, 0 < F ∧ μM 0 8 = F ∧ MDq μM c N T a := by
  obtain ⟨F, a, K, h1, h2, h3, h4, -⟩ := h
  exact ⟨F, a, h1, h3, h4⟩
set_option maxRecDepth 100000 in theorem b_meadow {mC mM μC μM : Mem} {c : Nat → Int} {N T d a K n P M : Nat} (h : PF mC mM μC μM c N T d a K) (C : CN μC μM c N T d n P M K) (t : tkA c N a = 5) : BO a mC mM (fX8_readMeadow shC [(2, rf 27)] μC) (fX12_readMeadow shM [(2, rf 0)] μM) c N T d := by
  have hd := h.rq.1
  have aT := h.lt (by omega)
  have lT := h.la
  have r0 := h.rq.2.2.2.1
  have r3 := h.rq.2.2.2.2.2.2.1
  have o0 := h.rq.2.2.2.2.2.2.2.1
  have n1 := C.fb.n1
  have M1 := C.fb.M1
  have cb : μC d 1 = (n : Int) := C.fr.be.trans C.fb.n0
  have cm : μC d 3 = (M : Int) := C.fr.me.trans C.fb.M0
  have rb : μM 6 192 = (M : Int) := C.fb.M0
  have pm := h.mq.1
  have a7 := h.a7
  by_cases full : M = 6
  · have e1 := c_wrong h.rq (k := 5) (by decide) (by decide)
    have e2 := r_wrong h.mq h.f0 (k := 5) (by decide) (by decide)
    refine .inr ⟨_, _, ?_, ?_, h.fo (k := 5) (by decide)⟩
    · generalize ftA c N a 5 = F at *
      simp -implicitDefEqProofs (disch := omega) [fX8_readMeadow, bX8_readMeadow, v_cop, v_c1, v_c2, v_c3, v_c4, v_c5, v_bin, v_bn, v_bn2, v_div, v_dv, v_dv2, v_une, v_un, v_loc, v_num, v_get, v_gt, v_ald, v_al, v_al2, v_len, v_ln, v_rl0, v_rl1, v_rl2, v_rl3, v_rl4, v_rl5, v_cmp, v_cp, v_cp2, v_zC, v_zc, v_con, v_kc, v_and, v_an1, v_an0, v_or, v_or1, v_or0, v_not, v_nt, v_boo, v_bo, v_cnd, v_cd1, v_cd0, v_cnc, v_cc1, v_cc0, v_ev0, v_ev, v_e1, v_e2, v_cve, v_cv, v_cse, v_cs, v_skip, v_seq, v_sq0, v_sq1, v_sqr, v_sts, v_st, v_inc, v_put, v_pt, v_pt2, v_fop, v_fo, v_fo2, v_ast, v_as, v_as2, v_as3, v_aop, v_ao, v_ao2, v_ao3, v_exs, v_ex, v_ifs, v_if1, v_if0, v_ret, v_rt, v_rez, v_rz, v_rev, v_brk, v_sws, v_sw, v_sw2, v_run, v_rb, v_turn, v_tu1, v_tu0, v_tu2, v_tu3, fst1, snd1, Option.map_some, Option.getD_some, enA, en, stE, okb, narV, rf_toNat, rf_nn, List.getElem?_cons_zero, List.getElem?_cons_succ, w32_id, w64_id, ite_t, ite_f, Int.toNat_add, Int.toNat_mul, dec_t, dec_f, sC_27, r3, o0, cm, full, e1]
    · generalize ftA c N a 5 = F at *
      simp -implicitDefEqProofs (disch := omega) [fX12_readMeadow, bX12_readMeadow, v_cop, v_c1, v_c2, v_c3, v_c4, v_c5, v_bin, v_bn, v_bn2, v_div, v_dv, v_dv2, v_une, v_un, v_loc, v_num, v_get, v_gt, v_ald, v_al, v_al2, v_len, v_ln, v_rl0, v_rl1, v_rl2, v_rl3, v_rl4, v_rl5, v_cmp, v_cp, v_cp2, v_zC, v_zc, v_con, v_kc, v_and, v_an1, v_an0, v_or, v_or1, v_or0, v_not, v_nt, v_boo, v_bo, v_cnd, v_cd1, v_cd0, v_cnc, v_cc1, v_cc0, v_ev0, v_ev, v_e1, v_e2, v_cve, v_cv, v_cse, v_cs, v_skip, v_seq, v_sq0, v_sq1, v_sqr, v_sts, v_st, v_inc, v_put, v_pt, v_pt2, v_fop, v_fo, v_fo2, v_ast, v_as, v_as2, v_as3, v_aop, v_ao, v_ao2, v_ao3, v_exs, v_ex, v_ifs, v_if1, v_if0, v_ret, v_rt, v_rez, v_rz, v_rev, v_brk, v_sws, v_sw, v_sw2, v_run, v_rb, v_turn, v_tu1, v_tu0, v_tu2, v_tu3, fst1, snd1, Option.map_some, Option.getD_some, enA, en, stE, okb, narV, rf_toNat, rf_nn, List.getElem?_cons_zero, List.getElem?_cons_succ, w32_id, w64_id, ite_t, ite_f, Int.toNat_add, Int.toNat_mul, dec_t, dec_f, sM_0, sM_6, pm.p10, rb, full, e2]
  · have M6 : M < 6 := by omega
    have g6 : ¬ (M : Int) = 6 := by omega
    obtain ⟨m1, e1, h1, D1⟩ := h.adv aT
    have b1 : m1 d 1 = (n : Int) := by rw [D1 _ _ (by omega)]; exact cb
    have b3 : m1 d 3 = (M : Int) := by rw [D1 _ _ (by omega)]; exact cm
    have NR1 : NR m1 (ud μM 0 7 ((a : Int) + 1)) c N T n M := C.nr.of (fun x y hx => D1 _ _ (by omega)) (fun x y hx => by rw [ud_n (by omega)])
    have r0' := h1.rq.2.2.2.1
    have r2' := h1.rq.2.2.2.2.2.1
    have EM1 : ∀ x y, ¬ (x = 0 ∧ y = 7) → ud μM 0 7 ((a : Int) + 1) x y = μM x y := fun x y hx => ud_n hx
    generalize hk1 : ud μM 0 7 ((a : Int) + 1) = k1 at *
    have i1 : 361 + 2 * (M : Int) + 1 = 362 + 2 * (M : Int) := by omega
    have rest : ∀ k2 : Mem, ∀ (F : Int) (b : Nat), 0 < F → k2 0 8 = F → MDq k2 c N T b → (∀ x y, ¬ (x = 0 ∨ x = 9 ∨ x = 10 ∨ (x = 6 ∧ y = 361 + 2 * M)) → k2 x y = μM x y) → fX12_takeAfter shM [(2, rf 0), (0, 7), (0, 1), (0, 99)] k2 = some (0, k2) ∧ k2 0 10 = rf 6 ∧ ud k2 6 (362 + 2 * M) 0 0 10 = rf 6 ∧ ud k2 6 (362 + 2 * M) 0 6 192 = (M : Int) := fun k2 F b hF h8 q e => ⟨takeAfterF (w := 7) q h8 hF (by decide) rfl, q.1.p10, by rw [ud_n (by omega)]; exact q.1.p10, by rw [ud_n (by omega), e _ _ (by omega)]; exact rb⟩
    rcases b_name (w := 12 + (M : Int)) h1 NR1 b1 n1 b3 M1 (by omega) with ⟨k, kp, e2, e3⟩ | ⟨bT, rs, tw, nk, e2, e3⟩
    · have fo := h1.fo kp
      have fp := ft_pos (c := c) (N := N) (a := a + 1) kp
      have q8 : ud k1 0 8 (ftA c N (a + 1) k) 0 8 = ftA c N (a + 1) k := ud_s
      have mq8 : MDq (ud k1 0 8 (ftA c N (a + 1) k)) c N T (a + 1) := h1.mq.of (fun x y hx => by rw [ud_n (by omega)]) (by rw [ud_n (by omega)]; exact h1.a7) h1.la.1
      have EM2 : ∀ x y, x ≠ 0 → ud k1 0 8 (ftA c N (a + 1) k) x y = μM x y := fun x y hx => by rw [ud_n (by omega)]; exact EM1 x y (by omega)
      have ta1 := takeAfterF (w := 6) (wi := 6) (l := 0) (u := 99) mq8 q8 fp (by decide) rfl
      have q10 := mq8.1.p10
      generalize hk2 : ud k1 0 8 (ftA c N (a + 1) k) = k2 at *
      obtain ⟨ta2, q10a, q10b, q192⟩ := rest (ud k2 6 (361 + 2 * M) 0) _ (a + 1) fp (by rw [ud_n (by omega)]; exact q8) (mq8.of (fun x y hx => by rw [ud_n (by omega)]) (by rw [ud_n (by omega)]; exact mq8.2.2.2.2.2.2.2.1) mq8.2.2.2.2.2.2.2.2) (fun x y hx => by rw [ud_n (by omega)]; exact EM2 x y (by omega))
      refine .inr ⟨_, ud (ud (ud k2 6 (361 + 2 * M) 0) 6 (362 + 2 * M) 0) 6 192 ((M : Int) + 1), ?_, ?_, fo.ref (fun x y hx => by rw [ud_n (by omega), ud_n (by omega), ud_n (by omega)])⟩
      · clear fo fp q8 mq8 e3 rest ta1 ta2 hk2 q10a q10b q192 EM1 EM2
        generalize ud m1 27 5 (ftA c N (a + 1) k) = m2 at *
        simp -implicitDefEqProofs (disch := omega) [fX8_readMeadow, bX8_readMeadow, v_cop, v_c1, v_c2, v_c3, v_c4, v_c5, v_bin, v_bn, v_bn2, v_div, v_dv, v_dv2, v_une, v_un, v_loc, v_num, v_get, v_gt, v_ald, v_al, v_al2, v_len, v_ln, v_rl0, v_rl1, v_rl2, v_rl3, v_rl4, v_rl5, v_cmp, v_cp, v_cp2, v_zC, v_zc, v_con, v_kc, v_and, v_an1, v_an0, v_or, v_or1, v_or0, v_not, v_nt, v_boo, v_bo, v_cnd, v_cd1, v_cd0, v_cnc, v_cc1, v_cc0, v_ev0, v_ev, v_e1, v_e2, v_cve, v_cv, v_cse, v_cs, v_skip, v_seq, v_sq0, v_sq1, v_sqr, v_sts, v_st, v_inc, v_put, v_pt, v_pt2, v_fop, v_fo, v_fo2, v_ast, v_as, v_as2, v_as3, v_aop, v_ao, v_ao2, v_ao3, v_exs, v_ex, v_ifs, v_if1, v_if0, v_ret, v_rt, v_rez, v_rz, v_rev, v_brk, v_sws, v_sw, v_sw2, v_run, v_rb, v_turn, v_tu1, v_tu0, v_tu2, v_tu3, fst1, snd1, Option.map_some, Option.getD_some, enA, en, stE, okb, narV, rf_toNat, rf_nn, List.getElem?_cons_zero, List.getElem?_cons_succ, w32_id, w64_id, ite_t, ite_f, Int.toNat_add, Int.toNat_mul, dec_t, dec_f, sC_27, sC_1, r0, r3, o0, cm, e1, e2]
      · clear fo mq8 e2 rest hk2 EM1 EM2
        generalize ftA c N (a + 1) k = F at *
        simp -implicitDefEqProofs (disch := omega) [fX12_readMeadow, bX12_readMeadow, v_cop, v_c1, v_c2, v_c3, v_c4, v_c5, v_bin, v_bn, v_bn2, v_div, v_dv, v_dv2, v_une, v_un, v_loc, v_num, v_get, v_gt, v_ald, v_al, v_al2, v_len, v_ln, v_rl0, v_rl1, v_rl2, v_rl3, v_rl4, v_rl5, v_cmp, v_cp, v_cp2, v_zC, v_zc, v_con, v_kc, v_and, v_an1, v_an0, v_or, v_or1, v_or0, v_not, v_nt, v_boo, v_bo, v_cnd, v_cd1, v_cd0, v_cnc, v_cc1, v_cc0, v_ev0, v_ev, v_e1, v_e2, v_cve, v_cv, v_cse, v_cs, v_skip, v_seq, v_sq0, v_sq1, v_sqr, v_sts, v_st, v_inc, v_put, v_pt, v_pt2, v_fop, v_fo, v_fo2, v_ast, v_as, v_as2, v_as3, v_aop, v_ao, v_ao2, v_ao3, v_exs, v_ex, v_ifs, v_if1, v_if0, v_ret, v_rt, v_rez, v_rz, v_rev, v_brk, v_sws, v_sw, v_sw2, v_run, v_rb, v_turn, v_tu1, v_tu0, v_tu2, v_tu3, fst1, snd1, Option.map_some, Option.getD_some, enA, en, stE, okb, narV, rf_toNat, rf_nn, List.getElem?_cons_zero, List.getElem?_cons_succ, w32_id, w64_id, ite_t, ite_f, Int.toNat_add, Int.toNat_mul, dec_t, dec_f, sM_0, sM_6, pm.p10, rb, g6, a7, hk1, e3, ta1, q10, i1, ta2, q10a, q10b, q192]
    · have nm5 := h1.rq.t5 tw
      have h1a : PF mC mM (ud m1 29 M (nmA c N (a + 1))) (nwN k1 c N (a + 1) (n + M) (12 + (M : Int))) c N T d (a + 1) K := (h1.cls (fun x y hx => by rw [ud_n (fun z => hx (by unfold ZC; omega))])).ref (fun x y hx => by unfold nwN; rw [ud_n (by omega), ud_n (by omega), ud_n (by omega)])
      obtain ⟨m2, e4, h2, D2⟩ := h1a.adv bT
      have EM2 : ∀ x y, ¬ ((x = 0 ∧ (y = 7 ∨ y = 17)) ∨ (x = 9 ∧ y = n + M) ∨ (x = 10 ∧ y = n + M)) → ud (nwN k1 c N (a + 1) (n + M) (12 + (M : Int))) 0 7 (((a + 1 : Nat) : Int) + 1) x y = μM x y := fun x y hx => by unfold nwN; rw [ud_n (by omega), ud_n (by omega), ud_n (by omega), ud_n (by omega)]; exact EM1 x y (by omega)
      have EC2 : ∀ x y, ¬ ((x = 1 ∧ 2 ≤ y) ∨ (x = 29 ∧ y = M)) → m2 x y = μC x y := fun x y hx => by rw [D2 _ _ (by omega), ud_n (by omega)]; exact D1 x y (by omega)
      have z9 : ud (nwN k1 c N (a + 1) (n + M) (12 + (M : Int))) 0 7 (((a + 1 : Nat) : Int) + 1) 9 (n + M) = rvA c N (a + 1) := by unfold nwN; rw [ud_n (by omega), ud_n (by omega), ud_n (by omega), ud_s]
      have z10 : ud (nwN k1 c N (a + 1) (n + M) (12 + (M : Int))) 0 7 (((a + 1 : Nat) : Int) + 1) 10 (n + M) = 12 + (M : Int) := by unfold nwN; rw [ud_n (by omega), ud_n (by omega), ud_s]
      have z17 : ud (nwN k1 c N (a + 1) (n + M) (12 + (M : Int))) 0 7 (((a + 1 : Nat) : Int) + 1) 0 17 = ((n + M : Nat) : Int) + 1 := by unfold nwN; rw [ud_n (by omega), ud_s]
      have z29 : m2 29 M = nmA c N (a + 1) := by rw [D2 _ _ (by omega), ud_s]
      have r0a : ud m1 29 M (nmA c N (a + 1)) 27 0 = rf 1 := by rw [ud_n (by omega)]; exact r0'
      generalize hk2 : ud (nwN k1 c N (a + 1) (n + M) (12 + (M : Int))) 0 7 (((a + 1 : Nat) : Int) + 1) = k2 at *
      have pm2 := h2.mq.1
      rcases b_after (w := 6) (wi := 6) (l := 0) (u := 99) h2 (by decide) rfl with ⟨m3, k3, e5, e6, fo, E3⟩ | ⟨m3, v, e5, e5', v4, v0, v9, e6, h3, bT3, D3⟩
      · obtain ⟨F, b, hF, h8, q⟩ := fo.mq
        have q10 := q.1.p10
        obtain ⟨ta2, q10a, q10b, q192⟩ := rest (ud k3 6 (361 + 2 * M) 0) F b hF (by rw [ud_n (by omega)]; exact h8) (q.of (fun x y hx => by rw [ud_n (by omega)]) (by rw [ud_n (by omega)]; exact q.2.2.2.2.2.2.2.1) q.2.2.2.2.2.2.2.2) (fun x y hx => by rw [ud_n (by omega), E3 _ _ (by omega)]; exact EM2 x y (by omega))
        refine .inr ⟨m3, ud (ud (ud k3 6 (361 + 2 * M) 0) 6 (362 + 2 * M) 0) 6 192 ((M : Int) + 1), ?_, ?_, fo.ref (fun x y hx => by rw [ud_n (by omega), ud_n (by omega), ud_n (by omega)])⟩
        · clear fo e6 e3 rest ta2 q10a q10b q192 EM1 EM2 EC2 q E3
          generalize nmA c N (a + 1) = W at *
          have r02 := h2.rq.2.2.2.1
          rcases e5 with e5 | ⟨m, e5, e5'⟩
          · simp -implicitDefEqProofs (disch := omega) [fX8_readMeadow, bX8_readMeadow, v_cop, v_c1, v_c2, v_c3, v_c4, v_c5, v_bin, v_bn, v_bn2, v_div, v_dv, v_dv2, v_une, v_un, v_loc, v_num, v_get, v_gt, v_ald, v_al, v_al2, v_len, v_ln, v_rl0, v_rl1, v_rl2, v_rl3, v_rl4, v_rl5, v_cmp, v_cp, v_cp2, v_zC, v_zc, v_con, v_kc, v_and, v_an1, v_an0, v_or, v_or1, v_or0, v_not, v_nt, v_boo, v_bo, v_cnd, v_cd1, v_cd0, v_cnc, v_cc1, v_cc0, v_ev0, v_ev, v_e1, v_e2, v_cve, v_cv, v_cse, v_cs, v_skip, v_seq, v_sq0, v_sq1, v_sqr, v_sts, v_st, v_inc, v_put, v_pt, v_pt2, v_fop, v_fo, v_fo2, v_ast, v_as, v_as2, v_as3, v_aop, v_ao, v_ao2, v_ao3, v_exs, v_ex, v_ifs, v_if1, v_if0, v_ret, v_rt, v_rez, v_rz, v_rev, v_brk, v_sws, v_sw, v_sw2, v_run, v_rb, v_turn, v_tu1, v_tu0, v_tu2, v_tu3, fst1, snd1, Option.map_some, Option.getD_some, enA, en, stE, okb, narV, rf_toNat, rf_nn, List.getElem?_cons_zero, List.getElem?_cons_succ, w32_id, w64_id, ite_t, ite_f, Int.toNat_add, Int.toNat_mul, dec_t, dec_f, sC_27, sC_29, sC_1, r0, r3, o0, cm, e1, e2, r0', r2', nm5, r0a, e4, e5]
          · simp -implicitDefEqProofs (disch := omega) [fX8_readMeadow, bX8_readMeadow, v_cop, v_c1, v_c2, v_c3, v_c4, v_c5, v_bin, v_bn, v_bn2, v_div, v_dv, v_dv2, v_une, v_un, v_loc, v_num, v_get, v_gt, v_ald, v_al, v_al2, v_len, v_ln, v_rl0, v_rl1, v_rl2, v_rl3, v_rl4, v_rl5, v_cmp, v_cp, v_cp2, v_zC, v_zc, v_con, v_kc, v_and, v_an1, v_an0, v_or, v_or1, v_or0, v_not, v_nt, v_boo, v_bo, v_cnd, v_cd1, v_cd0, v_cnc, v_cc1, v_cc0, v_ev0, v_ev, v_e1, v_e2, v_cve, v_cv, v_cse, v_cs, v_skip, v_seq, v_sq0, v_sq1, v_sqr, v_sts, v_st, v_inc, v_put, v_pt, v_pt2, v_fop, v_fo, v_fo2, v_ast, v_as, v_as2, v_as3, v_aop, v_ao, v_ao2, v_ao3, v_exs, v_ex, v_ifs, v_if1, v_if0, v_ret, v_rt, v_rez, v_rz, v_rev, v_brk, v_sws, v_sw, v_sw2, v_run, v_rb, v_turn, v_tu1, v_tu0, v_tu2, v_tu3, fst1, snd1, Option.map_some, Option.getD_some, enA, en, stE, okb, narV, rf_toNat, rf_nn, List.getElem?_cons_zero, List.getElem?_cons_succ, w32_id, w64_id, ite_t, ite_f, Int.toNat_add, Int.toNat_mul, dec_t, dec_f, sC_27, sC_29, sC_1, r0, r3, o0, cm, e1, e2, r0', r2', nm5, r0a, e4, e5, e5']
        · clear fo e5 rest EM1 EM2 EC2 q E3
          simp -implicitDefEqProofs (disch := omega) [fX12_readMeadow, bX12_readMeadow, v_cop, v_c1, v_c2, v_c3, v_c4, v_c5, v_bin, v_bn, v_bn2, v_div, v_dv, v_dv2, v_une, v_un, v_loc, v_num, v_get, v_gt, v_ald, v_al, v_al2, v_len, v_ln, v_rl0, v_rl1, v_rl2, v_rl3, v_rl4, v_rl5, v_cmp, v_cp, v_cp2, v_zC, v_zc, v_con, v_kc, v_and, v_an1, v_an0, v_or, v_or1, v_or0, v_not, v_nt, v_boo, v_bo, v_cnd, v_cd1, v_cd0, v_cnc, v_cc1, v_cc0, v_ev0, v_ev, v_e1, v_e2, v_cve, v_cv, v_cse, v_cs, v_skip, v_seq, v_sq0, v_sq1, v_sqr, v_sts, v_st, v_inc, v_put, v_pt, v_pt2, v_fop, v_fo, v_fo2, v_ast, v_as, v_as2, v_as3, v_aop, v_ao, v_ao2, v_ao3, v_exs, v_ex, v_ifs, v_if1, v_if0, v_ret, v_rt, v_rez, v_rz, v_rev, v_brk, v_sws, v_sw, v_sw2, v_run, v_rb, v_turn, v_tu1, v_tu0, v_tu2, v_tu3, fst1, snd1, Option.map_some, Option.getD_some, enA, en, stE, okb, narV, rf_toNat, rf_nn, List.getElem?_cons_zero, List.getElem?_cons_succ, w32_id, w64_id, ite_t, ite_f, Int.toNat_add, Int.toNat_mul, dec_t, dec_f, sM_0, sM_6, pm.p10, rb, g6, a7, hk1, e3, pm2.p10, e6, q10, i1, ta2, q10a, q10b, q192]
      · have h3a : PF mC mM (ud m3 (d + 4) M v) (ud k2 0 7 (((a + 1 + 1 : Nat) : Int) + 1)) c N T d (a + 1 + 1 + 1) K := h3.cls (fun x y hx => by rw [ud_n (fun z => hx (by unfold ZC; omega))])
        obtain ⟨m4, e7, h4, D4⟩ := h3a.adv bT3
        generalize hk3 : ud (ud k2 0 7 (((a + 1 + 1 : Nat) : Int) + 1)) 0 7 (((a + 1 + 1 + 1 : Nat) : Int) + 1) = k3 at *
        have EM3 : ∀ x y, ¬ (x = 0 ∧ y = 7) → k3 x y = k2 x y := fun x y hx => by rw [← hk3, ud_n hx, ud_n hx]
        have h4a : PF mC mM m4 (ud k3 6 (361 + 2 * M) v) c N T d (a + 1 + 1 + 1 + 1) K := h4.ref (fun x y hx => by rw [ud_n (by omega)])
        have q10 := h4.mq.1.p10
        have q10a := h4a.mq.1.p10
        have r03 := h3.rq.2.2.2.1
        have r33 := h3.rq.2.2.2.2.2.2.1
        have ob3 := h3.rq.2.2.2.2.2.2.2
        have o03 := ob3.1
        have o43 := ob3.2.2.2.2.1
        have p7 : m3 d 7 = rf (d + 4) := ob3.2.2.2.2.2.2.2.2.2.2.2.2.2.2.2.1
        have u0 : ud m3 (d + 4) M v 27 0 = rf 1 := by rw [ud_n (by omega)]; exact r03
        have E3a : ∀ x y, ¬ (x = 0 ∨ x = 9 ∨ x = 10 ∨ (x = 6 ∧ y = 361 + 2 * M)) → ud k3 6 (361 + 2 * M) v x y = μM x y := fun x y hx => by rw [ud_n (by omega), EM3 _ _ (by omega)]; exact EM2 x y (by omega)
        rcases b_after (w := 7) (wi := 7) (l := 1) (u := 99) h4a (by decide) rfl with ⟨m5, k5, e8, e9, fo, E5⟩ | ⟨m5, v2, e8, e8', v24, v20, v29, e9, h5, bT5, D5⟩
        · obtain ⟨F, b, hF, h8, q⟩ := fo.mq
          have q10c := q.1.p10
          have q10d : ud k5 6 (362 + 2 * M) 0 0 10 = rf 6 := by rw [ud_n (by omega)]; exact q10c
          have q192 : ud k5 6 (362 + 2 * M) 0 6 192 = (M : Int) := by rw [ud_n (by omega), E5 _ _ (by omega), E3a _ _ (by omega)]; exact rb
          refine .inr ⟨m5, ud (ud k5 6 (362 + 2 * M) 0) 6 192 ((M : Int) + 1), ?_, ?_, fo.ref (fun x y hx => by rw [ud_n (by omega), ud_n (by omega)])⟩
          · clear fo e6 e9 e3 rest q192 EM1 EM2 EM3 EC2 E3a E5 q q10d
            generalize nmA c N (a + 1) = W at *
            rcases e8 with e8 | ⟨m, e8, e8'⟩
            · simp -implicitDefEqProofs (disch := omega) [fX8_readMeadow, bX8_readMeadow, v_cop, v_c1, v_c2, v_c3, v_c4, v_c5, v_bin, v_bn, v_bn2, v_div, v_dv, v_dv2, v_une, v_un, v_loc, v_num, v_get, v_gt, v_ald, v_al, v_al2, v_len, v_ln, v_rl0, v_rl1, v_rl2, v_rl3, v_rl4, v_rl5, v_cmp, v_cp, v_cp2, v_zC, v_zc, v_con, v_kc, v_and, v_an1, v_an0, v_or, v_or1, v_or0, v_not, v_nt, v_boo, v_bo, v_cnd, v_cd1, v_cd0, v_cnc, v_cc1, v_cc0, v_ev0, v_ev, v_e1, v_e2, v_cve, v_cv, v_cse, v_cs, v_skip, v_seq, v_sq0, v_sq1, v_sqr, v_sts, v_st, v_inc, v_put, v_pt, v_pt2, v_fop, v_fo, v_fo2, v_ast, v_as, v_as2, v_as3, v_aop, v_ao, v_ao2, v_ao3, v_exs, v_ex, v_ifs, v_if1, v_if0, v_ret, v_rt, v_rez, v_rz, v_rev, v_brk, v_sws, v_sw, v_sw2, v_run, v_rb, v_turn, v_tu1, v_tu0, v_tu2, v_tu3, fst1, snd1, Option.map_some, Option.getD_some, enA, en, stE, okb, narV, rf_toNat, rf_nn, List.getElem?_cons_zero, List.getElem?_cons_succ, w32_id, w64_id, ite_t, ite_f, Int.toNat_add, Int.toNat_mul, dec_t, dec_f, sC_27, sC_29, sC_1, r0, r3, o0, cm, e1, e2, r0', r2', nm5, r0a, e4, e5, e5', r03, r33, o03, o43, p7, v4, u0, e7, e8]
            · simp -implicitDefEqProofs (disch := omega) [fX8_readMeadow, bX8_readMeadow, v_cop, v_c1, v_c2, v_c3, v_c4, v_c5, v_bin, v_bn, v_bn2, v_div, v_dv, v_dv2, v_une, v_un, v_loc, v_num, v_get, v_gt, v_ald, v_al, v_al2, v_len, v_ln, v_rl0, v_rl1, v_rl2, v_rl3, v_rl4, v_rl5, v_cmp, v_cp, v_cp2, v_zC, v_zc, v_con, v_kc, v_and, v_an1, v_an0, v_or, v_or1, v_or0, v_not, v_nt, v_boo, v_bo, v_cnd, v_cd1, v_cd0, v_cnc, v_cc1, v_cc0, v_ev0, v_ev, v_e1, v_e2, v_cve, v_cv, v_cse, v_cs, v_skip, v_seq, v_sq0, v_sq1, v_sqr, v_sts, v_st, v_inc, v_put, v_pt, v_pt2, v_fop, v_fo, v_fo2, v_ast, v_as, v_as2, v_as3, v_aop, v_ao, v_ao2, v_ao3, v_exs, v_ex, v_ifs, v_if1, v_if0, v_ret, v_rt, v_rez, v_rz, v_rev, v_brk, v_sws, v_sw, v_sw2, v_run, v_rb, v_turn, v_tu1, v_tu0, v_tu2, v_tu3, fst1, snd1, Option.map_some, Option.getD_some, enA, en, stE, okb, narV, rf_toNat, rf_nn, List.getElem?_cons_zero, List.getElem?_cons_succ, w32_id, w64_id, ite_t, ite_f, Int.toNat_add, Int.toNat_mul, dec_t, dec_f, sC_27, sC_29, sC_1, r0, r3, o0, cm, e1, e2, r0', r2', nm5, r0a, e4, e5, e5', r03, r33, o03, o43, p7, v4, u0, e7, e8, e8']
          · clear fo e5 e5' e8 rest EM1 EM2 EM3 EC2 E3a E5 q
            simp -implicitDefEqProofs (disch := omega) [fX12_readMeadow, bX12_readMeadow, v_cop, v_c1, v_c2, v_c3, v_c4, v_c5, v_bin, v_bn, v_bn2, v_div, v_dv, v_dv2, v_une, v_un, v_loc, v_num, v_get, v_gt, v_ald, v_al, v_al2, v_len, v_ln, v_rl0, v_rl1, v_rl2, v_rl3, v_rl4, v_rl5, v_cmp, v_cp, v_cp2, v_zC, v_zc, v_con, v_kc, v_and, v_an1, v_an0, v_or, v_or1, v_or0, v_not, v_nt, v_boo, v_bo, v_cnd, v_cd1, v_cd0, v_cnc, v_cc1, v_cc0, v_ev0, v_ev, v_e1, v_e2, v_cve, v_cv, v_cse, v_cs, v_skip, v_seq, v_sq0, v_sq1, v_sqr, v_sts, v_st, v_inc, v_put, v_pt, v_pt2, v_fop, v_fo, v_fo2, v_ast, v_as, v_as2, v_as3, v_aop, v_ao, v_ao2, v_ao3, v_exs, v_ex, v_ifs, v_if1, v_if0, v_ret, v_rt, v_rez, v_rz, v_rev, v_brk, v_sws, v_sw, v_sw2, v_run, v_rb, v_turn, v_tu1, v_tu0, v_tu2, v_tu3, fst1, snd1, Option.map_some, Option.getD_some, enA, en, stE, okb, narV, rf_toNat, rf_nn, List.getElem?_cons_zero, List.getElem?_cons_succ, w32_id, w64_id, ite_t, ite_f, Int.toNat_add, Int.toNat_mul, dec_t, dec_f, sM_0, sM_6, pm.p10, rb, g6, a7, hk1, e3, pm2.p10, e6, q10, i1, q10a, e9, q10c, q10d, q192]
        · have h5a : PF mC mM (ud (ud m5 (d + 5) M v2) d 3 ((M : Int) + 1)) (ud (ud k3 6 (361 + 2 * M) v) 0 7 (((a + 1 + 1 + 1 + 1 : Nat) : Int) + 1)) c N T d (a + 1 + 1 + 1 + 1 + 1) K := h5.cls (fun x y hx => by rw [ud_n (fun z => hx (by unfold ZC; omega)), ud_n (fun z => hx (by unfold ZC; omega))])
          obtain ⟨m6, e10, h6, D6⟩ := h5a.adv bT5
          generalize hk5 : ud (ud (ud k3 6 (361 + 2 * M) v) 0 7 (((a + 1 + 1 + 1 + 1 : Nat) : Int) + 1)) 0 7 (((a + 1 + 1 + 1 + 1 + 1 : Nat) : Int) + 1) = k5 at *
          have EM5 : ∀ x y, ¬ (x = 0 ∧ y = 7) → k5 x y = ud k3 6 (361 + 2 * M) v x y := fun x y hx => by rw [← hk5, ud_n hx, ud_n hx]
          have h6a : PF mC mM m6 (ud (ud k5 6 (362 + 2 * M) v2) 6 192 ((M : Int) + 1)) c N T d (a + 1 + 1 + 1 + 1 + 1 + 1) K := h6.ref (fun x y hx => by rw [ud_n (by omega), ud_n (by omega)])
          have q10c := h6.mq.1.p10
          have q10d : ud k5 6 (362 + 2 * M) v2 0 10 = rf 6 := by rw [ud_n (by omega)]; exact q10c
          have q192 : ud k5 6 (362 + 2 * M) v2 6 192 = (M : Int) := by rw [ud_n (by omega), EM5 _ _ (by omega), E3a _ _ (by omega)]; exact rb
          have r05 := h5.rq.2.2.2.1
          have r35 := h5.rq.2.2.2.2.2.2.1
          have ob5 := h5.rq.2.2.2.2.2.2.2
          have o05 := ob5.1
          have o55 := ob5.2.2.2.2.2.1
          have p8 : m5 d 8 = rf (d + 5) := ob5.2.2.2.2.2.2.2.2.2.2.2.2.2.2.2.2.1
          have u3 : ud m5 (d + 5) M v2 27 3 = rf d := by rw [ud_n (by omega)]; exact r35
          have u02 : ud (ud m5 (d + 5) M v2) d 3 ((M : Int) + 1) 27 0 = rf 1 := by rw [ud_n (by omega), ud_n (by omega)]; exact r05
          refine .inl ⟨_, K, n, P, M + 1, m6, ud (ud k5 6 (362 + 2 * M) v2) 6 192 ((M : Int) + 1), ?_, ?_, by omega, h6a, ?_⟩
          · clear h3 h3a h4 h4a h5 h5a h6 h6a e6 e9 e3 rest q192 EM1 EM2 EM3 EC2 E3a EM5 q10d
            generalize nmA c N (a + 1) = W at *
            simp -implicitDefEqProofs (disch := omega) [fX8_readMeadow, bX8_readMeadow, v_cop, v_c1, v_c2, v_c3, v_c4, v_c5, v_bin, v_bn, v_bn2, v_div, v_dv, v_dv2, v_une, v_un, v_loc, v_num, v_get, v_gt, v_ald, v_al, v_al2, v_len, v_ln, v_rl0, v_rl1, v_rl2, v_rl3, v_rl4, v_rl5, v_cmp, v_cp, v_cp2, v_zC, v_zc, v_con, v_kc, v_and, v_an1, v_an0, v_or, v_or1, v_or0, v_not, v_nt, v_boo, v_bo, v_cnd, v_cd1, v_cd0, v_cnc, v_cc1, v_cc0, v_ev0, v_ev, v_e1, v_e2, v_cve, v_cv, v_cse, v_cs, v_skip, v_seq, v_sq0, v_sq1, v_sqr, v_sts, v_st, v_inc, v_put, v_pt, v_pt2, v_fop, v_fo, v_fo2, v_ast, v_as, v_as2, v_as3, v_aop, v_ao, v_ao2, v_ao3, v_exs, v_ex, v_ifs, v_if1, v_if0, v_ret, v_rt, v_rez, v_rz, v_rev, v_brk, v_sws, v_sw, v_sw2, v_run, v_rb, v_turn, v_tu1, v_tu0, v_tu2, v_tu3, fst1, snd1, Option.map_some, Option.getD_some, enA, en, stE, okb, narV, rf_toNat, rf_nn, List.getElem?_cons_zero, List.getElem?_cons_succ, w32_id, w64_id, ite_t, ite_f, Int.toNat_add, Int.toNat_mul, dec_t, dec_f, sC_27, sC_29, sC_1, r0, r3, o0, cm, e1, e2, r0', r2', nm5, r0a, e4, e5, e5', r03, r33, o03, o43, p7, v4, u0, e7, e8, e8', r05, r35, o05, o55, p8, v24, u3, u02, e10]
          · clear h3 h3a h4 h4a h5 h5a h6 h6a e5 e5' e8 e8' rest EM1 EM2 EM3 EC2 E3a EM5
            simp -implicitDefEqProofs (disch := omega) [fX12_readMeadow, bX12_readMeadow, v_cop, v_c1, v_c2, v_c3, v_c4, v_c5, v_bin, v_bn, v_bn2, v_div, v_dv, v_dv2, v_une, v_un, v_loc, v_num, v_get, v_gt, v_ald, v_al, v_al2, v_len, v_ln, v_rl0, v_rl1, v_rl2, v_rl3, v_rl4, v_rl5, v_cmp, v_cp, v_cp2, v_zC, v_zc, v_con, v_kc, v_and, v_an1, v_an0, v_or, v_or1, v_or0, v_not, v_nt, v_boo, v_bo, v_cnd, v_cd1, v_cd0, v_cnc, v_cc1, v_cc0, v_ev0, v_ev, v_e1, v_e2, v_cve, v_cv, v_cse, v_cs, v_skip, v_seq, v_sq0, v_sq1, v_sqr, v_sts, v_st, v_inc, v_put, v_pt, v_pt2, v_fop, v_fo, v_fo2, v_ast, v_as, v_as2, v_as3, v_aop, v_ao, v_ao2, v_ao3, v_exs, v_ex, v_ifs, v_if1, v_if0, v_ret, v_rt, v_rez, v_rz, v_rev, v_brk, v_sws, v_sw, v_sw2, v_run, v_rb, v_turn, v_tu1, v_tu0, v_tu2, v_tu3, fst1, snd1, Option.map_some, Option.getD_some, enA, en, stE, okb, narV, rf_toNat, rf_nn, List.getElem?_cons_zero, List.getElem?_cons_succ, w32_id, w64_id, ite_t, ite_f, Int.toNat_add, Int.toNat_mul, dec_t, dec_f, sM_0, sM_6, pm.p10, rb, g6, a7, hk1, e3, pm2.p10, e6, q10, i1, q10a, e9, q10c, q10d, q192]
          · exact cn_meadow (b := a + 1) (gr := v) (fa := v2) C hd M6 bT rs (fun z => nk (by
              unfold knN at z ⊢
              rcases z with ⟨b, i1, i2⟩ | ⟨m, i1, i2⟩
              · exact .inl ⟨b, i1, by rw [D1 _ _ (by omega)]; exact i2⟩
              · exact .inr ⟨m, i1, by rw [D1 _ _ (by omega)]; exact i2⟩)) ⟨v0, v9⟩ ⟨v20, v29⟩ (fun x y hx => by rw [D6 _ _ (by omega), ud_n (by omega), ud_n (by omega), D5 _ _ (by omega), D4 _ _ (by omega), ud_n (by omega), D3 _ _ (by omega)]; exact EC2 x y (by omega)) (by rw [D6 _ _ (by omega), ud_s]) (by rw [D6 _ _ (by omega), ud_n (by omega), ud_n (by omega), D5 _ _ (by omega), D4 _ _ (by omega), ud_s]) (by rw [D6 _ _ (by omega), ud_n (by omega), ud_s]) (by rw [D6 _ _ (by omega), ud_n (by omega), ud_n (by omega), D5 _ _ (by omega), D4 _ _ (by omega), ud_n (by omega), D3 _ _ (by omega)]; exact z29) (fun x y hx => by rw [ud_n (by omega), ud_n (by omega), EM5 _ _ (by omega), ud_n (by omega), EM3 _ _ (by omega)]; exact EM2 x y (by omega)) ud_s (by rw [ud_n (by omega), ud_n (by omega), EM5 _ _ (by omega), ud_s]) (by rw [ud_n (by omega), ud_s]) (by rw [ud_n (by omega), ud_n (by omega), EM5 _ _ (by omega), ud_n (by omega), EM3 _ _ (by omega)]; exact z9) (by rw [ud_n (by omega), ud_n (by omega), EM5 _ _ (by omega), ud_n (by omega), EM3 _ _ (by omega)]; exact z10) (by rw [ud_n (by omega), ud_n (by omega), EM5 _ _ (by omega), ud_n (by omega), EM3 _ _ (by omega)]; exact z17)
