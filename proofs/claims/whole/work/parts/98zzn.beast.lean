/-! a beast's line -/
set_option maxRecDepth 100000 in theorem r_kind {μ : Mem} {c : Nat → Int} {N T a n : Nat} (q : MDq μ c N T a) (h8 : μ 0 8 = 0) : loopS 2 3 kX12_readBeast_0c kX12_readBeast_0b kX12_readBeast_0u shM [(2, rf 0), (0, (n : Int)), (0, -1), (0, 0)] μ = some (0, 0, [(2, rf 0), (0, (n : Int)), (0, if 9 ≤ tkA c N a ∧ tkA c N a ≤ 14 then tkA c N a - 9 else -1), (0, 6)], μ) := by
  have lp := loop_run (kb := 2) (kc := 3) (c := kX12_readBeast_0c) (body := kX12_readBeast_0b) (upd := kX12_readBeast_0u) (sh := shM) (fun j => [(2, rf 0), (0, (n : Int)), (0, if 9 ≤ tkA c N a ∧ tkA c N a < 9 + (j : Int) then tkA c N a - 9 else -1), (0, (j : Int))]) (fun _ => μ) (r := (0, 0, [(2, rf 0), (0, (n : Int)), (0, if 9 ≤ tkA c N a ∧ tkA c N a < 9 + ((6 : Nat) : Int) then tkA c N a - 9 else -1), (0, 6)], μ)) 6 (by
    intro j hj
    have e := r_isWord (w := 9 + j) q h8 (by omega)
    rw [show ((9 + j : Nat) : Int) = 9 + (j : Int) by omega] at e
    generalize tkA c N a = t at *
    by_cases c1 : t = 9 + (j : Int)
    · rw [if_pos ⟨rfl, c1⟩] at e
      rw [if_neg (by omega), if_pos (by omega), show t - 9 = (j : Int) by omega]
      simp -implicitDefEqProofs (disch := omega) [kX12_readBeast_0c, kX12_readBeast_0b, kX12_readBeast_0u, v_cop, v_c1, v_c2, v_c3, v_c4, v_c5, v_bin, v_bn, v_bn2, v_div, v_dv, v_dv2, v_une, v_un, v_loc, v_num, v_get, v_gt, v_ald, v_al, v_al2, v_len, v_ln, v_rl0, v_rl1, v_rl2, v_rl3, v_rl4, v_rl5, v_cmp, v_cp, v_cp2, v_zC, v_zc, v_con, v_kc, v_and, v_an1, v_an0, v_or, v_or1, v_or0, v_not, v_nt, v_boo, v_bo, v_cnd, v_cd1, v_cd0, v_cnc, v_cc1, v_cc0, v_ev0, v_ev, v_e1, v_e2, v_cve, v_cv, v_cse, v_cs, v_skip, v_seq, v_sq0, v_sq1, v_sqr, v_sts, v_st, v_inc, v_put, v_pt, v_pt2, v_fop, v_fo, v_fo2, v_ast, v_as, v_as2, v_as3, v_aop, v_ao, v_ao2, v_ao3, v_exs, v_ex, v_ifs, v_if1, v_if0, v_ret, v_rt, v_rez, v_rz, v_rev, v_brk, v_sws, v_sw, v_sw2, v_run, v_rb, v_turn, v_tu1, v_tu0, v_tu2, v_tu3, fst1, snd1, Option.map_some, Option.getD_some, enA, en, stE, okb, narV, rf_toNat, rf_nn, List.getElem?_cons_zero, List.getElem?_cons_succ, w32_id, w64_id, ite_t, ite_f, Int.toNat_add, Int.toNat_mul, dec_t, dec_f, sM_0, e]
    · rw [if_neg (fun z => c1 z.2)] at e
      have e2 : (if 9 ≤ t ∧ t < 9 + ((j + 1 : Nat) : Int) then t - 9 else -1) = if 9 ≤ t ∧ t < 9 + (j : Int) then t - 9 else -1 := by
        by_cases c2 : 9 ≤ t ∧ t < 9 + (j : Int)
        · rw [if_pos c2, if_pos (by omega)]
        · rw [if_neg c2, if_neg (by omega)]
      rw [e2]
      generalize (if 9 ≤ t ∧ t < 9 + (j : Int) then t - 9 else -1) = V at *
      simp -implicitDefEqProofs (disch := omega) [kX12_readBeast_0c, kX12_readBeast_0b, kX12_readBeast_0u, v_cop, v_c1, v_c2, v_c3, v_c4, v_c5, v_bin, v_bn, v_bn2, v_div, v_dv, v_dv2, v_une, v_un, v_loc, v_num, v_get, v_gt, v_ald, v_al, v_al2, v_len, v_ln, v_rl0, v_rl1, v_rl2, v_rl3, v_rl4, v_rl5, v_cmp, v_cp, v_cp2, v_zC, v_zc, v_con, v_kc, v_and, v_an1, v_an0, v_or, v_or1, v_or0, v_not, v_nt, v_boo, v_bo, v_cnd, v_cd1, v_cd0, v_cnc, v_cc1, v_cc0, v_ev0, v_ev, v_e1, v_e2, v_cve, v_cv, v_cse, v_cs, v_skip, v_seq, v_sq0, v_sq1, v_sqr, v_sts, v_st, v_inc, v_put, v_pt, v_pt2, v_fop, v_fo, v_fo2, v_ast, v_as, v_as2, v_as3, v_aop, v_ao, v_ao2, v_ao3, v_exs, v_ex, v_ifs, v_if1, v_if0, v_ret, v_rt, v_rez, v_rz, v_rev, v_brk, v_sws, v_sw, v_sw2, v_run, v_rb, v_turn, v_tu1, v_tu0, v_tu2, v_tu3, fst1, snd1, Option.map_some, Option.getD_some, enA, en, stE, okb, narV, rf_toNat, rf_nn, List.getElem?_cons_zero, List.getElem?_cons_succ, w32_id, w64_id, ite_t, ite_f, Int.toNat_add, Int.toNat_mul, dec_t, dec_f, sM_0, e]) (by
    generalize (if 9 ≤ tkA c N a ∧ tkA c N a < 9 + ((6 : Nat) : Int) then tkA c N a - 9 else -1) = V at *
    simp -implicitDefEqProofs (disch := omega) [kX12_readBeast_0c, v_cop, v_c1, v_c2, v_c3, v_c4, v_c5, v_bin, v_bn, v_bn2, v_div, v_dv, v_dv2, v_une, v_un, v_loc, v_num, v_get, v_gt, v_ald, v_al, v_al2, v_len, v_ln, v_rl0, v_rl1, v_rl2, v_rl3, v_rl4, v_rl5, v_cmp, v_cp, v_cp2, v_zC, v_zc, v_con, v_kc, v_and, v_an1, v_an0, v_or, v_or1, v_or0, v_not, v_nt, v_boo, v_bo, v_cnd, v_cd1, v_cd0, v_cnc, v_cc1, v_cc0, v_ev0, v_ev, v_e1, v_e2, v_cve, v_cv, v_cse, v_cs, v_skip, v_seq, v_sq0, v_sq1, v_sqr, v_sts, v_st, v_inc, v_put, v_pt, v_pt2, v_fop, v_fo, v_fo2, v_ast, v_as, v_as2, v_as3, v_aop, v_ao, v_ao2, v_ao3, v_exs, v_ex, v_ifs, v_if1, v_if0, v_ret, v_rt, v_rez, v_rz, v_rev, v_brk, v_sws, v_sw, v_sw2, v_run, v_rb, v_turn, v_tu1, v_tu0, v_tu2, v_tu3, fst1, snd1, Option.map_some, Option.getD_some, enA, en, stE, okb, narV, rf_toNat, rf_nn, List.getElem?_cons_zero, List.getElem?_cons_succ, w32_id, w64_id, ite_t, ite_f, Int.toNat_add, Int.toNat_mul, dec_t, dec_f])
  have z0 : (if 9 ≤ tkA c N a ∧ tkA c N a < 9 + ((0 : Nat) : Int) then tkA c N a - 9 else -1) = -1 := if_neg (by omega)
  rw [z0] at lp
  have z6 : (if 9 ≤ tkA c N a ∧ tkA c N a ≤ 14 then tkA c N a - 9 else -1) = if 9 ≤ tkA c N a ∧ tkA c N a < 9 + ((6 : Nat) : Int) then tkA c N a - 9 else -1 := by
    by_cases c2 : 9 ≤ tkA c N a ∧ tkA c N a ≤ 14
    · rw [if_pos c2, if_pos (by omega)]
    · rw [if_neg c2, if_neg (by omega)]
  rw [z6]
  exact lp
set_option maxRecDepth 100000 in theorem cn_beast {μC μM mC mM : Mem} {c : Nat → Int} {N T d n P M K b : Nat} {ki to : Int} (C : CN μC μM c N T d n P M K) (hd : d = 3 ∨ d = 15) (nP : n < P) (n12 : n < 12) (hb : b < T) (rs : rsA c N b = 1) (nk : ¬ knN μC n M (nmA c N b)) (k0 : 0 ≤ ki ∧ ki ≤ 5) (t0 : 0 ≤ to ∧ to ≤ 9) (eC : ∀ x y, ¬ ((x = 1 ∧ 2 ≤ y) ∨ (x = d ∧ y = 1) ∨ (x = d + 1 ∧ y = n) ∨ (x = d + 2 ∧ y = n) ∨ (x = 28 ∧ y = n)) → mC x y = μC x y) (c1 : mC d 1 = (n : Int) + 1) (c2 : mC (d + 1) n = ki) (c3 : mC (d + 2) n = to) (c4 : mC 28 n = nmA c N b) (eM : ∀ x y, ¬ ((x = 0 ∧ (y = 7 ∨ y = 17)) ∨ (x = 6 ∧ (y = 191 ∨ y = 193 + 2 * n ∨ y = 194 + 2 * n)) ∨ (x = 9 ∧ y = n + M) ∨ (x = 10 ∧ y = n + M)) → mM x y = μM x y) (m1 : mM 6 191 = (n : Int) + 1) (m2 : mM 6 (193 + 2 * n) = ki) (m3 : mM 6 (194 + 2 * n) = to) (m4 : mM 9 (n + M) = rvA c N b) (m5 : mM 10 (n + M) = (n : Int)) (m6 : mM 0 17 = ((n + M : Nat) : Int) + 1) : CN mC mM c N T d (n + 1) P M K := by
  have fl : ∀ i, i ≠ 1 → i ≠ 3 + 2 * n → i ≠ 4 + 2 * n → fld mM i = fld μM i := fun i h1 h2 h3 => eM _ _ (by omega)
  have q7 : opD mM = opD μM := funext (fun i => eM _ _ (by omega))
  have q8 : agD mM = agD μM := funext (fun i => eM _ _ (by omega))
  have B := C.fb
  have R := C.fr
  have f1 : fld mM 1 = (n : Int) + 1 := m1
  have f2 : fld mM (3 + 2 * n) = ki := by show mM 6 (190 + (3 + 2 * n)) = ki; rw [show 190 + (3 + 2 * n) = 193 + 2 * n by omega]; exact m2
  have f3 : fld mM (3 + 2 * n + 1) = to := by show mM 6 (190 + (3 + 2 * n + 1)) = to; rw [show 190 + (3 + 2 * n + 1) = 194 + 2 * n by omega]; exact m3
  have M1 := B.M1
  refine ⟨⟨by rw [eM _ _ (by omega), eC _ _ (by omega)]; exact C.1.1, by rw [eC _ _ (by omega)]; exact C.1.2⟩, ?_, ?_, fun x y hx hy hz => by rw [fl _ (by omega) (by omega) (by omega)]; exact C.lz x y hx hy (by omega), ?_, ?_, ?_⟩
  · refine ⟨by rw [fl _ (by omega) (by omega) (by omega)]; exact B.P0, B.P1, B.P2, by rw [f1]; omega, by omega, by omega, by rw [fl _ (by omega) (by omega) (by omega)]; exact B.M0, B.M1, fun x hx => ?_, fun x hx => ?_, fun x y hx hy => by rw [fl _ (by omega) (by omega) (by omega)]; exact B.li x y hx hy, fun x y hx hy => by rw [fl _ (by omega) (by omega) (by omega), fl _ (by omega) (by omega) (by omega)]; exact B.sy x y hx hy, fun m hm => by rw [fl _ (by omega) (by omega) (by omega)]; exact B.gr m hm, fun m hm => by rw [fl _ (by omega) (by omega) (by omega)]; exact B.fa m hm⟩
    · by_cases e : x = n
      · rw [e, f2]; exact k0
      · rw [fl _ (by omega) (by omega) (by omega)]; exact B.ki x (by omega)
    · by_cases e : x = n
      · rw [e, f3]; exact t0
      · rw [fl _ (by omega) (by omega) (by omega)]; exact B.to x (by omega)
  · refine ⟨by rw [eC _ _ (by omega), fl _ (by omega) (by omega) (by omega)]; exact R.pl, by rw [c1, f1], ?_, by rw [eC _ _ (by omega), fl _ (by omega) (by omega) (by omega)]; exact R.me, fun x hx => ?_, fun x hx => ?_, fun i hi => by rw [eC _ _ (by omega), fl _ (by omega) (by omega) (by omega)]; exact R.li i hi, fun m hm => by rw [eC _ _ (by omega), fl _ (by omega) (by omega) (by omega)]; exact R.gr m hm, fun m hm => by rw [eC _ _ (by omega), fl _ (by omega) (by omega) (by omega)]; exact R.fa m hm⟩
    · rw [eC _ _ (by omega), R.pa]
      unfold prS
      have s1 : sumN (fun x => sumN (fun y => if 0 < fld mM (27 + 12 * x + y) then (1 : Int) else 0) x) n = sumN (fun x => sumN (fun y => if 0 < fld μM (27 + 12 * x + y) then (1 : Int) else 0) x) n := sum_congr (fun x hx => sum_congr (fun y hy => by rw [fl _ (by omega) (by omega) (by omega)]))
      have s2 : sumN (fun y => if 0 < fld mM (27 + 12 * n + y) then (1 : Int) else 0) n = 0 := sum_zero n (fun y hy => by rw [fl _ (by omega) (by omega) (by omega), C.lz n y n12 (by omega) (.inl (Nat.le_refl _)), if_neg (by decide)])
      show _ = sumN _ n + _
      rw [s1]
      show _ = _ + sumN (fun y => if 0 < fld mM (27 + 12 * n + y) then (1 : Int) else 0) n
      rw [s2, Int.add_zero]
    · by_cases e : x = n
      · rw [e, c2, f2]
      · rw [eC _ _ (by omega), fl _ (by omega) (by omega) (by omega)]; exact R.ki x (by omega)
    · by_cases e : x = n
      · rw [e, c3, f3]
      · rw [eC _ _ (by omega), fl _ (by omega) (by omega) (by omega)]; exact R.to x (by omega)
  · obtain ⟨h1, h2, h3, h4, h5, h6⟩ := C.nr
    refine ⟨by rw [m6]; omega, fun k hk => ?_, fun x hx => ?_, fun m hm => ?_, fun x y hx hy hh => ?_, fun x m hx hm hh => ?_⟩
    · by_cases e : k = n + M
      · subst e
        exact ⟨b, hb, rs, m4, .inl ⟨n, by omega, m5, c4⟩⟩
      · obtain ⟨t, g1, g2, g3, g4⟩ := h2 k (by omega)
        refine ⟨t, g1, g2, by rw [eM _ _ (by omega)]; exact g3, ?_⟩
        rcases g4 with ⟨x, i1, i2, i3⟩ | ⟨x, i1, i2, i3⟩
        · exact .inl ⟨x, by omega, by rw [eM _ _ (by omega)]; exact i2, by rw [eC _ _ (by omega)]; exact i3⟩
        · exact .inr ⟨x, i1, by rw [eM _ _ (by omega)]; exact i2, by rw [eC _ _ (by omega)]; exact i3⟩
    · by_cases e : x = n
      · subst e
        exact ⟨x + M, by omega, m5⟩
      · obtain ⟨k, g1, g2⟩ := h3 x (by omega)
        exact ⟨k, by omega, by rw [eM _ _ (by omega)]; exact g2⟩
    · obtain ⟨k, g1, g2⟩ := h4 m hm
      exact ⟨k, by omega, by rw [eM _ _ (by omega)]; exact g2⟩
    · by_cases e1 : x = n
      · by_cases e2 : y = n
        · omega
        · exfalso
          rw [e1, c4, eC _ _ (by omega)] at hh
          exact nk (.inl ⟨y, by omega, hh.symm⟩)
      · by_cases e2 : y = n
        · exfalso
          rw [e2, c4, eC _ _ (by omega)] at hh
          exact nk (.inl ⟨x, by omega, hh⟩)
        · rw [eC _ _ (by omega), eC _ _ (by omega)] at hh
          exact h5 x y (by omega) (by omega) hh
    · by_cases e1 : x = n
      · rw [e1, c4, eC _ _ (by omega)] at hh
        exact nk (.inr ⟨m, hm, hh.symm⟩)
      · rw [eC _ _ (by omega), eC _ _ (by omega)] at hh
        exact h6 x m (by omega) hm hh
  · rw [q7, q8, fl _ (by omega) (by omega) (by omega)]
    exact C.ll.cls (fun x y hx => eC _ _ (by omega))
  · rw [q7, q8, fl _ (by omega) (by omega) (by omega)]
    exact C.ls.cls (fun x y hx => eC _ _ (by omega))
set_option maxRecDepth 100000 in theorem b_beast {mC mM μC μM : Mem} {c : Nat → Int} {N T d a K n P M : Nat} (h : PF mC mM μC μM c N T d a K) (C : CN μC μM c N T d n P M K) (t : tkA c N a = 1) : BO a mC mM (fX8_readBeast shC [(2, rf 27)] μC) (fX12_readBeast shM [(2, rf 0)] μM) c N T d := by
  have hd := h.rq.1
  have aT := h.lt (by omega)
  have lT := h.la
  have r0 := h.rq.2.2.2.1
  have r3 := h.rq.2.2.2.2.2.2.1
  have o0 := h.rq.2.2.2.2.2.2.2.1
  have n1 := C.fb.n1
  have nP := C.fb.n2
  have P2 := C.fb.P2
  have M1 := C.fb.M1
  have cb : μC d 1 = (n : Int) := C.fr.be.trans C.fb.n0
  have cp : μC d 0 = (P : Int) := C.fr.pl.trans C.fb.P0
  have cm : μC d 3 = (M : Int) := C.fr.me.trans C.fb.M0
  have rb : μM 6 191 = (n : Int) := C.fb.n0
  have rp : μM 6 190 = (P : Int) := C.fb.P0
  have pm := h.mq.1
  have a7 := h.a7
  by_cases full : n = 12 ∨ n = P
  · have e1 := c_wrong h.rq (k := 5) (by decide) (by decide)
    have e2 := r_wrong h.mq h.f0 (k := 5) (by decide) (by decide)
    refine .inr ⟨_, _, ?_, ?_, h.fo (k := 5) (by decide)⟩
    · generalize ftA c N a 5 = F at *
      by_cases c12 : n = 12
      · simp -implicitDefEqProofs (disch := omega) [fX8_readBeast, bX8_readBeast, v_cop, v_c1, v_c2, v_c3, v_c4, v_c5, v_bin, v_bn, v_bn2, v_div, v_dv, v_dv2, v_une, v_un, v_loc, v_num, v_get, v_gt, v_ald, v_al, v_al2, v_len, v_ln, v_rl0, v_rl1, v_rl2, v_rl3, v_rl4, v_rl5, v_cmp, v_cp, v_cp2, v_zC, v_zc, v_con, v_kc, v_and, v_an1, v_an0, v_or, v_or1, v_or0, v_not, v_nt, v_boo, v_bo, v_cnd, v_cd1, v_cd0, v_cnc, v_cc1, v_cc0, v_ev0, v_ev, v_e1, v_e2, v_cve, v_cv, v_cse, v_cs, v_skip, v_seq, v_sq0, v_sq1, v_sqr, v_sts, v_st, v_inc, v_put, v_pt, v_pt2, v_fop, v_fo, v_fo2, v_ast, v_as, v_as2, v_as3, v_aop, v_ao, v_ao2, v_ao3, v_exs, v_ex, v_ifs, v_if1, v_if0, v_ret, v_rt, v_rez, v_rz, v_rev, v_brk, v_sws, v_sw, v_sw2, v_run, v_rb, v_turn, v_tu1, v_tu0, v_tu2, v_tu3, fst1, snd1, Option.map_some, Option.getD_some, enA, en, stE, okb, narV, rf_toNat, rf_nn, List.getElem?_cons_zero, List.getElem?_cons_succ, w32_id, w64_id, ite_t, ite_f, Int.toNat_add, Int.toNat_mul, dec_t, dec_f, sC_27, r3, o0, cb, c12, e1]
      · simp -implicitDefEqProofs (disch := omega) [fX8_readBeast, bX8_readBeast, v_cop, v_c1, v_c2, v_c3, v_c4, v_c5, v_bin, v_bn, v_bn2, v_div, v_dv, v_dv2, v_une, v_un, v_loc, v_num, v_get, v_gt, v_ald, v_al, v_al2, v_len, v_ln, v_rl0, v_rl1, v_rl2, v_rl3, v_rl4, v_rl5, v_cmp, v_cp, v_cp2, v_zC, v_zc, v_con, v_kc, v_and, v_an1, v_an0, v_or, v_or1, v_or0, v_not, v_nt, v_boo, v_bo, v_cnd, v_cd1, v_cd0, v_cnc, v_cc1, v_cc0, v_ev0, v_ev, v_e1, v_e2, v_cve, v_cv, v_cse, v_cs, v_skip, v_seq, v_sq0, v_sq1, v_sqr, v_sts, v_st, v_inc, v_put, v_pt, v_pt2, v_fop, v_fo, v_fo2, v_ast, v_as, v_as2, v_as3, v_aop, v_ao, v_ao2, v_ao3, v_exs, v_ex, v_ifs, v_if1, v_if0, v_ret, v_rt, v_rez, v_rz, v_rev, v_brk, v_sws, v_sw, v_sw2, v_run, v_rb, v_turn, v_tu1, v_tu0, v_tu2, v_tu3, fst1, snd1, Option.map_some, Option.getD_some, enA, en, stE, okb, narV, rf_toNat, rf_nn, List.getElem?_cons_zero, List.getElem?_cons_succ, w32_id, w64_id, ite_t, ite_f, Int.toNat_add, Int.toNat_mul, dec_t, dec_f, sC_27, r3, o0, cb, cp, e1]
    · generalize ftA c N a 5 = F at *
      by_cases c12 : n = 12
      · simp -implicitDefEqProofs (disch := omega) [fX12_readBeast, bX12_readBeast, v_cop, v_c1, v_c2, v_c3, v_c4, v_c5, v_bin, v_bn, v_bn2, v_div, v_dv, v_dv2, v_une, v_un, v_loc, v_num, v_get, v_gt, v_ald, v_al, v_al2, v_len, v_ln, v_rl0, v_rl1, v_rl2, v_rl3, v_rl4, v_rl5, v_cmp, v_cp, v_cp2, v_zC, v_zc, v_con, v_kc, v_and, v_an1, v_an0, v_or, v_or1, v_or0, v_not, v_nt, v_boo, v_bo, v_cnd, v_cd1, v_cd0, v_cnc, v_cc1, v_cc0, v_ev0, v_ev, v_e1, v_e2, v_cve, v_cv, v_cse, v_cs, v_skip, v_seq, v_sq0, v_sq1, v_sqr, v_sts, v_st, v_inc, v_put, v_pt, v_pt2, v_fop, v_fo, v_fo2, v_ast, v_as, v_as2, v_as3, v_aop, v_ao, v_ao2, v_ao3, v_exs, v_ex, v_ifs, v_if1, v_if0, v_ret, v_rt, v_rez, v_rz, v_rev, v_brk, v_sws, v_sw, v_sw2, v_run, v_rb, v_turn, v_tu1, v_tu0, v_tu2, v_tu3, fst1, snd1, Option.map_some, Option.getD_some, enA, en, stE, okb, narV, rf_toNat, rf_nn, List.getElem?_cons_zero, List.getElem?_cons_succ, w32_id, w64_id, ite_t, ite_f, Int.toNat_add, Int.toNat_mul, dec_t, dec_f, sM_0, sM_6, pm.p10, rb, c12, e2]
      · have cP : n = P := by omega
        have c12' : ¬ (n : Int) = 12 := by omega
        subst cP
        simp -implicitDefEqProofs (disch := omega) [fX12_readBeast, bX12_readBeast, v_cop, v_c1, v_c2, v_c3, v_c4, v_c5, v_bin, v_bn, v_bn2, v_div, v_dv, v_dv2, v_une, v_un, v_loc, v_num, v_get, v_gt, v_ald, v_al, v_al2, v_len, v_ln, v_rl0, v_rl1, v_rl2, v_rl3, v_rl4, v_rl5, v_cmp, v_cp, v_cp2, v_zC, v_zc, v_con, v_kc, v_and, v_an1, v_an0, v_or, v_or1, v_or0, v_not, v_nt, v_boo, v_bo, v_cnd, v_cd1, v_cd0, v_cnc, v_cc1, v_cc0, v_ev0, v_ev, v_e1, v_e2, v_cve, v_cv, v_cse, v_cs, v_skip, v_seq, v_sq0, v_sq1, v_sqr, v_sts, v_st, v_inc, v_put, v_pt, v_pt2, v_fop, v_fo, v_fo2, v_ast, v_as, v_as2, v_as3, v_aop, v_ao, v_ao2, v_ao3, v_exs, v_ex, v_ifs, v_if1, v_if0, v_ret, v_rt, v_rez, v_rz, v_rev, v_brk, v_sws, v_sw, v_sw2, v_run, v_rb, v_turn, v_tu1, v_tu0, v_tu2, v_tu3, fst1, snd1, Option.map_some, Option.getD_some, enA, en, stE, okb, narV, rf_toNat, rf_nn, List.getElem?_cons_zero, List.getElem?_cons_succ, w32_id, w64_id, ite_t, ite_f, Int.toNat_add, Int.toNat_mul, dec_t, dec_f, sM_0, sM_6, pm.p10, rb, rp, c12', e2]
  · have nP' : n < P := by omega
    have n12 : n < 12 := by omega
    have g12 : ¬ (n : Int) = 12 := by omega
    have gP : ¬ (n : Int) = (P : Int) := by omega
    obtain ⟨m1, e1, h1, D1⟩ := h.adv aT
    have b1 : m1 d 1 = (n : Int) := by rw [D1 _ _ (by omega)]; exact cb
    have b3 : m1 d 3 = (M : Int) := by rw [D1 _ _ (by omega)]; exact cm
    have NR1 : NR m1 (ud μM 0 7 ((a : Int) + 1)) c N T n M := C.nr.of (fun x y hx => D1 _ _ (by omega)) (fun x y hx => by rw [ud_n (by omega)])
    have r0' := h1.rq.2.2.2.1
    have r1' := h1.rq.2.2.2.2.1
    have EM1 : ∀ x y, ¬ (x = 0 ∧ y = 7) → ud μM 0 7 ((a : Int) + 1) x y = μM x y := fun x y hx => ud_n hx
    generalize hk1 : ud μM 0 7 ((a : Int) + 1) = k1 at *
    rcases b_name (w := (n : Int)) h1 NR1 b1 n1 b3 M1 (by omega) with ⟨k, kp, e2, e3⟩ | ⟨bT, rs, tw, nk, e2, e3⟩
    · -- no new name
      have fo := h1.fo kp
      have fp := ft_pos (c := c) (N := N) (a := a + 1) kp
      have q8 : ud k1 0 8 (ftA c N (a + 1) k) 0 8 = ftA c N (a + 1) k := ud_s
      have mq8 : MDq (ud k1 0 8 (ftA c N (a + 1) k)) c N T (a + 1) := h1.mq.of (fun x y hx => by rw [ud_n (by omega)]) (by rw [ud_n (by omega)]; exact h1.a7) h1.la.1
      have ew := r_wrongF (k := 1) q8 fp
      have lk : ∃ V : Int, loopS 2 3 kX12_readBeast_0c kX12_readBeast_0b kX12_readBeast_0u shM [(2, rf 0), (0, (n : Int)), (0, -1), (0, 0)] (ud k1 0 8 (ftA c N (a + 1) k)) = some (0, 0, [(2, rf 0), (0, (n : Int)), (0, -1), (0, 6)], ud k1 0 8 (ftA c N (a + 1) k)) := by
        refine ⟨0, ?_⟩
        have lp := loop_run (kb := 2) (kc := 3) (c := kX12_readBeast_0c) (body := kX12_readBeast_0b) (upd := kX12_readBeast_0u) (sh := shM) (fun j => [(2, rf 0), (0, (n : Int)), (0, -1), (0, (j : Int))]) (fun _ => ud k1 0 8 (ftA c N (a + 1) k)) (r := (0, 0, [(2, rf 0), (0, (n : Int)), (0, -1), (0, 6)], ud k1 0 8 (ftA c N (a + 1) k))) 6 (by
          intro j hj
          have e := r_isWord (w := 9 + j) mq8 q8 (by omega)
          rw [show ((9 + j : Nat) : Int) = 9 + (j : Int) by omega, if_neg (by omega)] at e
          generalize ud k1 0 8 (ftA c N (a + 1) k) = k2 at *
          simp -implicitDefEqProofs (disch := omega) [kX12_readBeast_0c, kX12_readBeast_0b, kX12_readBeast_0u, v_cop, v_c1, v_c2, v_c3, v_c4, v_c5, v_bin, v_bn, v_bn2, v_div, v_dv, v_dv2, v_une, v_un, v_loc, v_num, v_get, v_gt, v_ald, v_al, v_al2, v_len, v_ln, v_rl0, v_rl1, v_rl2, v_rl3, v_rl4, v_rl5, v_cmp, v_cp, v_cp2, v_zC, v_zc, v_con, v_kc, v_and, v_an1, v_an0, v_or, v_or1, v_or0, v_not, v_nt, v_boo, v_bo, v_cnd, v_cd1, v_cd0, v_cnc, v_cc1, v_cc0, v_ev0, v_ev, v_e1, v_e2, v_cve, v_cv, v_cse, v_cs, v_skip, v_seq, v_sq0, v_sq1, v_sqr, v_sts, v_st, v_inc, v_put, v_pt, v_pt2, v_fop, v_fo, v_fo2, v_ast, v_as, v_as2, v_as3, v_aop, v_ao, v_ao2, v_ao3, v_exs, v_ex, v_ifs, v_if1, v_if0, v_ret, v_rt, v_rez, v_rz, v_rev, v_brk, v_sws, v_sw, v_sw2, v_run, v_rb, v_turn, v_tu1, v_tu0, v_tu2, v_tu3, fst1, snd1, Option.map_some, Option.getD_some, enA, en, stE, okb, narV, rf_toNat, rf_nn, List.getElem?_cons_zero, List.getElem?_cons_succ, w32_id, w64_id, ite_t, ite_f, Int.toNat_add, Int.toNat_mul, dec_t, dec_f, sM_0, e]) (by
          simp -implicitDefEqProofs (disch := omega) [kX12_readBeast_0c, v_cop, v_c1, v_c2, v_c3, v_c4, v_c5, v_bin, v_bn, v_bn2, v_div, v_dv, v_dv2, v_une, v_un, v_loc, v_num, v_get, v_gt, v_ald, v_al, v_al2, v_len, v_ln, v_rl0, v_rl1, v_rl2, v_rl3, v_rl4, v_rl5, v_cmp, v_cp, v_cp2, v_zC, v_zc, v_con, v_kc, v_and, v_an1, v_an0, v_or, v_or1, v_or0, v_not, v_nt, v_boo, v_bo, v_cnd, v_cd1, v_cd0, v_cnc, v_cc1, v_cc0, v_ev0, v_ev, v_e1, v_e2, v_cve, v_cv, v_cse, v_cs, v_skip, v_seq, v_sq0, v_sq1, v_sqr, v_sts, v_st, v_inc, v_put, v_pt, v_pt2, v_fop, v_fo, v_fo2, v_ast, v_as, v_as2, v_as3, v_aop, v_ao, v_ao2, v_ao3, v_exs, v_ex, v_ifs, v_if1, v_if0, v_ret, v_rt, v_rez, v_rz, v_rev, v_brk, v_sws, v_sw, v_sw2, v_run, v_rb, v_turn, v_tu1, v_tu0, v_tu2, v_tu3, fst1, snd1, Option.map_some, Option.getD_some, enA, en, stE, okb, narV, rf_toNat, rf_nn, List.getElem?_cons_zero, List.getElem?_cons_succ, w32_id, w64_id, ite_t, ite_f, Int.toNat_add, Int.toNat_mul, dec_t, dec_f])
        exact lp
      obtain ⟨-, lk⟩ := lk
      refine .inr ⟨_, _, ?_, ?_, fo⟩
      · clear fo fp q8 mq8 ew lk e3
        generalize ud m1 27 5 (ftA c N (a + 1) k) = m2 at *
        simp -implicitDefEqProofs (disch := omega) [fX8_readBeast, bX8_readBeast, v_cop, v_c1, v_c2, v_c3, v_c4, v_c5, v_bin, v_bn, v_bn2, v_div, v_dv, v_dv2, v_une, v_un, v_loc, v_num, v_get, v_gt, v_ald, v_al, v_al2, v_len, v_ln, v_rl0, v_rl1, v_rl2, v_rl3, v_rl4, v_rl5, v_cmp, v_cp, v_cp2, v_zC, v_zc, v_con, v_kc, v_and, v_an1, v_an0, v_or, v_or1, v_or0, v_not, v_nt, v_boo, v_bo, v_cnd, v_cd1, v_cd0, v_cnc, v_cc1, v_cc0, v_ev0, v_ev, v_e1, v_e2, v_cve, v_cv, v_cse, v_cs, v_skip, v_seq, v_sq0, v_sq1, v_sqr, v_sts, v_st, v_inc, v_put, v_pt, v_pt2, v_fop, v_fo, v_fo2, v_ast, v_as, v_as2, v_as3, v_aop, v_ao, v_ao2, v_ao3, v_exs, v_ex, v_ifs, v_if1, v_if0, v_ret, v_rt, v_rez, v_rz, v_rev, v_brk, v_sws, v_sw, v_sw2, v_run, v_rb, v_turn, v_tu1, v_tu0, v_tu2, v_tu3, fst1, snd1, Option.map_some, Option.getD_some, enA, en, stE, okb, narV, rf_toNat, rf_nn, List.getElem?_cons_zero, List.getElem?_cons_succ, w32_id, w64_id, ite_t, ite_f, Int.toNat_add, Int.toNat_mul, dec_t, dec_f, sC_27, sC_1, r0, r3, o0, cb, cp, e1, e2]
      · clear fo mq8 e2
        generalize ud k1 0 8 (ftA c N (a + 1) k) = k2 at *
        generalize ftA c N (a + 1) k = F at *
        simp -implicitDefEqProofs (disch := omega) [fX12_readBeast, bX12_readBeast, kX12_readBeast_0, v_cop, v_c1, v_c2, v_c3, v_c4, v_c5, v_bin, v_bn, v_bn2, v_div, v_dv, v_dv2, v_une, v_un, v_loc, v_num, v_get, v_gt, v_ald, v_al, v_al2, v_len, v_ln, v_rl0, v_rl1, v_rl2, v_rl3, v_rl4, v_rl5, v_cmp, v_cp, v_cp2, v_zC, v_zc, v_con, v_kc, v_and, v_an1, v_an0, v_or, v_or1, v_or0, v_not, v_nt, v_boo, v_bo, v_cnd, v_cd1, v_cd0, v_cnc, v_cc1, v_cc0, v_ev0, v_ev, v_e1, v_e2, v_cve, v_cv, v_cse, v_cs, v_skip, v_seq, v_sq0, v_sq1, v_sqr, v_sts, v_st, v_inc, v_put, v_pt, v_pt2, v_fop, v_fo, v_fo2, v_ast, v_as, v_as2, v_as3, v_aop, v_ao, v_ao2, v_ao3, v_exs, v_ex, v_ifs, v_if1, v_if0, v_ret, v_rt, v_rez, v_rz, v_rev, v_brk, v_sws, v_sw, v_sw2, v_run, v_rb, v_turn, v_tu1, v_tu0, v_tu2, v_tu3, fst1, snd1, Option.map_some, Option.getD_some, enA, en, stE, okb, narV, rf_toNat, rf_nn, List.getElem?_cons_zero, List.getElem?_cons_succ, w32_id, w64_id, ite_t, ite_f, Int.toNat_add, Int.toNat_mul, dec_t, dec_f, sM_0, sM_6, pm.p10, rb, rp, g12, gP, a7, hk1, e3, lk, ew, q8]
    · have nm5 := h1.rq.t5 tw
      have h1a : PF mC mM (ud m1 28 n (nmA c N (a + 1))) (nwN k1 c N (a + 1) (n + M) (n : Int)) c N T d (a + 1) K := (h1.cls (fun x y hx => by rw [ud_n (fun z => hx (by unfold ZC; omega))])).ref (fun x y hx => by unfold nwN; rw [ud_n (by omega), ud_n (by omega), ud_n (by omega)])
      obtain ⟨m2, e4, h2, D2⟩ := h1a.adv bT
      have EM2 : ∀ x y, ¬ ((x = 0 ∧ (y = 7 ∨ y = 17)) ∨ (x = 9 ∧ y = n + M) ∨ (x = 10 ∧ y = n + M)) → ud (nwN k1 c N (a + 1) (n + M) (n : Int)) 0 7 (((a + 1 : Nat) : Int) + 1) x y = μM x y := fun x y hx => by unfold nwN; rw [ud_n (by omega), ud_n (by omega), ud_n (by omega), ud_n (by omega)]; exact EM1 x y (by omega)
      have EC2 : ∀ x y, ¬ ((x = 1 ∧ 2 ≤ y) ∨ (x = 28 ∧ y = n)) → m2 x y = μC x y := fun x y hx => by rw [D2 _ _ (by omega), ud_n (by omega)]; exact D1 x y (by omega)
      have z9 : ud (nwN k1 c N (a + 1) (n + M) (n : Int)) 0 7 (((a + 1 : Nat) : Int) + 1) 9 (n + M) = rvA c N (a + 1) := by unfold nwN; rw [ud_n (by omega), ud_n (by omega), ud_n (by omega), ud_s]
      have z10 : ud (nwN k1 c N (a + 1) (n + M) (n : Int)) 0 7 (((a + 1 : Nat) : Int) + 1) 10 (n + M) = (n : Int) := by unfold nwN; rw [ud_n (by omega), ud_n (by omega), ud_s]
      have z17 : ud (nwN k1 c N (a + 1) (n + M) (n : Int)) 0 7 (((a + 1 : Nat) : Int) + 1) 0 17 = ((n + M : Nat) : Int) + 1 := by unfold nwN; rw [ud_n (by omega), ud_s]
      have z28 : m2 28 n = nmA c N (a + 1) := by rw [D2 _ _ (by omega), ud_s]
      have r0a : ud m1 28 n (nmA c N (a + 1)) 27 0 = rf 1 := by rw [ud_n (by omega)]; exact r0'
      generalize hk2 : ud (nwN k1 c N (a + 1) (n + M) (n : Int)) 0 7 (((a + 1 : Nat) : Int) + 1) = k2 at *
      have lk := r_kind (n := n) h2.mq h2.f0
      have t2 := h2.rq.t2
      have r02 := h2.rq.2.2.2.1
      have r32 := h2.rq.2.2.2.2.2.2.1
      have ob2 := h2.rq.2.2.2.2.2.2.2
      have f82 := h2.f0
      have a72 := h2.a7
      have pm2 := h2.mq.1
      by_cases tk : 9 ≤ tkA c N (a + 1 + 1) ∧ tkA c N (a + 1 + 1) ≤ 14
      · rw [if_pos tk] at lk
        have h2a : PF mC mM (ud m2 (d + 1) n (tkA c N (a + 1 + 1) - 9)) k2 c N T d (a + 1 + 1) K := h2.cls (fun x y hx => by rw [ud_n (fun z => hx (by unfold ZC; omega))])
        obtain ⟨m3, e5, h3, D3⟩ := h2a.adv (h2.lt (by omega))
        have h3a : PF mC mM m3 (ud (ud k2 0 7 (((a + 1 + 1 : Nat) : Int) + 1)) 6 (193 + 2 * n) (tkA c N (a + 1 + 1) - 9)) c N T d (a + 1 + 1 + 1) K := h3.ref (fun x y hx => by rw [ud_n (by omega)])
        have EM3 : ∀ x y, ¬ ((x = 0 ∧ (y = 7 ∨ y = 17)) ∨ (x = 9 ∧ y = n + M) ∨ (x = 10 ∧ y = n + M) ∨ (x = 6 ∧ y = 193 + 2 * n)) → ud (ud k2 0 7 (((a + 1 + 1 : Nat) : Int) + 1)) 6 (193 + 2 * n) (tkA c N (a + 1 + 1) - 9) x y = μM x y := fun x y hx => by rw [ud_n (by omega), ud_n (by omega)]; exact EM2 x y (by omega)
        have y9 : ud (ud k2 0 7 (((a + 1 + 1 : Nat) : Int) + 1)) 6 (193 + 2 * n) (tkA c N (a + 1 + 1) - 9) 9 (n + M) = rvA c N (a + 1) := by rw [ud_n (by omega), ud_n (by omega)]; exact z9
        have y10 : ud (ud k2 0 7 (((a + 1 + 1 : Nat) : Int) + 1)) 6 (193 + 2 * n) (tkA c N (a + 1 + 1) - 9) 10 (n + M) = (n : Int) := by rw [ud_n (by omega), ud_n (by omega)]; exact z10
        have y17 : ud (ud k2 0 7 (((a + 1 + 1 : Nat) : Int) + 1)) 6 (193 + 2 * n) (tkA c N (a + 1 + 1) - 9) 0 17 = ((n + M : Nat) : Int) + 1 := by rw [ud_n (by omega), ud_n (by omega)]; exact z17
        have y6 : ud (ud k2 0 7 (((a + 1 + 1 : Nat) : Int) + 1)) 6 (193 + 2 * n) (tkA c N (a + 1 + 1) - 9) 6 (193 + 2 * n) = tkA c N (a + 1 + 1) - 9 := ud_s
        have y191 : ud (ud k2 0 7 (((a + 1 + 1 : Nat) : Int) + 1)) 6 (193 + 2 * n) (tkA c N (a + 1 + 1) - 9) 6 191 = (n : Int) := by rw [EM3 _ _ (by omega)]; exact rb
        have x10 : ud k2 0 7 (((a + 1 + 1 : Nat) : Int) + 1) 0 10 = rf 6 := by rw [ud_n (by omega)]; exact pm2.p10
        have k01 : ud m2 (d + 1) n (tkA c N (a + 1 + 1) - 9) 27 0 = rf 1 := by rw [ud_n (by omega)]; exact r02
        have pm3 := h3a.mq.1
        have o1 := ob2.2.1
        have p4 : m2 d 4 = rf (d + 1) := ob2.2.2.2.2.2.2.2.2.2.2.2.2.1
        have o02 := ob2.1
        have w28 : m3 28 n = nmA c N (a + 1) := by rw [D3 _ _ (by omega), ud_n (by omega)]; exact z28
        have wk : m3 (d + 1) n = tkA c N (a + 1 + 1) - 9 := by rw [D3 _ _ (by omega), ud_s]
        have EC3 : ∀ x y, ¬ ((x = 1 ∧ 2 ≤ y) ∨ (x = 28 ∧ y = n) ∨ (x = d + 1 ∧ y = n)) → m3 x y = μC x y := fun x y hx => by rw [D3 _ _ (by omega), ud_n (by omega)]; exact EC2 x y (by omega)
        generalize hk3 : ud (ud k2 0 7 (((a + 1 + 1 : Nat) : Int) + 1)) 6 (193 + 2 * n) (tkA c N (a + 1 + 1) - 9) = k3 at *
        generalize hk3a : ud k2 0 7 (((a + 1 + 1 : Nat) : Int) + 1) = k3a at *
        rcases b_after (w := 2) (wi := 2) (l := 0) (u := 9) h3a (by decide) rfl with ⟨m4, k4, e6, e7, fo, E4⟩ | ⟨m4, v, e6, e7, v4, v0, v9, e8, h4, bT4, D4⟩
        · have q10 : k4 0 10 = rf 6 := by rw [E4 _ _ (by omega)]; exact pm3.p10
          have q191 : ud k4 6 (194 + 2 * n) 0 6 191 = (n : Int) := by rw [ud_n (by omega), E4 _ _ (by omega)]; exact y191
          have q10' : ud k4 6 (194 + 2 * n) 0 0 10 = rf 6 := by rw [ud_n (by omega)]; exact q10
          refine .inr ⟨m4, ud (ud k4 6 (194 + 2 * n) 0) 6 191 ((n : Int) + 1), ?_, ?_, fo.ref (fun x y hx => by rw [ud_n (by omega), ud_n (by omega)])⟩
          · clear fo e7 lk e3 y9 y10 y17 y6 y191 EM1 EM2 EM3 EC2 EC3
            generalize tkA c N (a + 1 + 1) = V at *
            generalize nmA c N (a + 1) = W at *
            rcases e6 with e6 | ⟨m, e6, e6'⟩
            · simp -implicitDefEqProofs (disch := omega) [fX8_readBeast, bX8_readBeast, v_cop, v_c1, v_c2, v_c3, v_c4, v_c5, v_bin, v_bn, v_bn2, v_div, v_dv, v_dv2, v_une, v_un, v_loc, v_num, v_get, v_gt, v_ald, v_al, v_al2, v_len, v_ln, v_rl0, v_rl1, v_rl2, v_rl3, v_rl4, v_rl5, v_cmp, v_cp, v_cp2, v_zC, v_zc, v_con, v_kc, v_and, v_an1, v_an0, v_or, v_or1, v_or0, v_not, v_nt, v_boo, v_bo, v_cnd, v_cd1, v_cd0, v_cnc, v_cc1, v_cc0, v_ev0, v_ev, v_e1, v_e2, v_cve, v_cv, v_cse, v_cs, v_skip, v_seq, v_sq0, v_sq1, v_sqr, v_sts, v_st, v_inc, v_put, v_pt, v_pt2, v_fop, v_fo, v_fo2, v_ast, v_as, v_as2, v_as3, v_aop, v_ao, v_ao2, v_ao3, v_exs, v_ex, v_ifs, v_if1, v_if0, v_ret, v_rt, v_rez, v_rz, v_rev, v_brk, v_sws, v_sw, v_sw2, v_run, v_rb, v_turn, v_tu1, v_tu0, v_tu2, v_tu3, fst1, snd1, Option.map_some, Option.getD_some, enA, en, stE, okb, narV, rf_toNat, rf_nn, List.getElem?_cons_zero, List.getElem?_cons_succ, w32_id, w64_id, ite_t, ite_f, Int.toNat_add, Int.toNat_mul, dec_t, dec_f, sC_27, sC_28, sC_1, r0, r3, o0, cb, cp, e1, e2, r0', r1', nm5, r0a, e4, r02, r32, t2, o02, o1, p4, k01, e5, e6]
            · simp -implicitDefEqProofs (disch := omega) [fX8_readBeast, bX8_readBeast, v_cop, v_c1, v_c2, v_c3, v_c4, v_c5, v_bin, v_bn, v_bn2, v_div, v_dv, v_dv2, v_une, v_un, v_loc, v_num, v_get, v_gt, v_ald, v_al, v_al2, v_len, v_ln, v_rl0, v_rl1, v_rl2, v_rl3, v_rl4, v_rl5, v_cmp, v_cp, v_cp2, v_zC, v_zc, v_con, v_kc, v_and, v_an1, v_an0, v_or, v_or1, v_or0, v_not, v_nt, v_boo, v_bo, v_cnd, v_cd1, v_cd0, v_cnc, v_cc1, v_cc0, v_ev0, v_ev, v_e1, v_e2, v_cve, v_cv, v_cse, v_cs, v_skip, v_seq, v_sq0, v_sq1, v_sqr, v_sts, v_st, v_inc, v_put, v_pt, v_pt2, v_fop, v_fo, v_fo2, v_ast, v_as, v_as2, v_as3, v_aop, v_ao, v_ao2, v_ao3, v_exs, v_ex, v_ifs, v_if1, v_if0, v_ret, v_rt, v_rez, v_rz, v_rev, v_brk, v_sws, v_sw, v_sw2, v_run, v_rb, v_turn, v_tu1, v_tu0, v_tu2, v_tu3, fst1, snd1, Option.map_some, Option.getD_some, enA, en, stE, okb, narV, rf_toNat, rf_nn, List.getElem?_cons_zero, List.getElem?_cons_succ, w32_id, w64_id, ite_t, ite_f, Int.toNat_add, Int.toNat_mul, dec_t, dec_f, sC_27, sC_28, sC_1, r0, r3, o0, cb, cp, e1, e2, r0', r1', nm5, r0a, e4, r02, r32, t2, o02, o1, p4, k01, e5, e6, e6']
          · clear fo e6 y9 y10 y17 y6 EM1 EM2 EM3 EC2 EC3
            generalize tkA c N (a + 1 + 1) = V at *
            have b2b := h2.la
            generalize a + 1 + 1 = b2 at *
            have i1 : 193 + 2 * (n : Int) + 1 = 194 + 2 * (n : Int) := by omega
            simp -implicitDefEqProofs (disch := omega) [fX12_readBeast, bX12_readBeast, kX12_readBeast_0, v_cop, v_c1, v_c2, v_c3, v_c4, v_c5, v_bin, v_bn, v_bn2, v_div, v_dv, v_dv2, v_une, v_un, v_loc, v_num, v_get, v_gt, v_ald, v_al, v_al2, v_len, v_ln, v_rl0, v_rl1, v_rl2, v_rl3, v_rl4, v_rl5, v_cmp, v_cp, v_cp2, v_zC, v_zc, v_con, v_kc, v_and, v_an1, v_an0, v_or, v_or1, v_or0, v_not, v_nt, v_boo, v_bo, v_cnd, v_cd1, v_cd0, v_cnc, v_cc1, v_cc0, v_ev0, v_ev, v_e1, v_e2, v_cve, v_cv, v_cse, v_cs, v_skip, v_seq, v_sq0, v_sq1, v_sqr, v_sts, v_st, v_inc, v_put, v_pt, v_pt2, v_fop, v_fo, v_fo2, v_ast, v_as, v_as2, v_as3, v_aop, v_ao, v_ao2, v_ao3, v_exs, v_ex, v_ifs, v_if1, v_if0, v_ret, v_rt, v_rez, v_rz, v_rev, v_brk, v_sws, v_sw, v_sw2, v_run, v_rb, v_turn, v_tu1, v_tu0, v_tu2, v_tu3, fst1, snd1, Option.map_some, Option.getD_some, enA, en, stE, okb, narV, rf_toNat, rf_nn, List.getElem?_cons_zero, List.getElem?_cons_succ, w32_id, w64_id, ite_t, ite_f, Int.toNat_add, Int.toNat_mul, dec_t, dec_f, sM_0, sM_6, pm.p10, rb, rp, g12, gP, a7, hk1, e3, hk2, lk, f82, a72, hk3a, x10, hk3, pm3.p10, i1, e7, q10, q10', q191]
        · have h4a : PF mC mM (ud (ud m4 (d + 2) n v) d 1 ((n : Int) + 1)) (ud k3 0 7 (((a + 1 + 1 + 1 : Nat) : Int) + 1)) c N T d (a + 1 + 1 + 1 + 1) K := h4.cls (fun x y hx => by rw [ud_n (fun z => hx (by unfold ZC; omega)), ud_n (fun z => hx (by unfold ZC; omega))])
          obtain ⟨m5, e9, h5, D5⟩ := h4a.adv bT4
          generalize hk4 : ud (ud k3 0 7 (((a + 1 + 1 + 1 : Nat) : Int) + 1)) 0 7 (((a + 1 + 1 + 1 + 1 : Nat) : Int) + 1) = k4 at *
          have EM4 : ∀ x y, ¬ (x = 0 ∧ y = 7) → k4 x y = k3 x y := fun x y hx => by rw [← hk4, ud_n hx, ud_n hx]
          have h5a : PF mC mM m5 (ud (ud k4 6 (194 + 2 * n) v) 6 191 ((n : Int) + 1)) c N T d (a + 1 + 1 + 1 + 1 + 1) K := h5.ref (fun x y hx => by rw [ud_n (by omega), ud_n (by omega)])
          have q10 : k4 0 10 = rf 6 := by rw [EM4 _ _ (by omega)]; exact pm3.p10
          have q191 : ud k4 6 (194 + 2 * n) v 6 191 = (n : Int) := by rw [ud_n (by omega), EM4 _ _ (by omega)]; exact y191
          have q10' : ud k4 6 (194 + 2 * n) v 0 10 = rf 6 := by rw [ud_n (by omega)]; exact q10
          have r04 := h4.rq.2.2.2.1
          have r34 := h4.rq.2.2.2.2.2.2.1
          have ob4 := h4.rq.2.2.2.2.2.2.2
          have o04 := ob4.1
          have o24 := ob4.2.2.1
          have p5 : m4 d 5 = rf (d + 2) := ob4.2.2.2.2.2.2.2.2.2.2.2.2.2.1
          have u3 : ud m4 (d + 2) n v 27 3 = rf d := by rw [ud_n (by omega)]; exact r34
          have u0 : ud (ud m4 (d + 2) n v) d 1 ((n : Int) + 1) 27 0 = rf 1 := by rw [ud_n (by omega), ud_n (by omega)]; exact r04
          refine .inl ⟨_, K, n + 1, P, M, m5, ud (ud k4 6 (194 + 2 * n) v) 6 191 ((n : Int) + 1), ?_, ?_, by omega, h5a, ?_⟩
          · clear h4 h4a h5 h5a e8 lk e3 y9 y10 y17 y6 y191 EM1 EM2 EM3 EC2 EC3 EM4
            generalize tkA c N (a + 1 + 1) = V at *
            generalize nmA c N (a + 1) = W at *
            simp -implicitDefEqProofs (disch := omega) [fX8_readBeast, bX8_readBeast, v_cop, v_c1, v_c2, v_c3, v_c4, v_c5, v_bin, v_bn, v_bn2, v_div, v_dv, v_dv2, v_une, v_un, v_loc, v_num, v_get, v_gt, v_ald, v_al, v_al2, v_len, v_ln, v_rl0, v_rl1, v_rl2, v_rl3, v_rl4, v_rl5, v_cmp, v_cp, v_cp2, v_zC, v_zc, v_con, v_kc, v_and, v_an1, v_an0, v_or, v_or1, v_or0, v_not, v_nt, v_boo, v_bo, v_cnd, v_cd1, v_cd0, v_cnc, v_cc1, v_cc0, v_ev0, v_ev, v_e1, v_e2, v_cve, v_cv, v_cse, v_cs, v_skip, v_seq, v_sq0, v_sq1, v_sqr, v_sts, v_st, v_inc, v_put, v_pt, v_pt2, v_fop, v_fo, v_fo2, v_ast, v_as, v_as2, v_as3, v_aop, v_ao, v_ao2, v_ao3, v_exs, v_ex, v_ifs, v_if1, v_if0, v_ret, v_rt, v_rez, v_rz, v_rev, v_brk, v_sws, v_sw, v_sw2, v_run, v_rb, v_turn, v_tu1, v_tu0, v_tu2, v_tu3, fst1, snd1, Option.map_some, Option.getD_some, enA, en, stE, okb, narV, rf_toNat, rf_nn, List.getElem?_cons_zero, List.getElem?_cons_succ, w32_id, w64_id, ite_t, ite_f, Int.toNat_add, Int.toNat_mul, dec_t, dec_f, sC_27, sC_28, sC_1, r0, r3, o0, cb, cp, e1, e2, r0', r1', nm5, r0a, e4, r02, r32, t2, o02, o1, p4, k01, e5, e6, e7, r04, r34, o04, o24, p5, v4, u3, u0, e9]
          · clear h4 h4a h5 h5a e6 e7 y9 y10 y17 y6 EM1 EM2 EM3 EC2 EC3 EM4
            generalize tkA c N (a + 1 + 1) = V at *
            have b2b := h2.la
            generalize a + 1 + 1 = b2 at *
            have i1 : 193 + 2 * (n : Int) + 1 = 194 + 2 * (n : Int) := by omega
            simp -implicitDefEqProofs (disch := omega) [fX12_readBeast, bX12_readBeast, kX12_readBeast_0, v_cop, v_c1, v_c2, v_c3, v_c4, v_c5, v_bin, v_bn, v_bn2, v_div, v_dv, v_dv2, v_une, v_un, v_loc, v_num, v_get, v_gt, v_ald, v_al, v_al2, v_len, v_ln, v_rl0, v_rl1, v_rl2, v_rl3, v_rl4, v_rl5, v_cmp, v_cp, v_cp2, v_zC, v_zc, v_con, v_kc, v_and, v_an1, v_an0, v_or, v_or1, v_or0, v_not, v_nt, v_boo, v_bo, v_cnd, v_cd1, v_cd0, v_cnc, v_cc1, v_cc0, v_ev0, v_ev, v_e1, v_e2, v_cve, v_cv, v_cse, v_cs, v_skip, v_seq, v_sq0, v_sq1, v_sqr, v_sts, v_st, v_inc, v_put, v_pt, v_pt2, v_fop, v_fo, v_fo2, v_ast, v_as, v_as2, v_as3, v_aop, v_ao, v_ao2, v_ao3, v_exs, v_ex, v_ifs, v_if1, v_if0, v_ret, v_rt, v_rez, v_rz, v_rev, v_brk, v_sws, v_sw, v_sw2, v_run, v_rb, v_turn, v_tu1, v_tu0, v_tu2, v_tu3, fst1, snd1, Option.map_some, Option.getD_some, enA, en, stE, okb, narV, rf_toNat, rf_nn, List.getElem?_cons_zero, List.getElem?_cons_succ, w32_id, w64_id, ite_t, ite_f, Int.toNat_add, Int.toNat_mul, dec_t, dec_f, sM_0, sM_6, pm.p10, rb, rp, g12, gP, a7, hk1, e3, hk2, lk, f82, a72, hk3a, x10, hk3, pm3.p10, i1, e8, q10, q10', q191]
          · exact cn_beast (b := a + 1) (ki := tkA c N (a + 1 + 1) - 9) (to := v) C hd nP' n12 bT rs (fun z => nk (by
              unfold knN at z ⊢
              rcases z with ⟨b, i1, i2⟩ | ⟨m, i1, i2⟩
              · exact .inl ⟨b, i1, by rw [D1 _ _ (by omega)]; exact i2⟩
              · exact .inr ⟨m, i1, by rw [D1 _ _ (by omega)]; exact i2⟩)) (by omega) ⟨v0, v9⟩ (fun x y hx => by rw [D5 _ _ (by omega), ud_n (by omega), ud_n (by omega), D4 _ _ (by omega)]; exact EC3 x y (by omega)) (by rw [D5 _ _ (by omega), ud_s]) (by rw [D5 _ _ (by omega), ud_n (by omega), ud_n (by omega), D4 _ _ (by omega)]; exact wk) (by rw [D5 _ _ (by omega), ud_n (by omega), ud_s]) (by rw [D5 _ _ (by omega), ud_n (by omega), ud_n (by omega), D4 _ _ (by omega)]; exact w28) (fun x y hx => by rw [ud_n (by omega), ud_n (by omega), EM4 _ _ (by omega)]; exact EM3 x y (by omega)) ud_s (by rw [ud_n (by omega), ud_n (by omega), EM4 _ _ (by omega)]; exact y6) (by rw [ud_n (by omega), ud_s]) (by rw [ud_n (by omega), ud_n (by omega), EM4 _ _ (by omega)]; exact y9) (by rw [ud_n (by omega), ud_n (by omega), EM4 _ _ (by omega)]; exact y10) (by rw [ud_n (by omega), ud_n (by omega), EM4 _ _ (by omega)]; exact y17)
      · rw [if_neg tk] at lk
        have e5 := c_wrong h2.rq (k := 1) (by decide) (by decide)
        have e6 := r_wrong h2.mq h2.f0 (k := 1) (by decide) (by decide)
        have fp := ft_pos (c := c) (N := N) (a := a + 1 + 1) (k := 1) (by decide)
        have q8 : ud k2 0 8 (ftA c N (a + 1 + 1) 1) 0 8 = ftA c N (a + 1 + 1) 1 := ud_s
        refine .inr ⟨_, _, ?_, ?_, h2.fo (k := 1) (by decide)⟩
        · clear lk e3 e6 q8 fp EM1 EM2 EC2
          generalize ud m2 27 5 (ftA c N (a + 1 + 1) 1) = m3 at *
          generalize tkA c N (a + 1 + 1) = V at *
          generalize nmA c N (a + 1) = W at *
          by_cases V9 : V < 9
          · simp -implicitDefEqProofs (disch := omega) [fX8_readBeast, bX8_readBeast, v_cop, v_c1, v_c2, v_c3, v_c4, v_c5, v_bin, v_bn, v_bn2, v_div, v_dv, v_dv2, v_une, v_un, v_loc, v_num, v_get, v_gt, v_ald, v_al, v_al2, v_len, v_ln, v_rl0, v_rl1, v_rl2, v_rl3, v_rl4, v_rl5, v_cmp, v_cp, v_cp2, v_zC, v_zc, v_con, v_kc, v_and, v_an1, v_an0, v_or, v_or1, v_or0, v_not, v_nt, v_boo, v_bo, v_cnd, v_cd1, v_cd0, v_cnc, v_cc1, v_cc0, v_ev0, v_ev, v_e1, v_e2, v_cve, v_cv, v_cse, v_cs, v_skip, v_seq, v_sq0, v_sq1, v_sqr, v_sts, v_st, v_inc, v_put, v_pt, v_pt2, v_fop, v_fo, v_fo2, v_ast, v_as, v_as2, v_as3, v_aop, v_ao, v_ao2, v_ao3, v_exs, v_ex, v_ifs, v_if1, v_if0, v_ret, v_rt, v_rez, v_rz, v_rev, v_brk, v_sws, v_sw, v_sw2, v_run, v_rb, v_turn, v_tu1, v_tu0, v_tu2, v_tu3, fst1, snd1, Option.map_some, Option.getD_some, enA, en, stE, okb, narV, rf_toNat, rf_nn, List.getElem?_cons_zero, List.getElem?_cons_succ, w32_id, w64_id, ite_t, ite_f, Int.toNat_add, Int.toNat_mul, dec_t, dec_f, sC_27, sC_28, sC_1, r0, r3, o0, cb, cp, e1, e2, r0', r1', nm5, r0a, e4, r02, r32, t2, e5]
          · simp -implicitDefEqProofs (disch := omega) [fX8_readBeast, bX8_readBeast, v_cop, v_c1, v_c2, v_c3, v_c4, v_c5, v_bin, v_bn, v_bn2, v_div, v_dv, v_dv2, v_une, v_un, v_loc, v_num, v_get, v_gt, v_ald, v_al, v_al2, v_len, v_ln, v_rl0, v_rl1, v_rl2, v_rl3, v_rl4, v_rl5, v_cmp, v_cp, v_cp2, v_zC, v_zc, v_con, v_kc, v_and, v_an1, v_an0, v_or, v_or1, v_or0, v_not, v_nt, v_boo, v_bo, v_cnd, v_cd1, v_cd0, v_cnc, v_cc1, v_cc0, v_ev0, v_ev, v_e1, v_e2, v_cve, v_cv, v_cse, v_cs, v_skip, v_seq, v_sq0, v_sq1, v_sqr, v_sts, v_st, v_inc, v_put, v_pt, v_pt2, v_fop, v_fo, v_fo2, v_ast, v_as, v_as2, v_as3, v_aop, v_ao, v_ao2, v_ao3, v_exs, v_ex, v_ifs, v_if1, v_if0, v_ret, v_rt, v_rez, v_rz, v_rev, v_brk, v_sws, v_sw, v_sw2, v_run, v_rb, v_turn, v_tu1, v_tu0, v_tu2, v_tu3, fst1, snd1, Option.map_some, Option.getD_some, enA, en, stE, okb, narV, rf_toNat, rf_nn, List.getElem?_cons_zero, List.getElem?_cons_succ, w32_id, w64_id, ite_t, ite_f, Int.toNat_add, Int.toNat_mul, dec_t, dec_f, sC_27, sC_28, sC_1, r0, r3, o0, cb, cp, e1, e2, r0', r1', nm5, r0a, e4, r02, r32, t2, e5]
        · clear e5 EM1 EM2 EC2
          generalize ud k2 0 8 (ftA c N (a + 1 + 1) 1) = k3 at *
          generalize ftA c N (a + 1 + 1) 1 = F at *
          simp -implicitDefEqProofs (disch := omega) [fX12_readBeast, bX12_readBeast, kX12_readBeast_0, v_cop, v_c1, v_c2, v_c3, v_c4, v_c5, v_bin, v_bn, v_bn2, v_div, v_dv, v_dv2, v_une, v_un, v_loc, v_num, v_get, v_gt, v_ald, v_al, v_al2, v_len, v_ln, v_rl0, v_rl1, v_rl2, v_rl3, v_rl4, v_rl5, v_cmp, v_cp, v_cp2, v_zC, v_zc, v_con, v_kc, v_and, v_an1, v_an0, v_or, v_or1, v_or0, v_not, v_nt, v_boo, v_bo, v_cnd, v_cd1, v_cd0, v_cnc, v_cc1, v_cc0, v_ev0, v_ev, v_e1, v_e2, v_cve, v_cv, v_cse, v_cs, v_skip, v_seq, v_sq0, v_sq1, v_sqr, v_sts, v_st, v_inc, v_put, v_pt, v_pt2, v_fop, v_fo, v_fo2, v_ast, v_as, v_as2, v_as3, v_aop, v_ao, v_ao2, v_ao3, v_exs, v_ex, v_ifs, v_if1, v_if0, v_ret, v_rt, v_rez, v_rz, v_rev, v_brk, v_sws, v_sw, v_sw2, v_run, v_rb, v_turn, v_tu1, v_tu0, v_tu2, v_tu3, fst1, snd1, Option.map_some, Option.getD_some, enA, en, stE, okb, narV, rf_toNat, rf_nn, List.getElem?_cons_zero, List.getElem?_cons_succ, w32_id, w64_id, ite_t, ite_f, Int.toNat_add, Int.toNat_mul, dec_t, dec_f, sM_0, sM_6, pm.p10, rb, rp, g12, gP, a7, hk1, e3, hk2, lk, e6, q8]
