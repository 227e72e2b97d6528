/-! sets of missing ones: the class -/
def GQ (μ : Mem) (h n P M : Nat) (fl st : Nat → Int) : Prop := (h = 3 ∨ h = 15) ∧ ObFl shC μ h ∧ ObLy shC μ 30 ∧ ObFg shC μ 40 ∧ (μ 110 5 = rf 111 ∧ μ 110 6 = rf 112 ∧ μ 110 7 = rf 113) ∧ FB fl n P M ∧ FR μ h fl n M ∧ LR μ 30 st ∧ GR μ 40 st ∧ SL st n P ∧ SG st n P
set_option maxRecDepth 100000 in theorem GQ.of {μ μ' : Mem} {h n P M : Nat} {fl st : Nat → Int} (q : GQ μ h n P M fl st) (e : ∀ a b, a ≠ 111 → a ≠ 112 → a ≠ 113 → ¬ (a = 110 ∧ b < 5) → μ' a b = μ a b) : GQ μ' h n P M fl st := by
  obtain ⟨h1, ⟨f0, f1, f2, f3, f4, f5, f6, f7, f8, f9, f10, f11, g1, g2, g3, g4, g5, g6, g7, g8, g9, g10, g11⟩, ⟨k0, k1, k2, k3, k4, k5, k6, k7, k8⟩, ⟨o0, o1, o2, o3, o4, o5, o6⟩, ⟨p5, p6, p7⟩, B, F, L, G, S, T⟩ := q
  refine ⟨h1, ⟨f0, f1, f2, f3, f4, f5, f6, f7, f8, f9, f10, f11, ?_, ?_, ?_, ?_, ?_, ?_, ?_, ?_, ?_, ?_, ?_⟩, ⟨k0, k1, k2, k3, k4, ?_, ?_, ?_, ?_⟩, ⟨o0, o1, o2, o3, ?_, ?_, ?_⟩, ⟨?_, ?_, ?_⟩, B, F.of (fun a b _ _ => e a b (by omega) (by omega) (by omega) (by omega)), L.of (fun a b _ _ => e a b (by omega) (by omega) (by omega) (by omega)) (fun _ _ => rfl), G.of T.f1 (fun a b _ _ => e a b (by omega) (by omega) (by omega) (by omega)) (fun _ _ _ => rfl), S, T⟩
  all_goals rw [e _ _ (by omega) (by omega) (by omega) (by omega)]
  all_goals assumption
set_option maxRecDepth 100000 in theorem c_isMissed {μ : Mem} {h n P M : Nat} {fl st : Nat → Int} (Q : GQ μ h n P M fl st) {a b : Nat} {least : Int} (ha : a < n) (hb : b < n) : fX3_isMissed shC [(2, rf h), (2, rf 30), (0, (a : Int)), (0, (b : Int)), (0, least)] μ = some (if ((st (14 + a) - st (14 + b) = 1 ∨ st (14 + a) - st (14 + b) = -1) ∧ least ≤ likS fl st a b) then 1 else 0, μ) := by
  obtain ⟨h1, f, o, -, -, B, F, L, -, S, -⟩ := Q
  have n1 := B.n1
  have P2 := B.P2
  have e1 := c_likes o f L F B ha hb
  have l1 := L.la a (by omega)
  have l2 := L.la b (by omega)
  have r1 := S.la a (by omega)
  have r2 := S.la b (by omega)
  obtain ⟨k0, k1, k2, k3, k4, k5, k6, k7, k8⟩ := o
  have f0 := f.1
  generalize likS fl st a b = lk at *
  by_cases c1 : st (14 + a) - st (14 + b) = 1
  · have c1' : w32 (st (14 + a) - st (14 + b)) = 1 := by rw [w32_id ⟨by omega, by omega⟩]; exact c1
    by_cases c3 : least ≤ lk
    · rw [if_pos ⟨.inl c1, c3⟩]
      simp -implicitDefEqProofs (disch := omega) [fX3_isMissed, bX3_isMissed, v_cop, v_c1, v_c2, v_c3, v_c4, v_c5, v_bin, v_bn, v_bn2, v_div, v_dv, v_dv2, v_une, v_un, v_loc, v_num, v_get, v_gt, v_ald, v_al, v_al2, v_len, v_ln, v_rl0, v_rl1, v_rl2, v_rl3, v_rl4, v_rl5, v_cmp, v_cp, v_cp2, v_zC, v_zc, v_con, v_kc, v_and, v_an1, v_an0, v_or, v_or1, v_or0, v_not, v_nt, v_boo, v_bo, v_cnd, v_cd1, v_cd0, v_cnc, v_cc1, v_cc0, v_ev0, v_ev, v_e1, v_e2, v_cve, v_cv, v_cse, v_cs, v_skip, v_seq, v_sq0, v_sq1, v_sqr, v_sts, v_st, v_inc, v_put, v_pt, v_pt2, v_fop, v_fo, v_fo2, v_ast, v_as, v_as2, v_as3, v_aop, v_ao, v_ao2, v_ao3, v_exs, v_ex, v_ifs, v_if1, v_if0, v_ret, v_rt, v_rez, v_rz, v_rev, v_brk, v_sws, v_sw, v_sw2, v_run, v_rb, v_turn, v_tu1, v_tu0, v_tu2, v_tu3, fst1, snd1, Option.map_some, Option.getD_some, enA, en, stE, okb, narV, rf_toNat, rf_nn, List.getElem?_cons_zero, List.getElem?_cons_succ, w32_id, w64_id, ite_t, ite_f, Int.toNat_add, Int.toNat_mul, dec_t, dec_f, k0, k2, k6, l1, l2, c1, e1, c3]
    · rw [if_neg (fun z => c3 z.2)]
      simp -implicitDefEqProofs (disch := omega) [fX3_isMissed, bX3_isMissed, v_cop, v_c1, v_c2, v_c3, v_c4, v_c5, v_bin, v_bn, v_bn2, v_div, v_dv, v_dv2, v_une, v_un, v_loc, v_num, v_get, v_gt, v_ald, v_al, v_al2, v_len, v_ln, v_rl0, v_rl1, v_rl2, v_rl3, v_rl4, v_rl5, v_cmp, v_cp, v_cp2, v_zC, v_zc, v_con, v_kc, v_and, v_an1, v_an0, v_or, v_or1, v_or0, v_not, v_nt, v_boo, v_bo, v_cnd, v_cd1, v_cd0, v_cnc, v_cc1, v_cc0, v_ev0, v_ev, v_e1, v_e2, v_cve, v_cv, v_cse, v_cs, v_skip, v_seq, v_sq0, v_sq1, v_sqr, v_sts, v_st, v_inc, v_put, v_pt, v_pt2, v_fop, v_fo, v_fo2, v_ast, v_as, v_as2, v_as3, v_aop, v_ao, v_ao2, v_ao3, v_exs, v_ex, v_ifs, v_if1, v_if0, v_ret, v_rt, v_rez, v_rz, v_rev, v_brk, v_sws, v_sw, v_sw2, v_run, v_rb, v_turn, v_tu1, v_tu0, v_tu2, v_tu3, fst1, snd1, Option.map_some, Option.getD_some, enA, en, stE, okb, narV, rf_toNat, rf_nn, List.getElem?_cons_zero, List.getElem?_cons_succ, w32_id, w64_id, ite_t, ite_f, Int.toNat_add, Int.toNat_mul, dec_t, dec_f, k0, k2, k6, l1, l2, c1, e1, c3]
  · by_cases c2 : st (14 + a) - st (14 + b) = -1
    · by_cases c3 : least ≤ lk
      · rw [if_pos ⟨.inr c2, c3⟩]
        simp -implicitDefEqProofs (disch := omega) [fX3_isMissed, bX3_isMissed, v_cop, v_c1, v_c2, v_c3, v_c4, v_c5, v_bin, v_bn, v_bn2, v_div, v_dv, v_dv2, v_une, v_un, v_loc, v_num, v_get, v_gt, v_ald, v_al, v_al2, v_len, v_ln, v_rl0, v_rl1, v_rl2, v_rl3, v_rl4, v_rl5, v_cmp, v_cp, v_cp2, v_zC, v_zc, v_con, v_kc, v_and, v_an1, v_an0, v_or, v_or1, v_or0, v_not, v_nt, v_boo, v_bo, v_cnd, v_cd1, v_cd0, v_cnc, v_cc1, v_cc0, v_ev0, v_ev, v_e1, v_e2, v_cve, v_cv, v_cse, v_cs, v_skip, v_seq, v_sq0, v_sq1, v_sqr, v_sts, v_st, v_inc, v_put, v_pt, v_pt2, v_fop, v_fo, v_fo2, v_ast, v_as, v_as2, v_as3, v_aop, v_ao, v_ao2, v_ao3, v_exs, v_ex, v_ifs, v_if1, v_if0, v_ret, v_rt, v_rez, v_rz, v_rev, v_brk, v_sws, v_sw, v_sw2, v_run, v_rb, v_turn, v_tu1, v_tu0, v_tu2, v_tu3, fst1, snd1, Option.map_some, Option.getD_some, enA, en, stE, okb, narV, rf_toNat, rf_nn, List.getElem?_cons_zero, List.getElem?_cons_succ, w32_id, w64_id, ite_t, ite_f, Int.toNat_add, Int.toNat_mul, dec_t, dec_f, k0, k2, k6, l1, l2, c2, e1, c3]
      · rw [if_neg (fun z => c3 z.2)]
        simp -implicitDefEqProofs (disch := omega) [fX3_isMissed, bX3_isMissed, v_cop, v_c1, v_c2, v_c3, v_c4, v_c5, v_bin, v_bn, v_bn2, v_div, v_dv, v_dv2, v_une, v_un, v_loc, v_num, v_get, v_gt, v_ald, v_al, v_al2, v_len, v_ln, v_rl0, v_rl1, v_rl2, v_rl3, v_rl4, v_rl5, v_cmp, v_cp, v_cp2, v_zC, v_zc, v_con, v_kc, v_and, v_an1, v_an0, v_or, v_or1, v_or0, v_not, v_nt, v_boo, v_bo, v_cnd, v_cd1, v_cd0, v_cnc, v_cc1, v_cc0, v_ev0, v_ev, v_e1, v_e2, v_cve, v_cv, v_cse, v_cs, v_skip, v_seq, v_sq0, v_sq1, v_sqr, v_sts, v_st, v_inc, v_put, v_pt, v_pt2, v_fop, v_fo, v_fo2, v_ast, v_as, v_as2, v_as3, v_aop, v_ao, v_ao2, v_ao3, v_exs, v_ex, v_ifs, v_if1, v_if0, v_ret, v_rt, v_rez, v_rz, v_rev, v_brk, v_sws, v_sw, v_sw2, v_run, v_rb, v_turn, v_tu1, v_tu0, v_tu2, v_tu3, fst1, snd1, Option.map_some, Option.getD_some, enA, en, stE, okb, narV, rf_toNat, rf_nn, List.getElem?_cons_zero, List.getElem?_cons_succ, w32_id, w64_id, ite_t, ite_f, Int.toNat_add, Int.toNat_mul, dec_t, dec_f, k0, k2, k6, l1, l2, c2, e1, c3]
    · rw [if_neg (fun z => by omega)]
      have d2 : ¬ (if 0 ≤ st (14 + a) - st (14 + b) then st (14 + a) - st (14 + b) else w32 (0 - (st (14 + a) - st (14 + b)))) = 1 := by
        split
        · omega
        · rw [w32_id ⟨by omega, by omega⟩]; omega
      generalize hD : st (14 + a) - st (14 + b) = D at *
      simp -implicitDefEqProofs (disch := omega) [fX3_isMissed, bX3_isMissed, v_cop, v_c1, v_c2, v_c3, v_c4, v_c5, v_bin, v_bn, v_bn2, v_div, v_dv, v_dv2, v_une, v_un, v_loc, v_num, v_get, v_gt, v_ald, v_al, v_al2, v_len, v_ln, v_rl0, v_rl1, v_rl2, v_rl3, v_rl4, v_rl5, v_cmp, v_cp, v_cp2, v_zC, v_zc, v_con, v_kc, v_and, v_an1, v_an0, v_or, v_or1, v_or0, v_not, v_nt, v_boo, v_bo, v_cnd, v_cd1, v_cd0, v_cnc, v_cc1, v_cc0, v_ev0, v_ev, v_e1, v_e2, v_cve, v_cv, v_cse, v_cs, v_skip, v_seq, v_sq0, v_sq1, v_sqr, v_sts, v_st, v_inc, v_put, v_pt, v_pt2, v_fop, v_fo, v_fo2, v_ast, v_as, v_as2, v_as3, v_aop, v_ao, v_ao2, v_ao3, v_exs, v_ex, v_ifs, v_if1, v_if0, v_ret, v_rt, v_rez, v_rz, v_rev, v_brk, v_sws, v_sw, v_sw2, v_run, v_rb, v_turn, v_tu1, v_tu0, v_tu2, v_tu3, fst1, snd1, Option.map_some, Option.getD_some, enA, en, stE, okb, narV, rf_toNat, rf_nn, List.getElem?_cons_zero, List.getElem?_cons_succ, w32_id, w64_id, ite_t, ite_f, Int.toNat_add, Int.toNat_mul, dec_t, dec_f, k0, k2, k6, l1, l2, hD]
set_option maxRecDepth 100000 in theorem or0 {f : Nat → Bool} {j : Nat} (h : f j = false) : msk f (j + 1) = msk f j := by
  show msk f j ||| (if f j then 2 ^ j else 0) = msk f j
  rw [h]
  exact Nat.or_zero _
set_option maxRecDepth 100000 in theorem c_prep1 {μ : Mem} {h n P M : Nat} {fl st : Nat → Int} (Q : GQ μ h n P M fl st) {i : Nat} (hi : (i : Int) < st 182) (a0 : μ 112 i = 0) (b0 : μ 113 i = 0) : ∃ μ', loopS 2 3 kX3_prepare_0c kX3_prepare_0b kX3_prepare_0u shC [(2, rf 110), (2, rf h), (2, rf 30), (2, rf 40), (0, (i : Int)), (0, st (183 + 4 * i + 1)), (0, 0)] μ = some (0, 0, [(2, rf 110), (2, rf h), (2, rf 30), (2, rf 40), (0, (i : Int)), (0, st (183 + 4 * i + 1)), (0, (n : Int))], μ') ∧ μ' 112 i = ((abM fl st n i : Nat) : Int) ∧ μ' 113 i = ((neM fl st n i : Nat) : Int) ∧ ∀ x y, ¬ (x = 112 ∧ y = i) → ¬ (x = 113 ∧ y = i) → μ' x y = μ x y := by
  have B := Q.2.2.2.2.2.1
  have n1 := B.n1
  have T := Q.2.2.2.2.2.2.2.2.2.2
  have f1 := T.f1
  have kr := T.ki i hi
  obtain ⟨env', m, lp, ⟨h3, A1, A2, D⟩⟩ := loop_n (kb := 2) (kc := 3) (c := kX3_prepare_0c) (body := kX3_prepare_0b) (upd := kX3_prepare_0u) (sh := shC) (n := n) (fun j env m => env = [(2, rf 110), (2, rf h), (2, rf 30), (2, rf 40), (0, (i : Int)), (0, st (183 + 4 * i + 1)), (0, (j : Int))] ∧ m 112 i = ((msk (abB fl st i) j : Nat) : Int) ∧ m 113 i = ((msk (neB fl st i) j : Nat) : Int) ∧ ∀ x y, ¬ (x = 112 ∧ y = i) → ¬ (x = 113 ∧ y = i) → m x y = μ x y) (by
    rintro j env m hj ⟨rfl, A1, A2, D⟩
    have Qm := Q.of (μ' := m) (fun x y h1 h2 h3 _ => D x y (by omega) (by omega))
    obtain ⟨o1, o2⟩ := or_step (f := abB fl st i) (show j < 12 by omega)
    obtain ⟨q1, q2⟩ := or_step (f := neB fl st i) (show j < 12 by omega)
    have Qm' := Qm
    obtain ⟨h1, ⟨f0, -, f2, -, -, -, -, -, -, -, -, -, -, g2, -⟩, ⟨k0, k1, k2, k3, k4, k5, k6, k7, k8⟩, ⟨u0, u1, u2, u3, u4, u5, u6⟩, ⟨p5, p6, p7⟩, -, F, L, G, S, -⟩ := Qm'
    have hla := L.la j (by omega)
    have rla := S.la j (by omega)
    have hbe := F.be
    rw [B.n0] at hbe
    have hto := F.to j hj
    have hki := G.ki i hi
    have hnu := G.nu i hi
    have hj12 : j < 12 := by omega
    have hi24 : i < 24 := by omega
    by_cases c0 : st (14 + j) = -1
    · have ly : lyB st j = false := decide_eq_false (by omega)
      have e1 : abB fl st i j = false := by unfold abB; rw [ly]; rfl
      have e2 : neB fl st i j = false := by unfold neB; rw [ly]; rfl
      refine ⟨_, m, ?_, rfl, by rw [or0 e1]; exact A1, by rw [or0 e2]; exact A2, D⟩
      rw [c0] at hla
      simp -implicitDefEqProofs (disch := omega) [kX3_prepare_0c, kX3_prepare_0b, kX3_prepare_0u, v_cop, v_c1, v_c2, v_c3, v_c4, v_c5, v_bin, v_bn, v_bn2, v_div, v_dv, v_dv2, v_une, v_un, v_loc, v_num, v_get, v_gt, v_ald, v_al, v_al2, v_len, v_ln, v_rl0, v_rl1, v_rl2, v_rl3, v_rl4, v_rl5, v_cmp, v_cp, v_cp2, v_zC, v_zc, v_con, v_kc, v_and, v_an1, v_an0, v_or, v_or1, v_or0, v_not, v_nt, v_boo, v_bo, v_cnd, v_cd1, v_cd0, v_cnc, v_cc1, v_cc0, v_ev0, v_ev, v_e1, v_e2, v_cve, v_cv, v_cse, v_cs, v_skip, v_seq, v_sq0, v_sq1, v_sqr, v_sts, v_st, v_inc, v_put, v_pt, v_pt2, v_fop, v_fo, v_fo2, v_ast, v_as, v_as2, v_as3, v_aop, v_ao, v_ao2, v_ao3, v_exs, v_ex, v_ifs, v_if1, v_if0, v_ret, v_rt, v_rez, v_rz, v_rev, v_brk, v_sws, v_sw, v_sw2, v_run, v_rb, v_turn, v_tu1, v_tu0, v_tu2, v_tu3, fst1, snd1, Option.map_some, Option.getD_some, enA, en, stE, okb, narV, rf_toNat, rf_nn, List.getElem?_cons_zero, List.getElem?_cons_succ, w32_id, w64_id, ite_t, ite_f, Int.toNat_add, Int.toNat_mul, dec_t, dec_f, f0, hbe, k0, k2, k6, hla]
    · have ly : lyB st j = true := decide_eq_true (by omega)
      by_cases w3 : st (183 + 4 * i) < 3
      · have e2 : neB fl st i j = false := by unfold neB; rw [ly, decide_eq_false (show ¬ 3 ≤ st (183 + 4 * i) by omega)]; rfl
        have e1 : abB fl st i j = meB fl st i j := by unfold abB; rw [ly, if_pos w3]; rfl
        refine ⟨[(2, rf 110), (2, rf h), (2, rf 30), (2, rf 40), (0, (i : Int)), (0, st (183 + 4 * i + 1)), (0, ((j + 1 : Nat) : Int))], ud m 112 i ((msk (abB fl st i) (j + 1) : Nat) : Int), ?_, rfl, ud_s, by rw [or0 e2, ud_c (by omega)]; exact A2, fun x y h1 h2 => by rw [ud_n h1]; exact D x y h1 h2⟩
        rw [e1] at o1 o2
        generalize ((msk (abB fl st i) (j + 1) : Nat) : Int) = V at *
        generalize ((msk (abB fl st i) j : Nat) : Int) = U at *
        unfold meB at o1 o2
        by_cases w2 : st (183 + 4 * i) = 2
        · rw [if_neg (by omega)] at o1 o2
          rw [w2] at hki
          by_cases c : fl (3 + 2 * j + 1) = st (183 + 4 * i + 1)
          · have o1 := o1 (decide_eq_true c)
            simp -implicitDefEqProofs (disch := omega) [kX3_prepare_0c, kX3_prepare_0b, kX3_prepare_0u, wX3_prepare_58_sel, v_cop, v_c1, v_c2, v_c3, v_c4, v_c5, v_bin, v_bn, v_bn2, v_div, v_dv, v_dv2, v_une, v_un, v_loc, v_num, v_get, v_gt, v_ald, v_al, v_al2, v_len, v_ln, v_rl0, v_rl1, v_rl2, v_rl3, v_rl4, v_rl5, v_cmp, v_cp, v_cp2, v_zC, v_zc, v_con, v_kc, v_and, v_an1, v_an0, v_or, v_or1, v_or0, v_not, v_nt, v_boo, v_bo, v_cnd, v_cd1, v_cd0, v_cnc, v_cc1, v_cc0, v_ev0, v_ev, v_e1, v_e2, v_cve, v_cv, v_cse, v_cs, v_skip, v_seq, v_sq0, v_sq1, v_sqr, v_sts, v_st, v_inc, v_put, v_pt, v_pt2, v_fop, v_fo, v_fo2, v_ast, v_as, v_as2, v_as3, v_aop, v_ao, v_ao2, v_ao3, v_exs, v_ex, v_ifs, v_if1, v_if0, v_ret, v_rt, v_rez, v_rz, v_rev, v_brk, v_sws, v_sw, v_sw2, v_run, v_rb, v_turn, v_tu1, v_tu0, v_tu2, v_tu3, fst1, snd1, Option.map_some, Option.getD_some, enA, en, stE, okb, narV, rf_toNat, rf_nn, List.getElem?_cons_zero, List.getElem?_cons_succ, w32_id, w64_id, ite_t, ite_f, Int.toNat_add, Int.toNat_mul, dec_t, dec_f, f0, f2, g2, hbe, hto, k0, k2, k6, hla, u0, u1, u4, hki, sC_110, sC_112, p6, A1, c0, c, o1]
          · have o2 := o2 (decide_eq_false c)
            simp -implicitDefEqProofs (disch := omega) [kX3_prepare_0c, kX3_prepare_0b, kX3_prepare_0u, wX3_prepare_58_sel, v_cop, v_c1, v_c2, v_c3, v_c4, v_c5, v_bin, v_bn, v_bn2, v_div, v_dv, v_dv2, v_une, v_un, v_loc, v_num, v_get, v_gt, v_ald, v_al, v_al2, v_len, v_ln, v_rl0, v_rl1, v_rl2, v_rl3, v_rl4, v_rl5, v_cmp, v_cp, v_cp2, v_zC, v_zc, v_con, v_kc, v_and, v_an1, v_an0, v_or, v_or1, v_or0, v_not, v_nt, v_boo, v_bo, v_cnd, v_cd1, v_cd0, v_cnc, v_cc1, v_cc0, v_ev0, v_ev, v_e1, v_e2, v_cve, v_cv, v_cse, v_cs, v_skip, v_seq, v_sq0, v_sq1, v_sqr, v_sts, v_st, v_inc, v_put, v_pt, v_pt2, v_fop, v_fo, v_fo2, v_ast, v_as, v_as2, v_as3, v_aop, v_ao, v_ao2, v_ao3, v_exs, v_ex, v_ifs, v_if1, v_if0, v_ret, v_rt, v_rez, v_rz, v_rev, v_brk, v_sws, v_sw, v_sw2, v_run, v_rb, v_turn, v_tu1, v_tu0, v_tu2, v_tu3, fst1, snd1, Option.map_some, Option.getD_some, enA, en, stE, okb, narV, rf_toNat, rf_nn, List.getElem?_cons_zero, List.getElem?_cons_succ, w32_id, w64_id, ite_t, ite_f, Int.toNat_add, Int.toNat_mul, dec_t, dec_f, f0, f2, g2, hbe, hto, k0, k2, k6, hla, u0, u1, u4, hki, sC_110, sC_112, p6, A1, c0, c, o2]
        · rw [if_pos (by omega)] at o1 o2
          have w01 : st (183 + 4 * i) = 0 ∨ st (183 + 4 * i) = 1 := by omega
          by_cases c : st (14 + j) = st (183 + 4 * i + 1)
          · have o1 := o1 (decide_eq_true c)
            rcases w01 with w | w <;> rw [w] at hki <;> simp -implicitDefEqProofs (disch := omega) [kX3_prepare_0c, kX3_prepare_0b, kX3_prepare_0u, wX3_prepare_58_sel, v_cop, v_c1, v_c2, v_c3, v_c4, v_c5, v_bin, v_bn, v_bn2, v_div, v_dv, v_dv2, v_une, v_un, v_loc, v_num, v_get, v_gt, v_ald, v_al, v_al2, v_len, v_ln, v_rl0, v_rl1, v_rl2, v_rl3, v_rl4, v_rl5, v_cmp, v_cp, v_cp2, v_zC, v_zc, v_con, v_kc, v_and, v_an1, v_an0, v_or, v_or1, v_or0, v_not, v_nt, v_boo, v_bo, v_cnd, v_cd1, v_cd0, v_cnc, v_cc1, v_cc0, v_ev0, v_ev, v_e1, v_e2, v_cve, v_cv, v_cse, v_cs, v_skip, v_seq, v_sq0, v_sq1, v_sqr, v_sts, v_st, v_inc, v_put, v_pt, v_pt2, v_fop, v_fo, v_fo2, v_ast, v_as, v_as2, v_as3, v_aop, v_ao, v_ao2, v_ao3, v_exs, v_ex, v_ifs, v_if1, v_if0, v_ret, v_rt, v_rez, v_rz, v_rev, v_brk, v_sws, v_sw, v_sw2, v_run, v_rb, v_turn, v_tu1, v_tu0, v_tu2, v_tu3, fst1, snd1, Option.map_some, Option.getD_some, enA, en, stE, okb, narV, rf_toNat, rf_nn, List.getElem?_cons_zero, List.getElem?_cons_succ, w32_id, w64_id, ite_t, ite_f, Int.toNat_add, Int.toNat_mul, dec_t, dec_f, f0, hbe, k0, k2, k6, hla, u0, u1, u4, hki, sC_110, sC_112, p6, A1, o1]
          · have o2 := o2 (decide_eq_false c)
            rcases w01 with w | w <;> rw [w] at hki <;> simp -implicitDefEqProofs (disch := omega) [kX3_prepare_0c, kX3_prepare_0b, kX3_prepare_0u, wX3_prepare_58_sel, v_cop, v_c1, v_c2, v_c3, v_c4, v_c5, v_bin, v_bn, v_bn2, v_div, v_dv, v_dv2, v_une, v_un, v_loc, v_num, v_get, v_gt, v_ald, v_al, v_al2, v_len, v_ln, v_rl0, v_rl1, v_rl2, v_rl3, v_rl4, v_rl5, v_cmp, v_cp, v_cp2, v_zC, v_zc, v_con, v_kc, v_and, v_an1, v_an0, v_or, v_or1, v_or0, v_not, v_nt, v_boo, v_bo, v_cnd, v_cd1, v_cd0, v_cnc, v_cc1, v_cc0, v_ev0, v_ev, v_e1, v_e2, v_cve, v_cv, v_cse, v_cs, v_skip, v_seq, v_sq0, v_sq1, v_sqr, v_sts, v_st, v_inc, v_put, v_pt, v_pt2, v_fop, v_fo, v_fo2, v_ast, v_as, v_as2, v_as3, v_aop, v_ao, v_ao2, v_ao3, v_exs, v_ex, v_ifs, v_if1, v_if0, v_ret, v_rt, v_rez, v_rz, v_rev, v_brk, v_sws, v_sw, v_sw2, v_run, v_rb, v_turn, v_tu1, v_tu0, v_tu2, v_tu3, fst1, snd1, Option.map_some, Option.getD_some, enA, en, stE, okb, narV, rf_toNat, rf_nn, List.getElem?_cons_zero, List.getElem?_cons_succ, w32_id, w64_id, ite_t, ite_f, Int.toNat_add, Int.toNat_mul, dec_t, dec_f, f0, hbe, k0, k2, k6, hla, u0, u1, u4, hki, sC_110, sC_112, p6, A1, c0, c, o2]
      · obtain ⟨b, hb, w1, w2⟩ := T.un i hi (by omega)
        have tb : (st (183 + 4 * i + 1)).toNat = b := by rw [w1, Int.toNat_natCast]
        have sel : wX3_prepare_58_sel (st (183 + 4 * i)) = 2 := by
          have : st (183 + 4 * i) = 3 ∨ st (183 + 4 * i) = 4 := by omega
          rcases this with w | w <;> rw [w] <;> rfl
        refine ⟨[(2, rf 110), (2, rf h), (2, rf 30), (2, rf 40), (0, (i : Int)), (0, st (183 + 4 * i + 1)), (0, ((j + 1 : Nat) : Int))], ud (ud m 112 i ((msk (abB fl st i) (j + 1) : Nat) : Int)) 113 i ((msk (neB fl st i) (j + 1) : Nat) : Int), ?_, rfl, by rw [ud_c (by omega), ud_s], ud_s, fun x y h1 h2 => by rw [ud_n h2, ud_n h1]; exact D x y h1 h2⟩
        have e1 : abB fl st i j = decide ((j : Int) = (b : Int)) := by unfold abB; rw [ly, if_neg w3, w1]; rfl
        have em : ∀ V : Int, fX3_isMissed shC [(2, rf h), (2, rf 30), (0, (b : Int)), (0, (j : Int)), (0, st (183 + 4 * i + 2))] (ud m 112 i V) = some (if neB fl st i j = true then 1 else 0, ud m 112 i V) := fun V => by
          have Qu := Qm.of (μ' := ud m 112 i V) (fun x y h1 h2 h3 _ => ud_c h2)
          rw [c_isMissed Qu hb hj]
          congr 2
          unfold neB
          rw [ly, tb, decide_eq_true (show 3 ≤ st (183 + 4 * i) by omega)]
          simp only [Bool.true_and, Bool.and_eq_true, Bool.or_eq_true, decide_eq_true_eq]
        rw [e1] at o1 o2
        have u4' : ∀ V : Int, ud m 112 i V 40 3 = rf 43 := fun V => by rw [ud_c (by omega)]; exact u6
        have u7' : ∀ V : Int, ud m 112 i V 43 i = st (183 + 4 * i + 2) := fun V => by rw [ud_c (by omega)]; exact hnu
        have p7' : ∀ V : Int, ud m 112 i V 110 7 = rf 113 := fun V => by rw [ud_c (by omega)]; exact p7
        have A2' : ∀ V : Int, ud m 112 i V 113 i = ((msk (neB fl st i) j : Nat) : Int) := fun V => by rw [ud_c (by omega)]; exact A2
        generalize ((msk (abB fl st i) (j + 1) : Nat) : Int) = V at *
        generalize ((msk (abB fl st i) j : Nat) : Int) = U at *
        generalize ((msk (neB fl st i) (j + 1) : Nat) : Int) = V2 at *
        generalize ((msk (neB fl st i) j : Nat) : Int) = U2 at *
        have s1 : ∀ E : List Vl, aopS 100 o_ior (getE 3 6 2 (locE 2 0)) (locE 0 4) (condE (cmpC 0 (locE 0 6) (locE 0 5)) (binE o_ishl (numE 1) (locE 0 6)) (numE 0)) shC ([(2, rf 110), (2, rf h), (2, rf 30), (2, rf 40), (0, (i : Int)), (0, (b : Int)), (0, (j : Int))] ++ E) m = some (0, 0, [(2, rf 110), (2, rf h), (2, rf 30), (2, rf 40), (0, (i : Int)), (0, (b : Int)), (0, (j : Int))] ++ E, ud m 112 i V) := fun E => by
          by_cases c : (j : Int) = (b : Int)
          · have o3 := o1 (decide_eq_true c)
            clear o1 o2
            have c' : j = b := by omega
            subst c'
            simp -implicitDefEqProofs (disch := omega) [v_cop, v_c1, v_c2, v_c3, v_c4, v_c5, v_bin, v_bn, v_bn2, v_div, v_dv, v_dv2, v_une, v_un, v_loc, v_num, v_get, v_gt, v_ald, v_al, v_al2, v_len, v_ln, v_rl0, v_rl1, v_rl2, v_rl3, v_rl4, v_rl5, v_cmp, v_cp, v_cp2, v_zC, v_zc, v_con, v_kc, v_and, v_an1, v_an0, v_or, v_or1, v_or0, v_not, v_nt, v_boo, v_bo, v_cnd, v_cd1, v_cd0, v_cnc, v_cc1, v_cc0, v_ev0, v_ev, v_e1, v_e2, v_cve, v_cv, v_cse, v_cs, v_skip, v_seq, v_sq0, v_sq1, v_sqr, v_sts, v_st, v_inc, v_put, v_pt, v_pt2, v_fop, v_fo, v_fo2, v_ast, v_as, v_as2, v_as3, v_aop, v_ao, v_ao2, v_ao3, v_exs, v_ex, v_ifs, v_if1, v_if0, v_ret, v_rt, v_rez, v_rz, v_rev, v_brk, v_sws, v_sw, v_sw2, v_run, v_rb, v_turn, v_tu1, v_tu0, v_tu2, v_tu3, fst1, snd1, Option.map_some, Option.getD_some, enA, en, stE, okb, narV, rf_toNat, rf_nn, List.getElem?_cons_zero, List.getElem?_cons_succ, w32_id, w64_id, ite_t, ite_f, Int.toNat_add, Int.toNat_mul, dec_t, dec_f, sC_110, sC_112, p6, A1, o3]
          · have o2 := o2 (decide_eq_false c)
            have c' : ¬ j = b := by omega
            simp -implicitDefEqProofs (disch := omega) [v_cop, v_c1, v_c2, v_c3, v_c4, v_c5, v_bin, v_bn, v_bn2, v_div, v_dv, v_dv2, v_une, v_un, v_loc, v_num, v_get, v_gt, v_ald, v_al, v_al2, v_len, v_ln, v_rl0, v_rl1, v_rl2, v_rl3, v_rl4, v_rl5, v_cmp, v_cp, v_cp2, v_zC, v_zc, v_con, v_kc, v_and, v_an1, v_an0, v_or, v_or1, v_or0, v_not, v_nt, v_boo, v_bo, v_cnd, v_cd1, v_cd0, v_cnc, v_cc1, v_cc0, v_ev0, v_ev, v_e1, v_e2, v_cve, v_cv, v_cse, v_cs, v_skip, v_seq, v_sq0, v_sq1, v_sqr, v_sts, v_st, v_inc, v_put, v_pt, v_pt2, v_fop, v_fo, v_fo2, v_ast, v_as, v_as2, v_as3, v_aop, v_ao, v_ao2, v_ao3, v_exs, v_ex, v_ifs, v_if1, v_if0, v_ret, v_rt, v_rez, v_rz, v_rev, v_brk, v_sws, v_sw, v_sw2, v_run, v_rb, v_turn, v_tu1, v_tu0, v_tu2, v_tu3, fst1, snd1, Option.map_some, Option.getD_some, enA, en, stE, okb, narV, rf_toNat, rf_nn, List.getElem?_cons_zero, List.getElem?_cons_succ, w32_id, w64_id, ite_t, ite_f, Int.toNat_add, Int.toNat_mul, dec_t, dec_f, sC_110, sC_112, p6, A1, c', o2]
        have s2 : ∀ E : List Vl, aopS 100 o_ior (getE 3 7 2 (locE 2 0)) (locE 0 4) (condE (zC 1 (csE fX3_isMissed [(2, (locE 2 1)), (2, (locE 2 2)), (0, (locE 0 5)), (0, (locE 0 6)), (0, (aldE 100 (getE 2 3 2 (locE 2 3)) (locE 0 4)))])) (binE o_ishl (numE 1) (locE 0 6)) (numE 0)) shC ([(2, rf 110), (2, rf h), (2, rf 30), (2, rf 40), (0, (i : Int)), (0, (b : Int)), (0, (j : Int))] ++ E) (ud m 112 i V) = some (0, 0, [(2, rf 110), (2, rf h), (2, rf 30), (2, rf 40), (0, (i : Int)), (0, (b : Int)), (0, (j : Int))] ++ E, ud (ud m 112 i V) 113 i V2) := fun E => by
          have em := em V
          cases hx : neB fl st i j with
          | true =>
            rw [hx] at em
            have q1 := q1 hx
            simp -implicitDefEqProofs (disch := omega) [v_cop, v_c1, v_c2, v_c3, v_c4, v_c5, v_bin, v_bn, v_bn2, v_div, v_dv, v_dv2, v_une, v_un, v_loc, v_num, v_get, v_gt, v_ald, v_al, v_al2, v_len, v_ln, v_rl0, v_rl1, v_rl2, v_rl3, v_rl4, v_rl5, v_cmp, v_cp, v_cp2, v_zC, v_zc, v_con, v_kc, v_and, v_an1, v_an0, v_or, v_or1, v_or0, v_not, v_nt, v_boo, v_bo, v_cnd, v_cd1, v_cd0, v_cnc, v_cc1, v_cc0, v_ev0, v_ev, v_e1, v_e2, v_cve, v_cv, v_cse, v_cs, v_skip, v_seq, v_sq0, v_sq1, v_sqr, v_sts, v_st, v_inc, v_put, v_pt, v_pt2, v_fop, v_fo, v_fo2, v_ast, v_as, v_as2, v_as3, v_aop, v_ao, v_ao2, v_ao3, v_exs, v_ex, v_ifs, v_if1, v_if0, v_ret, v_rt, v_rez, v_rz, v_rev, v_brk, v_sws, v_sw, v_sw2, v_run, v_rb, v_turn, v_tu1, v_tu0, v_tu2, v_tu3, fst1, snd1, Option.map_some, Option.getD_some, enA, en, stE, okb, narV, rf_toNat, rf_nn, List.getElem?_cons_zero, List.getElem?_cons_succ, w32_id, w64_id, ite_t, ite_f, Int.toNat_add, Int.toNat_mul, dec_t, dec_f, sC_110, sC_113, p7', A2', u0, u3, u4', u7', em, q1]
          | false =>
            rw [hx] at em
            have q2 := q2 hx
            simp -implicitDefEqProofs (disch := omega) [v_cop, v_c1, v_c2, v_c3, v_c4, v_c5, v_bin, v_bn, v_bn2, v_div, v_dv, v_dv2, v_une, v_un, v_loc, v_num, v_get, v_gt, v_ald, v_al, v_al2, v_len, v_ln, v_rl0, v_rl1, v_rl2, v_rl3, v_rl4, v_rl5, v_cmp, v_cp, v_cp2, v_zC, v_zc, v_con, v_kc, v_and, v_an1, v_an0, v_or, v_or1, v_or0, v_not, v_nt, v_boo, v_bo, v_cnd, v_cd1, v_cd0, v_cnc, v_cc1, v_cc0, v_ev0, v_ev, v_e1, v_e2, v_cve, v_cv, v_cse, v_cs, v_skip, v_seq, v_sq0, v_sq1, v_sqr, v_sts, v_st, v_inc, v_put, v_pt, v_pt2, v_fop, v_fo, v_fo2, v_ast, v_as, v_as2, v_as3, v_aop, v_ao, v_ao2, v_ao3, v_exs, v_ex, v_ifs, v_if1, v_if0, v_ret, v_rt, v_rez, v_rz, v_rev, v_brk, v_sws, v_sw, v_sw2, v_run, v_rb, v_turn, v_tu1, v_tu0, v_tu2, v_tu3, fst1, snd1, Option.map_some, Option.getD_some, enA, en, stE, okb, narV, rf_toNat, rf_nn, List.getElem?_cons_zero, List.getElem?_cons_succ, w32_id, w64_id, ite_t, ite_f, Int.toNat_add, Int.toNat_mul, dec_t, dec_f, sC_110, sC_113, p7', A2', u0, u3, u4', u7', em, q2]
        have s1 := s1 []
        have s2 := s2 []
        rw [List.append_nil] at s1 s2
        rw [w1]
        have f1 : ifS (cmpC 0 (aldE 100 (getE 6 3 2 (locE 2 2)) (locE 0 6)) (numE (-1))) (brkS 3) skipS shC [(2, rf 110), (2, rf h), (2, rf 30), (2, rf 40), (0, (i : Int)), (0, (b : Int)), (0, (j : Int))] m = some (0, 0, [(2, rf 110), (2, rf h), (2, rf 30), (2, rf 40), (0, (i : Int)), (0, (b : Int)), (0, (j : Int))], m) := by
          simp -implicitDefEqProofs (disch := omega) [v_cop, v_c1, v_c2, v_c3, v_c4, v_c5, v_bin, v_bn, v_bn2, v_div, v_dv, v_dv2, v_une, v_un, v_loc, v_num, v_get, v_gt, v_ald, v_al, v_al2, v_len, v_ln, v_rl0, v_rl1, v_rl2, v_rl3, v_rl4, v_rl5, v_cmp, v_cp, v_cp2, v_zC, v_zc, v_con, v_kc, v_and, v_an1, v_an0, v_or, v_or1, v_or0, v_not, v_nt, v_boo, v_bo, v_cnd, v_cd1, v_cd0, v_cnc, v_cc1, v_cc0, v_ev0, v_ev, v_e1, v_e2, v_cve, v_cv, v_cse, v_cs, v_skip, v_seq, v_sq0, v_sq1, v_sqr, v_sts, v_st, v_inc, v_put, v_pt, v_pt2, v_fop, v_fo, v_fo2, v_ast, v_as, v_as2, v_as3, v_aop, v_ao, v_ao2, v_ao3, v_exs, v_ex, v_ifs, v_if1, v_if0, v_ret, v_rt, v_rez, v_rz, v_rev, v_brk, v_sws, v_sw, v_sw2, v_run, v_rb, v_turn, v_tu1, v_tu0, v_tu2, v_tu3, fst1, snd1, Option.map_some, Option.getD_some, enA, en, stE, okb, narV, rf_toNat, rf_nn, List.getElem?_cons_zero, List.getElem?_cons_succ, w32_id, w64_id, ite_t, ite_f, Int.toNat_add, Int.toNat_mul, dec_t, dec_f, k0, k2, k6, hla, c0]
        have f2 : aldE 100 (getE 2 1 2 (locE 2 3)) (locE 0 4) shC [(2, rf 110), (2, rf h), (2, rf 30), (2, rf 40), (0, (i : Int)), (0, (b : Int)), (0, (j : Int))] m = some (st (183 + 4 * i), m) := by
          simp -implicitDefEqProofs (disch := omega) [v_cop, v_c1, v_c2, v_c3, v_c4, v_c5, v_bin, v_bn, v_bn2, v_div, v_dv, v_dv2, v_une, v_un, v_loc, v_num, v_get, v_gt, v_ald, v_al, v_al2, v_len, v_ln, v_rl0, v_rl1, v_rl2, v_rl3, v_rl4, v_rl5, v_cmp, v_cp, v_cp2, v_zC, v_zc, v_con, v_kc, v_and, v_an1, v_an0, v_or, v_or1, v_or0, v_not, v_nt, v_boo, v_bo, v_cnd, v_cd1, v_cd0, v_cnc, v_cc1, v_cc0, v_ev0, v_ev, v_e1, v_e2, v_cve, v_cv, v_cse, v_cs, v_skip, v_seq, v_sq0, v_sq1, v_sqr, v_sts, v_st, v_inc, v_put, v_pt, v_pt2, v_fop, v_fo, v_fo2, v_ast, v_as, v_as2, v_as3, v_aop, v_ao, v_ao2, v_ao3, v_exs, v_ex, v_ifs, v_if1, v_if0, v_ret, v_rt, v_rez, v_rz, v_rev, v_brk, v_sws, v_sw, v_sw2, v_run, v_rb, v_turn, v_tu1, v_tu0, v_tu2, v_tu3, fst1, snd1, Option.map_some, Option.getD_some, enA, en, stE, okb, narV, rf_toNat, rf_nn, List.getElem?_cons_zero, List.getElem?_cons_succ, w32_id, w64_id, ite_t, ite_f, Int.toNat_add, Int.toNat_mul, dec_t, dec_f, u0, u1, u4, hki]
        have body : kX3_prepare_0b shC [(2, rf 110), (2, rf h), (2, rf 30), (2, rf 40), (0, (i : Int)), (0, (b : Int)), (0, (j : Int))] m = some (0, 0, [(2, rf 110), (2, rf h), (2, rf 30), (2, rf 40), (0, (i : Int)), (0, (b : Int)), (0, (j : Int))], ud (ud m 112 i V) 113 i V2) := by
          unfold kX3_prepare_0b
          rw [v_seq, f1, v_sq0, v_sws, f2, v_sw, sel]
          show q_sw2 4 (seqS _ (seqS _ (brkS 4)) _ _ _) = _
          rw [v_seq, s1, v_sq0, v_seq, s2, v_sq0, v_brk, v_sw2, if_pos rfl]
        simp -implicitDefEqProofs (disch := omega) [kX3_prepare_0c, kX3_prepare_0u, v_cop, v_c1, v_c2, v_c3, v_c4, v_c5, v_bin, v_bn, v_bn2, v_div, v_dv, v_dv2, v_une, v_un, v_loc, v_num, v_get, v_gt, v_ald, v_al, v_al2, v_len, v_ln, v_rl0, v_rl1, v_rl2, v_rl3, v_rl4, v_rl5, v_cmp, v_cp, v_cp2, v_zC, v_zc, v_con, v_kc, v_and, v_an1, v_an0, v_or, v_or1, v_or0, v_not, v_nt, v_boo, v_bo, v_cnd, v_cd1, v_cd0, v_cnc, v_cc1, v_cc0, v_ev0, v_ev, v_e1, v_e2, v_cve, v_cv, v_cse, v_cs, v_skip, v_seq, v_sq0, v_sq1, v_sqr, v_sts, v_st, v_inc, v_put, v_pt, v_pt2, v_fop, v_fo, v_fo2, v_ast, v_as, v_as2, v_as3, v_aop, v_ao, v_ao2, v_ao3, v_exs, v_ex, v_ifs, v_if1, v_if0, v_ret, v_rt, v_rez, v_rz, v_rev, v_brk, v_sws, v_sw, v_sw2, v_run, v_rb, v_turn, v_tu1, v_tu0, v_tu2, v_tu3, fst1, snd1, Option.map_some, Option.getD_some, enA, en, stE, okb, narV, rf_toNat, rf_nn, List.getElem?_cons_zero, List.getElem?_cons_succ, w32_id, w64_id, ite_t, ite_f, Int.toNat_add, Int.toNat_mul, dec_t, dec_f, f0, hbe, body]) (by
    rintro env m ⟨rfl, A1, A2, D⟩
    have Qm := Q.of (μ' := m) (fun x y h1 h2 h3 _ => D x y (by omega) (by omega))
    obtain ⟨h1, ⟨f0, -⟩, -, -, -, -, F, -⟩ := Qm
    have hbe := F.be
    rw [B.n0] at hbe
    simp -implicitDefEqProofs (disch := omega) [kX3_prepare_0c, v_cop, v_c1, v_c2, v_c3, v_c4, v_c5, v_bin, v_bn, v_bn2, v_div, v_dv, v_dv2, v_une, v_un, v_loc, v_num, v_get, v_gt, v_ald, v_al, v_al2, v_len, v_ln, v_rl0, v_rl1, v_rl2, v_rl3, v_rl4, v_rl5, v_cmp, v_cp, v_cp2, v_zC, v_zc, v_con, v_kc, v_and, v_an1, v_an0, v_or, v_or1, v_or0, v_not, v_nt, v_boo, v_bo, v_cnd, v_cd1, v_cd0, v_cnc, v_cc1, v_cc0, v_ev0, v_ev, v_e1, v_e2, v_cve, v_cv, v_cse, v_cs, v_skip, v_seq, v_sq0, v_sq1, v_sqr, v_sts, v_st, v_inc, v_put, v_pt, v_pt2, v_fop, v_fo, v_fo2, v_ast, v_as, v_as2, v_as3, v_aop, v_ao, v_ao2, v_ao3, v_exs, v_ex, v_ifs, v_if1, v_if0, v_ret, v_rt, v_rez, v_rz, v_rev, v_brk, v_sws, v_sw, v_sw2, v_run, v_rb, v_turn, v_tu1, v_tu0, v_tu2, v_tu3, fst1, snd1, Option.map_some, Option.getD_some, enA, en, stE, okb, narV, rf_toNat, rf_nn, List.getElem?_cons_zero, List.getElem?_cons_succ, w32_id, w64_id, ite_t, ite_f, Int.toNat_add, Int.toNat_mul, dec_t, dec_f, f0, hbe]) (env := [(2, rf 110), (2, rf h), (2, rf 30), (2, rf 40), (0, (i : Int)), (0, st (183 + 4 * i + 1)), (0, 0)]) (μ := μ) ⟨rfl, a0, b0, fun _ _ _ _ => rfl⟩
  subst h3
  exact ⟨m, lp, A1, A2, D⟩
