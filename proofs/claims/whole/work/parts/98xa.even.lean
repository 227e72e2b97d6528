/-! evening -/
def RW (μC μM : Mem) (h d n P M : Nat) : Prop := ∃ f : Int, R0 (ud μC 40 0 f) μM h d n P M
set_option maxRecDepth 100000 in theorem PC.un {μ : Mem} {f : Int} (h : PC (ud μ 40 0 f)) : PC μ := by
  have t : ∀ p ∈ ptC, ¬ (p.1 = 40 ∧ p.2.1 = 0) := by decide
  exact h.of (fun p hp => (ud_n (t p hp)).symm)
set_option maxRecDepth 100000 in theorem kpC_ud {μ : Mem} {w' : Nat} {u' f : Int} : kpC (ud μ 40 0 f) w' u' = ud (kpC μ w' u') 40 0 f := by
  funext x y
  by_cases c : x = 40 ∧ y = 0
  · obtain ⟨rfl, rfl⟩ := c
    rw [ud_s]
    unfold kpC
    rw [ud_c (by omega), cpL_c (by omega), ud_c (by omega), ud_s]
  · rw [ud_n c]
    unfold kpC
    by_cases c1 : x = 44 ∧ y = 1
    · obtain ⟨rfl, rfl⟩ := c1
      rw [ud_s, ud_s]
    · rw [ud_n c1, ud_n c1]
      have e : ∀ a b, ¬ (a = 40 ∧ b = 0) → ud (ud μ 40 0 f) 44 2 (w' : Int) a b = ud μ 44 2 (w' : Int) a b := fun a b hab => by
        by_cases c2 : a = 44 ∧ b = 2
        · obtain ⟨rfl, rfl⟩ := c2
          rw [ud_s, ud_s]
        · rw [ud_n c2, ud_n c2, ud_n hab]
      unfold cpL
      by_cases a1 : x = 46 + 5 * w' ∧ y < 2
      · rw [if_pos a1, if_pos a1, e _ _ (by omega)]
      · rw [if_neg a1, if_neg a1]
        by_cases a2 : (x = 46 + 5 * w' + 1 ∨ x = 46 + 5 * w' + 2 ∨ x = 46 + 5 * w' + 3) ∧ y < 12
        · rw [if_pos a2, if_pos a2, e _ _ (by omega)]
        · rw [if_neg a2, if_neg a2]
          by_cases a3 : x = 46 + 5 * w' + 4 ∧ y < 144
          · rw [if_pos a3, if_pos a3, e _ _ (by omega)]
          · rw [if_neg a3, if_neg a3, e _ _ c]
set_option maxRecDepth 100000 in theorem RW.keep {μC μM : Mem} {h d n P M : Nat} (R : RW μC μM h d n P M) : ∃ μC' μM', fX7_keep shC [(2, rf 44), (2, rf 30)] μC = some (0, μC') ∧ fX12_keeps shM [(2, rf 0)] μM = some (0, μM') ∧ RW μC' μM' h d n P M := by
  obtain ⟨f, R⟩ := R
  obtain ⟨μC'', μM', e1, e2, R', -⟩ := R.keep
  obtain ⟨u, hu⟩ := Int.eq_ofNat_of_zero_le R.pr.u0
  obtain ⟨w, hw⟩ := Int.eq_ofNat_of_zero_le R.pr.w0
  have u1 := R.pr.u1
  have w1 := R.pr.w1
  have ma := R.pr.ma
  rw [hu] at u1 ma
  rw [hw] at w1
  have c1 := c_keep R.pc ma (by omega) hw (by omega)
  rw [ud_n (by omega)] at ma hw
  have c2 := c_keep R.pc.un ma (by omega) hw (by omega)
  rw [c1] at e1
  have e3 := (Prod.mk.inj (Option.some.inj e1)).2
  rw [kpC_ud] at e3
  exact ⟨_, μM', c2, e2, f, by rw [e3]; exact R'⟩
set_option maxRecDepth 100000 in theorem LQ_of {μC μM : Mem} {h N : Nat} (L : LWN μC (h + 6) lieW (-19) (μM 7) (μM 8) (μM 6 183) N) : LQ μM N := by
  rcases L with ⟨h1, -⟩ | ⟨t, h1, h2, -⟩
  · exact .inl h1
  · exact .inr ⟨t, h1, h2⟩
set_option maxRecDepth 100000 in theorem RW.dusk {μC μM : Mem} {h d n P M : Nat} (R : RW μC μM h d n P M) : ∃ v μC' μM', fX0_fall shC [(2, rf 106), (2, rf h), (2, rf 30)] μC = some (v, μC') ∧ fX12_goesOn shM [(2, rf 0)] μM = some (0, μM') ∧ RW μC' μM' h d n P M ∧ μM' 15 182 = 0 := by
  obtain ⟨f, R⟩ := R
  have hh := R.hd.1
  have hn := R.fb.n1
  obtain ⟨N, L⟩ := R.lw.ex
  have hd0 : HD μC h d := ⟨R.hd.1, by have := R.hd.2.1; rw [ud_n (by omega)] at this; exact this, by have := R.hd.2.2; rw [ud_n (by omega)] at this; exact this⟩
  have F0 : FR μC h (μM 6) n M := R.fr.of (fun a b h1 h2 => (ud_n (by omega)).symm)
  have l0 : LR μC 30 (μM 15) := R.lr.of (fun a b h1 h2 => (ud_n (by omega)).symm) (fun _ _ => rfl)
  have L0 : LWN μC (h + 6) lieW (-19) (μM 7) (μM 8) (μM 6 183) N := L.of (fun a b hab => (ud_n (by omega)).symm)
  obtain ⟨μC', e1, lr', D1⟩ := c_fall (.inl rfl) R.pc.un hd0 R.fb F0 l0 R.sl L0
  obtain ⟨μM', e2, es, f0, D2⟩ := r_goesOn R.pm R.fb R.sl (LQ_of L0)
  have D1' : ∀ x y, x ≠ 107 → x ≠ 108 → x ≠ 109 → x ≠ h + 8 → ¬ (x = 30 ∧ y = 1) → ¬ (31 ≤ x ∧ x ≤ 34) → ¬ (x = 40 ∧ y = 0) → ud μC' 40 0 0 x y = ud μC 40 0 f x y := fun x y h1 h2 h3 h4 h5 h6 h7 => by rw [ud_n h7, ud_n h7]; exact D1 x y h1 h2 h3 h4 h5 h6
  refine ⟨_, μC', μM', e1, e2, ⟨0, ?_⟩, f0⟩
  refine R.upd (R.pc.keep (S := fun a b => a = 107 ∨ a = 108 ∨ a = 109 ∨ a = 11 ∨ a = 23 ∨ (a = 30 ∧ b = 1) ∨ (31 ≤ a ∧ a ≤ 34) ∨ (a = 40 ∧ b = 0)) (fun a b hs => D1' a b (by omega) (by omega) (by omega) (by omega) (by omega) (by omega) (by omega)) (by decide)) (fun a b hab => D1' a b (by omega) (by omega) (by omega) (by omega) (by omega) (by omega) (by omega)) (R.pm.keep (S := fun a b => a = 13 ∨ a = 14 ∨ a = 15) (fun a b hs => D2 a b (by omega) (by omega) (by omega)) (by decide)) (by rw [D2 _ _ (by omega) (by omega) (by omega)]; exact R.th) (fun a b hab => D2 a b (by omega) (by omega) (by omega)) (lr'.of (fun a b h1 h2 => ud_n (by omega)) es) ⟨by rw [ud_s, f0], fun i hi => by rw [f0] at hi; omega, fun i hi => by rw [f0] at hi; omega, fun i hi => by rw [f0] at hi; omega⟩ ((du_SL R.sl R.fb.P2).of es) ⟨by rw [f0]; decide, by rw [f0]; decide, fun i hi => by rw [f0] at hi; omega, fun i hi => by rw [f0] at hi; omega, fun i hi => by rw [f0] at hi; omega, fun i hi => by rw [f0] at hi; omega⟩ (R.pr.of (fun a b h1 h2 => D1' a b (by omega) (by omega) (by omega) (by omega) (by omega) (by omega) (by omega)) (D2 _ _ (by omega) (by omega) (by omega)) (fun i h1 h2 => D2 _ _ (by omega) (by omega) (by omega))) (R.mr.of hn (D1' _ _ (by omega) (by omega) (by omega) (by omega) (by omega) (by omega) (by omega)) (fun a b h1 h2 => D1' a b (by omega) (by omega) (by omega) (by omega) (by omega) (by omega) (by omega)) (fun m hm => D2 _ _ (by omega) (by omega) (by omega)) (fun i h1 h2 => D2 _ _ (by omega) (by omega) (by omega)))
set_option maxRecDepth 100000 in theorem st_evening (k : Int) : STP RR fX11_evening fX12_evening [(0, k)] := by
  rintro μC μM ⟨h, d, n, P, M, R⟩
  have th := ud_same R.th
  by_cases hk : 1 ≤ k ∧ k ≤ 50
  · obtain ⟨q, rfl⟩ := Int.eq_ofNat_of_zero_le (show 0 ≤ k by omega)
    try simp only [Int.ofNat_eq_natCast] at *
    have R' : RW μC μM h d n P M := ⟨μC 40 0, by rw [ud_same rfl]; exact R⟩
    have key : ∀ j : Nat, j ≤ q → ∃ mC mM, loopS 2 3 kX11_evening_0c kX11_evening_0b kX11_evening_0u shC [(2, rf 0), (0, (q : Int)), (0, 0)] μC = loopS 2 3 kX11_evening_0c kX11_evening_0b kX11_evening_0u shC [(2, rf 0), (0, (q : Int)), (0, (j : Int))] mC ∧ loopS 2 3 kX12_evening_0c kX12_evening_0b kX12_evening_0u shM [(2, rf 0), (0, (q : Int)), (0, 0)] μM = loopS 2 3 kX12_evening_0c kX12_evening_0b kX12_evening_0u shM [(2, rf 0), (0, (q : Int)), (0, (j : Int))] mM ∧ RW mC mM h d n P M ∧ (0 < j → mM 15 182 = 0) := by
      intro j
      induction j with
      | zero => intro _; exact ⟨μC, μM, rfl, rfl, R', fun z => by omega⟩
      | succ j ih =>
        intro hj
        obtain ⟨mC, mM, i1, i2, r1, -⟩ := ih (by omega)
        obtain ⟨mC1, mM1, k1, k2, r2⟩ := r1.keep
        obtain ⟨v, mC2, mM2, d1, d2, r3, z⟩ := r2.dusk
        obtain ⟨f1, r1⟩ := r1
        obtain ⟨f2, r2⟩ := r2
        have p1 := r1.pc.un
        have p2 := r2.pc.un
        have g2 : mC1 0 1 = rf h := by have := r2.hd.2.1; rw [ud_n (by omega)] at this; exact this
        refine ⟨mC2, mM2, ?_, ?_, r3, fun _ => z⟩
        · rw [i1]
          refine turn_go ?_
          simp -implicitDefEqProofs (disch := omega) [kX11_evening_0c, kX11_evening_0b, kX11_evening_0u, v_cop, v_c1, v_c2, v_c3, v_c4, v_c5, v_bin, v_bn, v_bn2, v_div, v_dv, v_dv2, v_une, v_un, v_loc, v_num, v_get, v_gt, v_ald, v_al, v_al2, v_len, v_ln, v_rl0, v_rl1, v_rl2, v_rl3, v_rl4, v_rl5, v_cmp, v_cp, v_cp2, v_zC, v_zc, v_con, v_kc, v_and, v_an1, v_an0, v_or, v_or1, v_or0, v_not, v_nt, v_boo, v_bo, v_cnd, v_cd1, v_cd0, v_cnc, v_cc1, v_cc0, v_ev0, v_ev, v_e1, v_e2, v_cve, v_cv, v_cse, v_cs, v_skip, v_seq, v_sq0, v_sq1, v_sqr, v_sts, v_st, v_inc, v_put, v_pt, v_pt2, v_fop, v_fo, v_fo2, v_ast, v_as, v_as2, v_as3, v_aop, v_ao, v_ao2, v_ao3, v_exs, v_ex, v_ifs, v_if1, v_if0, v_ret, v_rt, v_rez, v_rz, v_rev, v_brk, v_sws, v_sw, v_sw2, v_run, v_rb, v_turn, v_tu1, v_tu0, v_tu2, v_tu3, fst1, snd1, Option.map_some, Option.getD_some, enA, en, stE, okb, narV, rf_toNat, rf_nn, List.getElem?_cons_zero, List.getElem?_cons_succ, w32_id, w64_id, ite_t, ite_f, Int.toNat_add, Int.toNat_mul, dec_t, dec_f, sC_0, sC_44, sC_30, sC_106, p1.p0_7, p1.p0_4, p2.p0_8, p2.p0_4, g2, k1, d1]
        · rw [i2]
          refine turn_go ?_
          simp -implicitDefEqProofs (disch := omega) [kX12_evening_0c, kX12_evening_0b, kX12_evening_0u, v_cop, v_c1, v_c2, v_c3, v_c4, v_c5, v_bin, v_bn, v_bn2, v_div, v_dv, v_dv2, v_une, v_un, v_loc, v_num, v_get, v_gt, v_ald, v_al, v_al2, v_len, v_ln, v_rl0, v_rl1, v_rl2, v_rl3, v_rl4, v_rl5, v_cmp, v_cp, v_cp2, v_zC, v_zc, v_con, v_kc, v_and, v_an1, v_an0, v_or, v_or1, v_or0, v_not, v_nt, v_boo, v_bo, v_cnd, v_cd1, v_cd0, v_cnc, v_cc1, v_cc0, v_ev0, v_ev, v_e1, v_e2, v_cve, v_cv, v_cse, v_cs, v_skip, v_seq, v_sq0, v_sq1, v_sqr, v_sts, v_st, v_inc, v_put, v_pt, v_pt2, v_fop, v_fo, v_fo2, v_ast, v_as, v_as2, v_as3, v_aop, v_ao, v_ao2, v_ao3, v_exs, v_ex, v_ifs, v_if1, v_if0, v_ret, v_rt, v_rez, v_rz, v_rev, v_brk, v_sws, v_sw, v_sw2, v_run, v_rb, v_turn, v_tu1, v_tu0, v_tu2, v_tu3, fst1, snd1, Option.map_some, Option.getD_some, enA, en, stE, okb, narV, rf_toNat, rf_nn, List.getElem?_cons_zero, List.getElem?_cons_succ, w32_id, w64_id, ite_t, ite_f, Int.toNat_add, Int.toNat_mul, dec_t, dec_f, sM_0, k2, d2]
    obtain ⟨mC, mM, i1, i2, ⟨f, r⟩, z⟩ := key q (Nat.le_refl q)
    have z := z (by omega)
    have t1 : turnS 2 3 kX11_evening_0c kX11_evening_0b kX11_evening_0u shC [(2, rf 0), (0, (q : Int)), (0, (q : Int))] mC = some (.inr (0, 0, [(2, rf 0), (0, (q : Int)), (0, (q : Int))], mC)) := by
      simp -implicitDefEqProofs (disch := omega) [kX11_evening_0c, v_cop, v_c1, v_c2, v_c3, v_c4, v_c5, v_bin, v_bn, v_bn2, v_div, v_dv, v_dv2, v_une, v_un, v_loc, v_num, v_get, v_gt, v_ald, v_al, v_al2, v_len, v_ln, v_rl0, v_rl1, v_rl2, v_rl3, v_rl4, v_rl5, v_cmp, v_cp, v_cp2, v_zC, v_zc, v_con, v_kc, v_and, v_an1, v_an0, v_or, v_or1, v_or0, v_not, v_nt, v_boo, v_bo, v_cnd, v_cd1, v_cd0, v_cnc, v_cc1, v_cc0, v_ev0, v_ev, v_e1, v_e2, v_cve, v_cv, v_cse, v_cs, v_skip, v_seq, v_sq0, v_sq1, v_sqr, v_sts, v_st, v_inc, v_put, v_pt, v_pt2, v_fop, v_fo, v_fo2, v_ast, v_as, v_as2, v_as3, v_aop, v_ao, v_ao2, v_ao3, v_exs, v_ex, v_ifs, v_if1, v_if0, v_ret, v_rt, v_rez, v_rz, v_rev, v_brk, v_sws, v_sw, v_sw2, v_run, v_rb, v_turn, v_tu1, v_tu0, v_tu2, v_tu3, fst1, snd1, Option.map_some, Option.getD_some, enA, en, stE, okb, narV, rf_toNat, rf_nn, List.getElem?_cons_zero, List.getElem?_cons_succ, w32_id, w64_id, ite_t, ite_f, Int.toNat_add, Int.toNat_mul, dec_t, dec_f]
    have t2 : turnS 2 3 kX12_evening_0c kX12_evening_0b kX12_evening_0u shM [(2, rf 0), (0, (q : Int)), (0, (q : Int))] mM = some (.inr (0, 0, [(2, rf 0), (0, (q : Int)), (0, (q : Int))], mM)) := by
      simp -implicitDefEqProofs (disch := omega) [kX12_evening_0c, v_cop, v_c1, v_c2, v_c3, v_c4, v_c5, v_bin, v_bn, v_bn2, v_div, v_dv, v_dv2, v_une, v_un, v_loc, v_num, v_get, v_gt, v_ald, v_al, v_al2, v_len, v_ln, v_rl0, v_rl1, v_rl2, v_rl3, v_rl4, v_rl5, v_cmp, v_cp, v_cp2, v_zC, v_zc, v_con, v_kc, v_and, v_an1, v_an0, v_or, v_or1, v_or0, v_not, v_nt, v_boo, v_bo, v_cnd, v_cd1, v_cd0, v_cnc, v_cc1, v_cc0, v_ev0, v_ev, v_e1, v_e2, v_cve, v_cv, v_cse, v_cs, v_skip, v_seq, v_sq0, v_sq1, v_sqr, v_sts, v_st, v_inc, v_put, v_pt, v_pt2, v_fop, v_fo, v_fo2, v_ast, v_as, v_as2, v_as3, v_aop, v_ao, v_ao2, v_ao3, v_exs, v_ex, v_ifs, v_if1, v_if0, v_ret, v_rt, v_rez, v_rz, v_rev, v_brk, v_sws, v_sw, v_sw2, v_run, v_rb, v_turn, v_tu1, v_tu0, v_tu2, v_tu3, fst1, snd1, Option.map_some, Option.getD_some, enA, en, stE, okb, narV, rf_toNat, rf_nn, List.getElem?_cons_zero, List.getElem?_cons_succ, w32_id, w64_id, ite_t, ite_f, Int.toNat_add, Int.toNat_mul, dec_t, dec_f]
    rw [turn_end t1] at i1
    rw [turn_end t2] at i2
    have f0 : f = 0 := by
      have := r.gr.ma
      rw [ud_s, z] at this
      exact this
    subst f0
    have p1 := r.pc
    have ev : ud mC 40 0 0 30 1 = mM 15 1 := r.lr.ev
    have ew := r_within shM μM (q : Int) 1 50
    rw [if_pos hk] at ew
    refine ⟨mM 15 1, ud mC 40 0 0, mM, ?_, ?_, h, d, n, P, M, r⟩
    · have p2 := p1.un
      simp -implicitDefEqProofs (disch := omega) [fX11_evening, bX11_evening, kX11_evening_0, v_cop, v_c1, v_c2, v_c3, v_c4, v_c5, v_bin, v_bn, v_bn2, v_div, v_dv, v_dv2, v_une, v_un, v_loc, v_num, v_get, v_gt, v_ald, v_al, v_al2, v_len, v_ln, v_rl0, v_rl1, v_rl2, v_rl3, v_rl4, v_rl5, v_cmp, v_cp, v_cp2, v_zC, v_zc, v_con, v_kc, v_and, v_an1, v_an0, v_or, v_or1, v_or0, v_not, v_nt, v_boo, v_bo, v_cnd, v_cd1, v_cd0, v_cnc, v_cc1, v_cc0, v_ev0, v_ev, v_e1, v_e2, v_cve, v_cv, v_cse, v_cs, v_skip, v_seq, v_sq0, v_sq1, v_sqr, v_sts, v_st, v_inc, v_put, v_pt, v_pt2, v_fop, v_fo, v_fo2, v_ast, v_as, v_as2, v_as3, v_aop, v_ao, v_ao2, v_ao3, v_exs, v_ex, v_ifs, v_if1, v_if0, v_ret, v_rt, v_rez, v_rz, v_rev, v_brk, v_sws, v_sw, v_sw2, v_run, v_rb, v_turn, v_tu1, v_tu0, v_tu2, v_tu3, fst1, snd1, Option.map_some, Option.getD_some, enA, en, stE, okb, narV, rf_toNat, rf_nn, List.getElem?_cons_zero, List.getElem?_cons_succ, w32_id, w64_id, ite_t, ite_f, Int.toNat_add, Int.toNat_mul, dec_t, dec_f, i1, sC_0, sC_30, sC_40, p2.p0_6, p1.p0_4, ev]
    · simp -implicitDefEqProofs (disch := omega) [fX12_evening, bX12_evening, kX12_evening_0, v_cop, v_c1, v_c2, v_c3, v_c4, v_c5, v_bin, v_bn, v_bn2, v_div, v_dv, v_dv2, v_une, v_un, v_loc, v_num, v_get, v_gt, v_ald, v_al, v_al2, v_len, v_ln, v_rl0, v_rl1, v_rl2, v_rl3, v_rl4, v_rl5, v_cmp, v_cp, v_cp2, v_zC, v_zc, v_con, v_kc, v_and, v_an1, v_an0, v_or, v_or1, v_or0, v_not, v_nt, v_boo, v_bo, v_cnd, v_cd1, v_cd0, v_cnc, v_cc1, v_cc0, v_ev0, v_ev, v_e1, v_e2, v_cve, v_cv, v_cse, v_cs, v_skip, v_seq, v_sq0, v_sq1, v_sqr, v_sts, v_st, v_inc, v_put, v_pt, v_pt2, v_fop, v_fo, v_fo2, v_ast, v_as, v_as2, v_as3, v_aop, v_ao, v_ao2, v_ao3, v_exs, v_ex, v_ifs, v_if1, v_if0, v_ret, v_rt, v_rez, v_rz, v_rev, v_brk, v_sws, v_sw, v_sw2, v_run, v_rb, v_turn, v_tu1, v_tu0, v_tu2, v_tu3, fst1, snd1, Option.map_some, Option.getD_some, enA, en, stE, okb, narV, rf_toNat, rf_nn, List.getElem?_cons_zero, List.getElem?_cons_succ, w32_id, w64_id, ite_t, ite_f, Int.toNat_add, Int.toNat_mul, dec_t, dec_f, th, ew, i2, sM_0, sM_15, r.pm.p23]
  · refine ⟨-1, μC, μM, ?_, ?_, h, d, n, P, M, R⟩
    · by_cases c : k < 1
      · simp -implicitDefEqProofs (disch := omega) [fX11_evening, bX11_evening, v_cop, v_c1, v_c2, v_c3, v_c4, v_c5, v_bin, v_bn, v_bn2, v_div, v_dv, v_dv2, v_une, v_un, v_loc, v_num, v_get, v_gt, v_ald, v_al, v_al2, v_len, v_ln, v_rl0, v_rl1, v_rl2, v_rl3, v_rl4, v_rl5, v_cmp, v_cp, v_cp2, v_zC, v_zc, v_con, v_kc, v_and, v_an1, v_an0, v_or, v_or1, v_or0, v_not, v_nt, v_boo, v_bo, v_cnd, v_cd1, v_cd0, v_cnc, v_cc1, v_cc0, v_ev0, v_ev, v_e1, v_e2, v_cve, v_cv, v_cse, v_cs, v_skip, v_seq, v_sq0, v_sq1, v_sqr, v_sts, v_st, v_inc, v_put, v_pt, v_pt2, v_fop, v_fo, v_fo2, v_ast, v_as, v_as2, v_as3, v_aop, v_ao, v_ao2, v_ao3, v_exs, v_ex, v_ifs, v_if1, v_if0, v_ret, v_rt, v_rez, v_rz, v_rev, v_brk, v_sws, v_sw, v_sw2, v_run, v_rb, v_turn, v_tu1, v_tu0, v_tu2, v_tu3, fst1, snd1, Option.map_some, Option.getD_some, enA, en, stE, okb, narV, rf_toNat, rf_nn, List.getElem?_cons_zero, List.getElem?_cons_succ, w32_id, w64_id, ite_t, ite_f, Int.toNat_add, Int.toNat_mul, dec_t, dec_f]
      · have c2 : 50 < k := by omega
        simp -implicitDefEqProofs (disch := omega) [fX11_evening, bX11_evening, v_cop, v_c1, v_c2, v_c3, v_c4, v_c5, v_bin, v_bn, v_bn2, v_div, v_dv, v_dv2, v_une, v_un, v_loc, v_num, v_get, v_gt, v_ald, v_al, v_al2, v_len, v_ln, v_rl0, v_rl1, v_rl2, v_rl3, v_rl4, v_rl5, v_cmp, v_cp, v_cp2, v_zC, v_zc, v_con, v_kc, v_and, v_an1, v_an0, v_or, v_or1, v_or0, v_not, v_nt, v_boo, v_bo, v_cnd, v_cd1, v_cd0, v_cnc, v_cc1, v_cc0, v_ev0, v_ev, v_e1, v_e2, v_cve, v_cv, v_cse, v_cs, v_skip, v_seq, v_sq0, v_sq1, v_sqr, v_sts, v_st, v_inc, v_put, v_pt, v_pt2, v_fop, v_fo, v_fo2, v_ast, v_as, v_as2, v_as3, v_aop, v_ao, v_ao2, v_ao3, v_exs, v_ex, v_ifs, v_if1, v_if0, v_ret, v_rt, v_rez, v_rz, v_rev, v_brk, v_sws, v_sw, v_sw2, v_run, v_rb, v_turn, v_tu1, v_tu0, v_tu2, v_tu3, fst1, snd1, Option.map_some, Option.getD_some, enA, en, stE, okb, narV, rf_toNat, rf_nn, List.getElem?_cons_zero, List.getElem?_cons_succ, w32_id, w64_id, ite_t, ite_f, Int.toNat_add, Int.toNat_mul, dec_t, dec_f]
    · have ew := r_within shM μM k 1 50
      rw [if_neg hk] at ew
      simp -implicitDefEqProofs (disch := omega) [fX12_evening, bX12_evening, v_cop, v_c1, v_c2, v_c3, v_c4, v_c5, v_bin, v_bn, v_bn2, v_div, v_dv, v_dv2, v_une, v_un, v_loc, v_num, v_get, v_gt, v_ald, v_al, v_al2, v_len, v_ln, v_rl0, v_rl1, v_rl2, v_rl3, v_rl4, v_rl5, v_cmp, v_cp, v_cp2, v_zC, v_zc, v_con, v_kc, v_and, v_an1, v_an0, v_or, v_or1, v_or0, v_not, v_nt, v_boo, v_bo, v_cnd, v_cd1, v_cd0, v_cnc, v_cc1, v_cc0, v_ev0, v_ev, v_e1, v_e2, v_cve, v_cv, v_cse, v_cs, v_skip, v_seq, v_sq0, v_sq1, v_sqr, v_sts, v_st, v_inc, v_put, v_pt, v_pt2, v_fop, v_fo, v_fo2, v_ast, v_as, v_as2, v_as3, v_aop, v_ao, v_ao2, v_ao3, v_exs, v_ex, v_ifs, v_if1, v_if0, v_ret, v_rt, v_rez, v_rz, v_rev, v_brk, v_sws, v_sw, v_sw2, v_run, v_rb, v_turn, v_tu1, v_tu0, v_tu2, v_tu3, fst1, snd1, Option.map_some, Option.getD_some, enA, en, stE, okb, narV, rf_toNat, rf_nn, List.getElem?_cons_zero, List.getElem?_cons_succ, w32_id, w64_id, ite_t, ite_f, Int.toNat_add, Int.toNat_mul, dec_t, dec_f, sM_0, th, ew]
