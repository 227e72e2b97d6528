/-! keeping, undoing, marks -/
def shP (μ : Mem) (j : Nat) : Mem := fun a b => if a = 15 ∧ 1450 ≤ b ∧ b < 1450 + 290 * j then μ 15 (b + 290) else μ a b
set_option maxRecDepth 100000 in theorem shP_0 {μ : Mem} : shP μ 0 = μ := by
  funext a b
  unfold shP
  rw [if_neg (by omega)]
set_option maxRecDepth 100000 in theorem shP_c {μ : Mem} {j a b : Nat} (h : a ≠ 15) : shP μ j a b = μ a b := by
  unfold shP
  rw [if_neg (by omega)]
set_option maxRecDepth 100000 in theorem shP_s {μ : Mem} {j : Nat} : cpS (shP μ j) (6 + j) (5 + j) 290 = shP μ (j + 1) := by
  funext a b
  by_cases c1 : a = 15
  · subst c1
    by_cases c2 : 290 * (5 + j) ≤ b ∧ b < 290 * (5 + j) + 290
    · unfold cpS
      rw [if_pos ⟨rfl, c2⟩]
      unfold shP
      rw [if_neg (by omega), if_pos ⟨rfl, by omega, by omega⟩]
      congr 1
      omega
    · unfold cpS
      rw [if_neg (fun z => c2 z.2)]
      unfold shP
      by_cases c3 : 1450 ≤ b ∧ b < 1450 + 290 * j
      · rw [if_pos ⟨rfl, c3⟩, if_pos ⟨rfl, by omega, by omega⟩]
      · rw [if_neg (fun z => c3 z.2), if_neg (fun z => c3 (by omega))]
  · rw [cpS_c c1, shP_c c1, shP_c c1]
def KP (μ μ' : Mem) (u u' : Nat) : Prop := (∀ a b, a ≠ 15 → ¬ (a = 0 ∧ b = 24) → μ' a b = μ a b) ∧ (∀ b, b < 1450 ∨ 4930 ≤ b → μ' 15 b = μ 15 b) ∧ μ' 0 24 = (u' : Int) ∧ (∀ i, i < 290 → μ' 15 (290 * (5 + (u' - 1)) + i) = μ 15 i) ∧ ∀ j i, j + 1 < u' → i < 290 → μ' 15 (290 * (5 + (u' - 2 - j)) + i) = μ 15 (290 * (5 + (u - 1 - j)) + i)
set_option maxRecDepth 100000 in theorem r_keeps {μ : Mem} (h : PM μ) {u : Nat} (hu : μ 0 24 = (u : Int)) (hu2 : u ≤ 12) : ∃ μ', fX12_keeps shM [(2, rf 0)] μ = some (0, μ') ∧ KP μ μ' u (min (u + 1) 12) := by
  by_cases c : u = 12
  · subst c
    have lp := loop_run (kb := 2) (kc := 3) (c := kX12_keeps_0c) (body := kX12_keeps_0b) (upd := kX12_keeps_0u) (sh := shM) (fun j => [(2, rf 0), (0, (j : Int) + 1)]) (fun j => shP μ j) (r := (0, 0, [(2, rf 0), (0, (12 : Int))], shP μ 11)) 11 (by
      intro j hj
      have p1 : PM (shP μ j) := h.of (fun b => shP_c (by decide)) (fun b => shP_c (by decide)) (fun b => shP_c (by decide)) (fun b => shP_c (by decide))
      have e := r_copies p1 (f := 6 + j) (t := 5 + j) (by omega) (by omega) (by omega)
      rw [show ((6 + j : Nat) : Int) = 5 + ((j : Int) + 1) by omega, show ((5 + j : Nat) : Int) = 5 + ((j : Int) + 1) - 1 by omega, shP_s] at e
      have q : (j : Int) + 1 < 12 := by omega
      simp -implicitDefEqProofs (disch := omega) [kX12_keeps_0c, kX12_keeps_0b, kX12_keeps_0u, v_cop, v_c1, v_c2, v_c3, v_c4, v_c5, v_bin, v_bn, v_bn2, v_div, v_dv, v_dv2, v_une, v_un, v_loc, v_num, v_get, v_gt, v_ald, v_al, v_al2, v_len, v_ln, v_rl0, v_rl1, v_rl2, v_rl3, v_rl4, v_rl5, v_cmp, v_cp, v_cp2, v_zC, v_zc, v_con, v_kc, v_and, v_an1, v_an0, v_or, v_or1, v_or0, v_not, v_nt, v_boo, v_bo, v_cnd, v_cd1, v_cd0, v_cnc, v_cc1, v_cc0, v_ev0, v_ev, v_e1, v_e2, v_cve, v_cv, v_cse, v_cs, v_skip, v_seq, v_sq0, v_sq1, v_sqr, v_sts, v_st, v_inc, v_put, v_pt, v_pt2, v_fop, v_fo, v_fo2, v_ast, v_as, v_as2, v_as3, v_aop, v_ao, v_ao2, v_ao3, v_exs, v_ex, v_ifs, v_if1, v_if0, v_ret, v_rt, v_rez, v_rz, v_rev, v_brk, v_sws, v_sw, v_sw2, v_run, v_rb, v_turn, v_tu1, v_tu0, v_tu2, v_tu3, fst1, snd1, Option.map_some, Option.getD_some, enA, en, stE, okb, narV, rf_toNat, rf_nn, List.getElem?_cons_zero, List.getElem?_cons_succ, w32_id, w64_id, ite_t, ite_f, Int.toNat_add, Int.toNat_mul, sM_0, e, q]) (by simp -implicitDefEqProofs (disch := omega) [kX12_keeps_0c, v_cop, v_c1, v_c2, v_c3, v_c4, v_c5, v_bin, v_bn, v_bn2, v_div, v_dv, v_dv2, v_une, v_un, v_loc, v_num, v_get, v_gt, v_ald, v_al, v_al2, v_len, v_ln, v_rl0, v_rl1, v_rl2, v_rl3, v_rl4, v_rl5, v_cmp, v_cp, v_cp2, v_zC, v_zc, v_con, v_kc, v_and, v_an1, v_an0, v_or, v_or1, v_or0, v_not, v_nt, v_boo, v_bo, v_cnd, v_cd1, v_cd0, v_cnc, v_cc1, v_cc0, v_ev0, v_ev, v_e1, v_e2, v_cve, v_cv, v_cse, v_cs, v_skip, v_seq, v_sq0, v_sq1, v_sqr, v_sts, v_st, v_inc, v_put, v_pt, v_pt2, v_fop, v_fo, v_fo2, v_ast, v_as, v_as2, v_as3, v_aop, v_ao, v_ao2, v_ao3, v_exs, v_ex, v_ifs, v_if1, v_if0, v_ret, v_rt, v_rez, v_rz, v_rev, v_brk, v_sws, v_sw, v_sw2, v_run, v_rb, v_turn, v_tu1, v_tu0, v_tu2, v_tu3, fst1, snd1, Option.map_some, Option.getD_some, enA, en, stE, okb, narV, rf_toNat, rf_nn, List.getElem?_cons_zero, List.getElem?_cons_succ, w32_id, w64_id, ite_t, ite_f, Int.toNat_add, Int.toNat_mul])
    simp [shP_0] at lp
    have p1 : PM (shP μ 11) := h.of (fun b => shP_c (by decide)) (fun b => shP_c (by decide)) (fun b => shP_c (by decide)) (fun b => shP_c (by decide))
    have p2 : PM (ud (shP μ 11) 0 24 11) := p1.ud1 (by omega)
    have e := r_copies p2 (f := 0) (t := 16) (by omega) (by omega) (by omega)
    have e2 : shP μ 11 0 24 = 12 := by rw [shP_c (by decide), hu]; rfl
    have e3 : cpS (ud (shP μ 11) 0 24 11) 0 16 290 0 24 = 11 := by rw [cpS_c (by decide), ud_s]
    simp at e
    refine ⟨ud (cpS (ud (shP μ 11) 0 24 11) 0 16 290) 0 24 12, ?_, fun a b h1 h2 => ?_, fun b hb => ?_, ?_, fun i hi => ?_, fun j i hj hi => ?_⟩
    · simp -implicitDefEqProofs (disch := omega) [fX12_keeps, bX12_keeps, kX12_keeps_0, v_cop, v_c1, v_c2, v_c3, v_c4, v_c5, v_bin, v_bn, v_bn2, v_div, v_dv, v_dv2, v_une, v_un, v_loc, v_num, v_get, v_gt, v_ald, v_al, v_al2, v_len, v_ln, v_rl0, v_rl1, v_rl2, v_rl3, v_rl4, v_rl5, v_cmp, v_cp, v_cp2, v_zC, v_zc, v_con, v_kc, v_and, v_an1, v_an0, v_or, v_or1, v_or0, v_not, v_nt, v_boo, v_bo, v_cnd, v_cd1, v_cd0, v_cnc, v_cc1, v_cc0, v_ev0, v_ev, v_e1, v_e2, v_cve, v_cv, v_cse, v_cs, v_skip, v_seq, v_sq0, v_sq1, v_sqr, v_sts, v_st, v_inc, v_put, v_pt, v_pt2, v_fop, v_fo, v_fo2, v_ast, v_as, v_as2, v_as3, v_aop, v_ao, v_ao2, v_ao3, v_exs, v_ex, v_ifs, v_if1, v_if0, v_ret, v_rt, v_rez, v_rz, v_rev, v_brk, v_sws, v_sw, v_sw2, v_run, v_rb, v_turn, v_tu1, v_tu0, v_tu2, v_tu3, fst1, snd1, Option.map_some, Option.getD_some, enA, en, stE, okb, narV, rf_toNat, rf_nn, List.getElem?_cons_zero, List.getElem?_cons_succ, w32_id, w64_id, ite_t, ite_f, Int.toNat_add, Int.toNat_mul, sM_0, hu, lp, e2, ud_s, e, e3]
    · have : ∀ (m : Mem) (v : Int), ud m 0 24 v a b = m a b := fun m v => by unfold ud; rw [if_neg h2]
      rw [this, cpS_c h1, this, shP_c h1]
    · rw [ud_c (by decide), cpS_o (by omega), ud_c (by decide)]
      unfold shP
      rw [if_neg (by omega)]
    · rw [ud_s]
      rfl
    · rw [ud_c (by decide)]
      have := cpS_n (μ := ud (shP μ 11) 0 24 11) (f := 0) (t := 16) hi
      rw [show 290 * (5 + (min (12 + 1) 12 - 1)) + i = 290 * 16 + i by omega, this, ud_c (by decide)]
      unfold shP
      rw [if_neg (by omega)]
      congr 1
      omega
    · have hm : min (12 + 1) 12 = 12 := rfl
      rw [hm] at hj ⊢
      rw [ud_c (by decide), cpS_o (by omega), ud_c (by decide)]
      unfold shP
      rw [if_pos ⟨rfl, by omega, by omega⟩]
      congr 1
      omega
  · have e := r_copies h (f := 0) (t := 5 + u) (by omega) (by omega) (by omega)
    have c2 : ¬ (u : Int) = 12 := by omega
    rw [show ((5 + u : Nat) : Int) = 5 + (u : Int) by omega] at e
    simp at e
    have hm : min (u + 1) 12 = u + 1 := by omega
    rw [hm]
    have e3 : cpS μ 0 (5 + u) 290 0 24 = (u : Int) := by rw [cpS_c (by decide), hu]
    refine ⟨ud (cpS μ 0 (5 + u) 290) 0 24 ((u : Int) + 1), ?_, fun a b h1 h2 => ?_, fun b hb => ?_, ?_, fun i hi => ?_, fun j i hj hi => ?_⟩
    · simp -implicitDefEqProofs (disch := omega) [fX12_keeps, bX12_keeps, v_cop, v_c1, v_c2, v_c3, v_c4, v_c5, v_bin, v_bn, v_bn2, v_div, v_dv, v_dv2, v_une, v_un, v_loc, v_num, v_get, v_gt, v_ald, v_al, v_al2, v_len, v_ln, v_rl0, v_rl1, v_rl2, v_rl3, v_rl4, v_rl5, v_cmp, v_cp, v_cp2, v_zC, v_zc, v_con, v_kc, v_and, v_an1, v_an0, v_or, v_or1, v_or0, v_not, v_nt, v_boo, v_bo, v_cnd, v_cd1, v_cd0, v_cnc, v_cc1, v_cc0, v_ev0, v_ev, v_e1, v_e2, v_cve, v_cv, v_cse, v_cs, v_skip, v_seq, v_sq0, v_sq1, v_sqr, v_sts, v_st, v_inc, v_put, v_pt, v_pt2, v_fop, v_fo, v_fo2, v_ast, v_as, v_as2, v_as3, v_aop, v_ao, v_ao2, v_ao3, v_exs, v_ex, v_ifs, v_if1, v_if0, v_ret, v_rt, v_rez, v_rz, v_rev, v_brk, v_sws, v_sw, v_sw2, v_run, v_rb, v_turn, v_tu1, v_tu0, v_tu2, v_tu3, fst1, snd1, Option.map_some, Option.getD_some, enA, en, stE, okb, narV, rf_toNat, rf_nn, List.getElem?_cons_zero, List.getElem?_cons_succ, w32_id, w64_id, ite_t, ite_f, Int.toNat_add, Int.toNat_mul, sM_0, hu, c2, e, e3]
    · have : ∀ (m : Mem) (v : Int), ud m 0 24 v a b = m a b := fun m v => by unfold ud; rw [if_neg h2]
      rw [this, cpS_c h1]
    · rw [ud_c (by decide), cpS_o (by omega)]
    · rw [ud_s]
      rfl
    · rw [ud_c (by decide), show 290 * (5 + (u + 1 - 1)) + i = 290 * (5 + u) + i by omega, cpS_n hi]
      congr 1
      omega
    · rw [ud_c (by decide), cpS_o (by omega)]
      congr 1 <;> omega
def kpC (μ : Mem) (w' : Nat) (u' : Int) : Mem := ud (cpL (ud μ 44 2 (w' : Int)) 30 (46 + 5 * w')) 44 1 u'
set_option maxRecDepth 100000 in theorem c_keep {μ : Mem} (p : PC μ) {u w : Nat} (hu : μ 44 1 = (u : Int)) (hu2 : u ≤ 12) (hw : μ 44 2 = (w : Int)) (hw2 : w < 12) : fX7_keep shC [(2, rf 44), (2, rf 30)] μ = some (0, kpC μ ((w + 1) % 12) ((min (u + 1) 12 : Nat) : Int)) := by
  have key : ∀ w' : Nat, w' < 12 → (if (w : Int) + 1 < 12 then (w : Int) + 1 else 0) = (w' : Int) → fX7_keep shC [(2, rf 44), (2, rf 30)] μ = some (0, kpC μ w' ((min (u + 1) 12 : Nat) : Int)) := by
    intro w' h1 h2
    have p1 : PC (ud μ 44 2 (w' : Int)) := p.ud1 (by decide)
    obtain ⟨t1, t2⟩ := p1.past h1
    have e := c_copy t2 p1.ly30 (by omega)
    have e2 : cpL (ud μ 44 2 (w' : Int)) 30 (46 + 5 * w') 44 1 = (u : Int) := by rw [cpL_c (by omega), ud_j (by decide), hu]
    have e3 : (if 12 < (u : Int) + 1 then 12 else (u : Int) + 1) = ((min (u + 1) 12 : Nat) : Int) := by
      split <;> omega
    have s1 := t2.1
    by_cases c : (w : Int) + 1 < 12
    · rw [if_pos c] at h2
      have c' : (w' : Int) < 12 := by omega
      simp -implicitDefEqProofs (disch := omega) [fX7_keep, bX7_keep, v_cop, v_c1, v_c2, v_c3, v_c4, v_c5, v_bin, v_bn, v_bn2, v_div, v_dv, v_dv2, v_une, v_un, v_loc, v_num, v_get, v_gt, v_ald, v_al, v_al2, v_len, v_ln, v_rl0, v_rl1, v_rl2, v_rl3, v_rl4, v_rl5, v_cmp, v_cp, v_cp2, v_zC, v_zc, v_con, v_kc, v_and, v_an1, v_an0, v_or, v_or1, v_or0, v_not, v_nt, v_boo, v_bo, v_cnd, v_cd1, v_cd0, v_cnc, v_cc1, v_cc0, v_ev0, v_ev, v_e1, v_e2, v_cve, v_cv, v_cse, v_cs, v_skip, v_seq, v_sq0, v_sq1, v_sqr, v_sts, v_st, v_inc, v_put, v_pt, v_pt2, v_fop, v_fo, v_fo2, v_ast, v_as, v_as2, v_as3, v_aop, v_ao, v_ao2, v_ao3, v_exs, v_ex, v_ifs, v_if1, v_if0, v_ret, v_rt, v_rez, v_rz, v_rev, v_brk, v_sws, v_sw, v_sw2, v_run, v_rb, v_turn, v_tu1, v_tu0, v_tu2, v_tu3, fst1, snd1, Option.map_some, Option.getD_some, enA, en, stE, okb, narV, rf_toNat, rf_nn, List.getElem?_cons_zero, List.getElem?_cons_succ, w32_id, w64_id, ite_t, ite_f, Int.toNat_add, Int.toNat_mul, sC_44, sC_45, p.p44_0, hw, c', h2, p1.p44_0, ud_s, t1, s1, h1, e, e2, e3, kpC]
    · rw [if_neg c] at h2
      have w0 : w' = 0 := by omega
      subst w0
      have q0 := p1.p44_0
      simp only [Int.natCast_zero, Nat.mul_zero, Nat.add_zero, Int.cast_ofNat_Int] at t1 e e2 s1 q0
      simp -implicitDefEqProofs (disch := omega) [fX7_keep, bX7_keep, v_cop, v_c1, v_c2, v_c3, v_c4, v_c5, v_bin, v_bn, v_bn2, v_div, v_dv, v_dv2, v_une, v_un, v_loc, v_num, v_get, v_gt, v_ald, v_al, v_al2, v_len, v_ln, v_rl0, v_rl1, v_rl2, v_rl3, v_rl4, v_rl5, v_cmp, v_cp, v_cp2, v_zC, v_zc, v_con, v_kc, v_and, v_an1, v_an0, v_or, v_or1, v_or0, v_not, v_nt, v_boo, v_bo, v_cnd, v_cd1, v_cd0, v_cnc, v_cc1, v_cc0, v_ev0, v_ev, v_e1, v_e2, v_cve, v_cv, v_cse, v_cs, v_skip, v_seq, v_sq0, v_sq1, v_sqr, v_sts, v_st, v_inc, v_put, v_pt, v_pt2, v_fop, v_fo, v_fo2, v_ast, v_as, v_as2, v_as3, v_aop, v_ao, v_ao2, v_ao3, v_exs, v_ex, v_ifs, v_if1, v_if0, v_ret, v_rt, v_rez, v_rz, v_rev, v_brk, v_sws, v_sw, v_sw2, v_run, v_rb, v_turn, v_tu1, v_tu0, v_tu2, v_tu3, fst1, snd1, Option.map_some, Option.getD_some, enA, en, stE, okb, narV, rf_toNat, rf_nn, List.getElem?_cons_zero, List.getElem?_cons_succ, w32_id, w64_id, ite_t, ite_f, Int.toNat_add, Int.toNat_mul, sC_44, sC_45, p.p44_0, hw, c, q0, ud_s, t1, s1, e, e2, e3, kpC]
  refine key ((w + 1) % 12) (Nat.mod_lt _ (by decide)) ?_
  split <;> omega
set_option maxRecDepth 100000 in theorem R0.keep {μC μM : Mem} {h d n P M : Nat} (R : R0 μC μM h d n P M) : ∃ μC' μM', fX7_keep shC [(2, rf 44), (2, rf 30)] μC = some (0, μC') ∧ fX12_keeps shM [(2, rf 0)] μM = some (0, μM') ∧ R0 μC' μM' h d n P M ∧ ∀ b, b < 1450 → μM' 15 b = μM 15 b := by
  obtain ⟨u, hu⟩ := Int.eq_ofNat_of_zero_le R.pr.u0
  obtain ⟨w, hw⟩ := Int.eq_ofNat_of_zero_le R.pr.w0
  have u1 := R.pr.u1
  have w1 := R.pr.w1
  have ma := R.pr.ma
  have ke := R.pr.ke
  have hd := R.hd.1
  rw [hu] at u1 ma ke
  rw [hw] at w1 ke
  simp only [Int.ofNat_eq_natCast, Int.toNat_natCast] at u1 ma ke w1 hu hw
  obtain ⟨μM', f1, k1, k2, k3, k4, k5⟩ := r_keeps R.pm hu (by omega)
  have f2 := c_keep R.pc ma (by omega) hw (by omega)
  refine ⟨_, μM', f2, f1, ?_, fun b hb => k2 b (.inl hb)⟩
  have hm : min (u + 1) 12 ≤ 12 := by omega
  have hm2 : 1 ≤ min (u + 1) 12 := by omega
  revert k3 k4 k5 f2
  generalize hu' : min (u + 1) 12 = u'
  rw [hu'] at hm hm2
  generalize hw' : (w + 1) % 12 = w'
  have hw2 : w' < 12 := by rw [← hw']; exact Nat.mod_lt _ (by decide)
  intro k3 k4 k5 f2
  have kc : ∀ a b, ¬ (a = 44 ∧ (b = 1 ∨ b = 2)) → (a < 46 + 5 * w' ∨ 51 + 5 * w' ≤ a) → kpC μC w' (u' : Int) a b = μC a b := fun a b h1 h2 => by
    unfold kpC
    rw [show ∀ m : Mem, ud m 44 1 (u' : Int) a b = m a b from fun m => by unfold ud; rw [if_neg (by omega)], cpL_c (by omega)]
    unfold ud
    rw [if_neg (by omega)]
  have pc : PC (kpC μC w' (u' : Int)) := by
    have p1 : PC (ud μC 44 2 (w' : Int)) := R.pc.ud1 (by decide)
    have p2 : PC (cpL (ud μC 44 2 (w' : Int)) 30 (46 + 5 * w')) := by
      refine p1.of (fun p hp => cpL_p ?_)
      have : ∀ v, v < 12 → ∀ p ∈ ptC, ¬ (p.1 = 46 + 5 * v ∧ p.2.1 < 2 ∨ 46 + 5 * v + 1 ≤ p.1 ∧ p.1 ≤ 46 + 5 * v + 4) := by decide
      exact this w' hw2 p hp
    exact p2.ud1 (by decide)
  have pm : PM μM' := R.pm.keep (S := fun a b => a = 15 ∨ a = 0 ∧ b = 24) (fun a b hs => k1 a b (by omega) (by omega)) (by decide)
  have es : ∀ i, i < 1450 → μM' 15 i = μM 15 i := fun i hi => k2 i (.inl hi)
  refine R.upd pc (fun a b hab => kc a b (by omega) (by omega)) pm (by rw [k1 0 0 (by omega) (by omega)]; exact R.th) (fun a b hab => k1 a b (by omega) (by omega)) (R.lr.of (fun a b h1 h2 => kc a b (by omega) (by omega)) (fun i hi => es i (by omega))) (R.gr.of R.sg.f1 (fun a b h1 h2 => kc a b (by omega) (by omega)) (fun i _ hi => es i (by omega))) (R.sl.of (fun i hi => es i (by omega))) (R.sg.of R.fb.n1 (fun i _ hi => es i (by omega)) (fun i _ hi => es i (by omega))) ?_ (R.mr.of R.fb.n1 (kc _ _ (by omega) (by omega)) (fun a b h1 h2 => kc a b (by omega) (by omega)) (fun m hm => k1 _ _ (by omega) (by omega)) (fun i h1 h2 => es i (by omega)))
  have c1 : kpC μC w' (u' : Int) 44 1 = (u' : Int) := by unfold kpC; rw [ud_s]
  have c2 : kpC μC w' (u' : Int) 44 2 = (w' : Int) := by unfold kpC; rw [ud_j (by decide), cpL_c (by omega), ud_s]
  refine ⟨by rw [c1, k3], by rw [k3]; omega, by rw [k3]; omega, by rw [c2]; omega, by rw [c2]; omega, fun j hj => ?_⟩
  rw [k3] at hj
  rw [k3, c2]
  simp only [Int.toNat_natCast]
  by_cases j0 : j = 0
  · subst j0
    have es : ∀ i, i < 290 → slt μM' (5 + (u' - 1 - 0)) i = μM 15 i := fun i hi => k4 i hi
    rw [show (w' + 12 - 0) % 12 = w' by omega]
    refine ⟨?_, R.sl.of (fun i hi => es i (by omega))⟩
    have l1 : LR (ud μC 44 2 (w' : Int)) 30 (μM 15) := R.lr.of (fun a b h1 h2 => ud_c (by omega)) (fun i hi => rfl)
    have l2 : LR (cpL (ud μC 44 2 (w' : Int)) 30 (46 + 5 * w')) (46 + 5 * w') (μM 15) := cpL_LR l1
    exact l2.of (fun a b h1 h2 => ud_c (by omega)) (fun i hi => es i (by omega))
  · obtain ⟨q1, q2⟩ := ke (j - 1) (by omega)
    have es : ∀ i, i < 290 → slt μM' (5 + (u' - 1 - j)) i = slt μM (5 + (u - 1 - (j - 1))) i := fun i hi => by
      have := k5 (j - 1) i (by omega) hi
      rw [show u' - 2 - (j - 1) = u' - 1 - j by omega] at this
      exact this
    refine ⟨?_, q2.of (fun i hi => es i (by omega))⟩
    have ec : (w' + 12 - j) % 12 = (w + 12 - (j - 1)) % 12 := by omega
    have ed : (w' + 12 - j) % 12 ≠ w' := by omega
    rw [ec] at ed ⊢
    have ee : (w + 12 - (j - 1)) % 12 < 12 := Nat.mod_lt _ (by decide)
    exact q1.of (fun a b h1 h2 => kc a b (by omega) (by omega)) (fun i hi => es i (by omega))
