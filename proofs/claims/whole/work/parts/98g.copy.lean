/-! copies of states -/
def cpS (μ : Mem) (f t j : Nat) : Mem := fun a b => if a = 15 ∧ 290 * t ≤ b ∧ b < 290 * t + j then μ 15 (290 * f + (b - 290 * t)) else μ a b
set_option maxRecDepth 100000 in theorem cpS_0 {μ : Mem} {f t : Nat} : cpS μ f t 0 = μ := by
  funext a b
  unfold cpS
  rw [if_neg (by omega)]
set_option maxRecDepth 100000 in theorem cpS_c {μ : Mem} {f t j a b : Nat} (h : a ≠ 15) : cpS μ f t j a b = μ a b := by
  unfold cpS
  rw [if_neg (by omega)]
set_option maxRecDepth 100000 in theorem cpS_o {μ : Mem} {f t j a b : Nat} (h : b < 290 * t ∨ 290 * t + j ≤ b) : cpS μ f t j a b = μ a b := by
  unfold cpS
  rw [if_neg (by omega)]
set_option maxRecDepth 100000 in theorem cpS_n {μ : Mem} {f t j i : Nat} (h : i < j) : cpS μ f t j 15 (290 * t + i) = μ 15 (290 * f + i) := by
  unfold cpS
  rw [if_pos ⟨rfl, by omega, by omega⟩]
  congr 1
  omega
set_option maxRecDepth 100000 in theorem cpS_s {μ : Mem} {f t j : Nat} : ud (cpS μ f t j) 15 (290 * t + j) (μ 15 (290 * f + j)) = cpS μ f t (j + 1) := by
  funext a b
  unfold ud cpS
  by_cases c1 : a = 15
  · subst c1
    by_cases c2 : b = 290 * t + j
    · subst c2
      rw [if_pos ⟨rfl, rfl⟩, if_pos ⟨rfl, by omega, by omega⟩]
      congr 1
      omega
    · rw [if_neg (fun z => c2 z.2)]
      by_cases c3 : 290 * t ≤ b ∧ b < 290 * t + j
      · rw [if_pos ⟨rfl, c3⟩, if_pos ⟨rfl, by omega, by omega⟩]
      · rw [if_neg (fun z => c3 z.2), if_neg (fun z => c3 ⟨z.2.1, by omega⟩)]
  · rw [if_neg (fun z => c1 z.1), if_neg (fun z => c1 z.1), if_neg (fun z => c1 z.1)]
set_option maxRecDepth 100000 in theorem PM.cp {μ : Mem} (h : PM μ) {f t j : Nat} : PM (cpS μ f t j) := h.of (fun b => cpS_c (by decide)) (fun b => cpS_c (by decide)) (fun b => cpS_c (by decide)) (fun b => cpS_c (by decide))
set_option maxRecDepth 100000 in theorem r_copies {μ : Mem} (h : PM μ) {f t : Nat} (hf : f < 18) (ht : t < 18) (hne : f ≠ t) : fX12_copies shM [(2, rf 0), (0, (f : Int)), (0, (t : Int))] μ = some (0, cpS μ f t 290) := by
  have := loop_run (kb := 2) (kc := 3) (c := kX12_copies_0c) (body := kX12_copies_0b) (upd := kX12_copies_0u) (sh := shM) (fun j => [(2, rf 0), (0, (f : Int)), (0, (t : Int)), (0, (j : Int))]) (fun j => cpS μ f t j) (r := (0, 0, [(2, rf 0), (0, (f : Int)), (0, (t : Int)), (0, (290 : Int))], cpS μ f t 290)) 290 (by
    intro j hj
    have i1 : (290 * (t : Int) + (j : Int)).toNat = 290 * t + j := by omega
    have i2 : 0 ≤ 290 * (t : Int) + (j : Int) := by omega
    have i3 : 290 * (t : Int) + (j : Int) < 5220 := by omega
    have i4 : (290 * (f : Int) + (j : Int)).toNat = 290 * f + j := by omega
    have i5 : 0 ≤ 290 * (f : Int) + (j : Int) := by omega
    have i6 : 290 * (f : Int) + (j : Int) < 5220 := by omega
    have e1 : cpS μ f t j 15 (290 * f + j) = μ 15 (290 * f + j) := cpS_o (by omega)
    have e2 : cpS μ f t j 0 23 = rf 15 := by rw [cpS_c (by decide)]; exact h.p23
    simp -implicitDefEqProofs (disch := omega) [kX12_copies_0c, kX12_copies_0b, kX12_copies_0u, runB, retS, retZ, retV, boolE, condE, andC, orC, notC, cmpC, zC, constC, aldE, getE, locE, numE, binE, divE, unE, lenE, cvE, csE, evA, enA, en, rl, seqS, stS, stE, incS, putS, fopS, astS, aopS, exS, ifS, skipS, brkS, swS, okb, narV, rf_toNat, rf_nn, List.getElem?_cons_zero, List.getElem?_cons_succ, turnS, w32_id, w64_id, ite_t, ite_f, Int.toNat_add, Int.toNat_mul, sM_0, sM_15, e1, e2, i1, i2, i3, i4, i5, i6, cpS_s, hj]) (by simp -implicitDefEqProofs (disch := omega) [kX12_copies_0c, runB, retS, retZ, retV, boolE, condE, andC, orC, notC, cmpC, zC, constC, aldE, getE, locE, numE, binE, divE, unE, lenE, cvE, csE, evA, enA, en, rl, seqS, stS, stE, incS, putS, fopS, astS, aopS, exS, ifS, skipS, brkS, swS, okb, narV, rf_toNat, rf_nn, List.getElem?_cons_zero, List.getElem?_cons_succ, turnS, w32_id, w64_id, ite_t, ite_f, Int.toNat_add, Int.toNat_mul])
  simp [cpS_0] at this
  simp -implicitDefEqProofs (disch := omega) [fX12_copies, bX12_copies, kX12_copies_0, runB, retS, retZ, retV, boolE, condE, andC, orC, notC, cmpC, zC, constC, aldE, getE, locE, numE, binE, divE, unE, lenE, cvE, csE, evA, enA, en, rl, seqS, stS, stE, incS, putS, fopS, astS, aopS, exS, ifS, skipS, brkS, swS, okb, narV, rf_toNat, rf_nn, List.getElem?_cons_zero, List.getElem?_cons_succ, turnS, w32_id, w64_id, ite_t, ite_f, Int.toNat_add, Int.toNat_mul, this]
/-- a Lying's copy -/
def cpL (μ : Mem) (s k : Nat) : Mem := fun a b => if a = k ∧ b < 2 then μ s b else if (a = k + 1 ∨ a = k + 2 ∨ a = k + 3) ∧ b < 12 then μ (s + (a - k)) b else if a = k + 4 ∧ b < 144 then μ (s + 4) b else μ a b
set_option maxRecDepth 100000 in theorem cpy_c {μ : Mem} {sa sp da dp n a b : Nat} (h : a ≠ da) : cpyM μ sa sp da dp n a b = μ a b := by
  unfold cpyM
  rw [if_neg (fun z => h z.1)]
set_option maxRecDepth 100000 in theorem cpL_c {μ : Mem} {s k a b : Nat} (h : a < k ∨ k + 5 ≤ a) : cpL μ s k a b = μ a b := by
  unfold cpL
  rw [if_neg (by omega), if_neg (by omega), if_neg (by omega)]
set_option maxRecDepth 100000 in theorem cpL_p {μ : Mem} {s k a b : Nat} (h : ¬ (a = k ∧ b < 2 ∨ k + 1 ≤ a ∧ a ≤ k + 4)) : cpL μ s k a b = μ a b := by
  unfold cpL
  rw [if_neg (by omega), if_neg (by omega), if_neg (by omega)]
set_option maxRecDepth 100000 in theorem c_copy {μ : Mem} {k s : Nat} (o1 : ObLy shC μ k) (o2 : ObLy shC μ s) (hd : k + 5 ≤ s ∨ s + 5 ≤ k) : fX6_copy shC [(2, rf k), (2, rf s)] μ = some (0, cpL μ s k) := by
  obtain ⟨k0, k1, k2, k3, k4, k5, k6, k7, k8⟩ := o1
  obtain ⟨s0, s1, s2, s3, s4, s5, s6, s7, s8⟩ := o2
  have x1 : ¬ s + 1 = k := by omega
  have x2 : ¬ s + 2 = k := by omega
  have x3 : ¬ s + 3 = k := by omega
  have x4 : ¬ s + 4 = k := by omega
  simp -implicitDefEqProofs (disch := omega) [fX6_copy, bX6_copy, v_cop, v_c1, v_c2, v_c3, v_c4, v_c5, v_bin, v_bn, v_bn2, v_div, v_dv, v_dv2, v_une, v_un, v_loc, v_num, v_get, v_gt, v_ald, v_al, v_al2, v_len, v_ln, v_rl0, v_rl1, v_rl2, v_rl3, v_rl4, v_rl5, v_cmp, v_cp, v_cp2, v_zC, v_zc, v_con, v_kc, v_and, v_an1, v_an0, v_or, v_or1, v_or0, v_not, v_nt, v_boo, v_bo, v_cnd, v_cd1, v_cd0, v_cnc, v_cc1, v_cc0, v_ev0, v_ev, v_e1, v_e2, v_cve, v_cv, v_cse, v_cs, v_skip, v_seq, v_sq0, v_sq1, v_sqr, v_sts, v_st, v_inc, v_put, v_pt, v_pt2, v_fop, v_fo, v_fo2, v_ast, v_as, v_as2, v_as3, v_aop, v_ao, v_ao2, v_ao3, v_exs, v_ex, v_ifs, v_if1, v_if0, v_ret, v_rt, v_rez, v_rz, v_rev, v_brk, v_sws, v_sw, v_sw2, v_run, v_rb, v_turn, v_tu1, v_tu0, v_tu2, v_tu3, fst1, snd1, Option.map_some, Option.getD_some, enA, en, stE, okb, narV, rf_toNat, rf_nn, List.getElem?_cons_zero, List.getElem?_cons_succ, w32_id, w64_id, ite_t, ite_f, Int.toNat_add, Int.toNat_mul, ud_c, ud_j, cpy_c, k0, k1, k2, k3, k4, k5, k6, k7, k8, s0, s1, s2, s3, s4, s5, s6, s7, s8]
  funext a b
  by_cases a0 : a = k
  · subst a0
    by_cases b0 : b = 0
    · subst b0
      simp (disch := omega) [cpL, cpy_c, ud]
    by_cases b1 : b = 1
    · subst b1
      simp (disch := omega) [cpL, cpy_c, ud]
    have b2 : ¬ b < 2 := by omega
    simp (disch := omega) [cpL, cpy_c, ud, b0, b1, b2]
  by_cases a1 : a = k + 1
  · subst a1
    by_cases b0 : b < 12
    · simp (disch := omega) [cpL, cpyM, ud, b0, x1, x2, x3, x4]
    · simp (disch := omega) [cpL, cpyM, ud, b0, x1, x2, x3, x4]
  by_cases a2 : a = k + 2
  · subst a2
    by_cases b0 : b < 12
    · simp (disch := omega) [cpL, cpyM, ud, b0, x1, x2, x3, x4]
    · simp (disch := omega) [cpL, cpyM, ud, b0, x1, x2, x3, x4]
  by_cases a3 : a = k + 3
  · subst a3
    by_cases b0 : b < 12
    · simp (disch := omega) [cpL, cpyM, ud, b0, x1, x2, x3, x4]
    · simp (disch := omega) [cpL, cpyM, ud, b0, x1, x2, x3, x4]
  by_cases a4 : a = k + 4
  · subst a4
    by_cases b0 : b < 144
    · simp (disch := omega) [cpL, cpyM, ud, b0, x1, x2, x3, x4]
    · simp (disch := omega) [cpL, cpyM, ud, b0, x1, x2, x3, x4]
  simp [cpL, cpyM, ud, a0, a1, a2, a3, a4]
set_option maxRecDepth 100000 in theorem cpL_LR {μ : Mem} {s k : Nat} {st : Nat → Int} (l : LR μ s st) : LR (cpL μ s k) k st := by
  refine ⟨?_, ?_, fun b hb => ?_, fun b hb => ?_, fun b hb => ?_, fun b hb => ?_⟩
  · rw [← l.aw]; unfold cpL; rw [if_pos ⟨rfl, by omega⟩]
  · rw [← l.ev]; unfold cpL; rw [if_pos ⟨rfl, by omega⟩]
  · rw [← l.no b hb]; unfold cpL; rw [if_neg (by omega), if_pos ⟨by omega, by omega⟩]; congr 1; omega
  · rw [← l.la b hb]; unfold cpL; rw [if_neg (by omega), if_pos ⟨by omega, by omega⟩]; congr 1; omega
  · rw [← l.ln b hb]; unfold cpL; rw [if_neg (by omega), if_pos ⟨by omega, by omega⟩]; congr 1; omega
  · rw [← l.bs b hb]; unfold cpL; rw [if_neg (by omega), if_neg (by omega), if_pos ⟨by omega, by omega⟩]
/-- a Fog's copy -/
def cpG (μ : Mem) (s k : Nat) : Mem := fun a b => if a = k ∧ b = 0 then μ s 0 else if (a = k + 1 ∨ a = k + 2 ∨ a = k + 3) ∧ b < 24 then μ (s + (a - k)) b else μ a b
set_option maxRecDepth 100000 in theorem cpG_c {μ : Mem} {s k a b : Nat} (h : a < k ∨ k + 4 ≤ a) : cpG μ s k a b = μ a b := by
  unfold cpG
  rw [if_neg (by omega), if_neg (by omega)]
set_option maxRecDepth 100000 in theorem cpG_p {μ : Mem} {s k a b : Nat} (h : ¬ (a = k ∧ b = 0 ∨ k + 1 ≤ a ∧ a ≤ k + 3)) : cpG μ s k a b = μ a b := by
  unfold cpG
  rw [if_neg (by omega), if_neg (by omega)]
set_option maxRecDepth 100000 in theorem c_copyG {μ : Mem} {k s : Nat} (o1 : ObFg shC μ k) (o2 : ObFg shC μ s) (hd : k + 4 ≤ s ∨ s + 4 ≤ k) : fX2_copy shC [(2, rf k), (2, rf s)] μ = some (0, cpG μ s k) := by
  obtain ⟨k0, k1, k2, k3, k5, k6, k7⟩ := o1
  obtain ⟨s0, s1, s2, s3, s5, s6, s7⟩ := o2
  have x1 : ¬ s + 1 = k := by omega
  have x2 : ¬ s + 2 = k := by omega
  have x3 : ¬ s + 3 = k := by omega
  simp -implicitDefEqProofs (disch := omega) [fX2_copy, bX2_copy, v_cop, v_c1, v_c2, v_c3, v_c4, v_c5, v_bin, v_bn, v_bn2, v_div, v_dv, v_dv2, v_une, v_un, v_loc, v_num, v_get, v_gt, v_ald, v_al, v_al2, v_len, v_ln, v_rl0, v_rl1, v_rl2, v_rl3, v_rl4, v_rl5, v_cmp, v_cp, v_cp2, v_zC, v_zc, v_con, v_kc, v_and, v_an1, v_an0, v_or, v_or1, v_or0, v_not, v_nt, v_boo, v_bo, v_cnd, v_cd1, v_cd0, v_cnc, v_cc1, v_cc0, v_ev0, v_ev, v_e1, v_e2, v_cve, v_cv, v_cse, v_cs, v_skip, v_seq, v_sq0, v_sq1, v_sqr, v_sts, v_st, v_inc, v_put, v_pt, v_pt2, v_fop, v_fo, v_fo2, v_ast, v_as, v_as2, v_as3, v_aop, v_ao, v_ao2, v_ao3, v_exs, v_ex, v_ifs, v_if1, v_if0, v_ret, v_rt, v_rez, v_rz, v_rev, v_brk, v_sws, v_sw, v_sw2, v_run, v_rb, v_turn, v_tu1, v_tu0, v_tu2, v_tu3, fst1, snd1, Option.map_some, Option.getD_some, enA, en, stE, okb, narV, rf_toNat, rf_nn, List.getElem?_cons_zero, List.getElem?_cons_succ, w32_id, w64_id, ite_t, ite_f, Int.toNat_add, Int.toNat_mul, ud_c, ud_j, cpy_c, k0, k1, k2, k3, k5, k6, k7, s0, s1, s2, s3, s5, s6, s7]
  funext a b
  by_cases a0 : a = k
  · subst a0
    by_cases b0 : b = 0
    · subst b0
      simp (disch := omega) [cpG, cpy_c, ud]
    simp (disch := omega) [cpG, cpy_c, ud, b0]
  by_cases a1 : a = k + 1
  · subst a1
    by_cases b0 : b < 24
    · simp (disch := omega) [cpG, cpyM, ud, b0, x1, x2, x3]
    · simp (disch := omega) [cpG, cpyM, ud, b0, x1, x2, x3]
  by_cases a2 : a = k + 2
  · subst a2
    by_cases b0 : b < 24
    · simp (disch := omega) [cpG, cpyM, ud, b0, x1, x2, x3]
    · simp (disch := omega) [cpG, cpyM, ud, b0, x1, x2, x3]
  by_cases a3 : a = k + 3
  · subst a3
    by_cases b0 : b < 24
    · simp (disch := omega) [cpG, cpyM, ud, b0, x1, x2, x3]
    · simp (disch := omega) [cpG, cpyM, ud, b0, x1, x2, x3]
  simp [cpG, cpyM, ud, a0, a1, a2, a3]
set_option maxRecDepth 100000 in theorem cpG_GR {μ : Mem} {s k : Nat} {st : Nat → Int} (l : GR μ s st) (hf : st 182 ≤ 24) : GR (cpG μ s k) k st := by
  refine ⟨?_, fun b hb => ?_, fun b hb => ?_, fun b hb => ?_⟩
  · rw [← l.ma]; unfold cpG; rw [if_pos ⟨rfl, rfl⟩]
  · rw [← l.ki b hb]; unfold cpG; rw [if_neg (by omega), if_pos ⟨by omega, by omega⟩]; congr 1; omega
  · rw [← l.wh b hb]; unfold cpG; rw [if_neg (by omega), if_pos ⟨by omega, by omega⟩]; congr 1; omega
  · rw [← l.nu b hb]; unfold cpG; rw [if_neg (by omega), if_pos ⟨by omega, by omega⟩]; congr 1; omega
