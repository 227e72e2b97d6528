/-! a bunch parted -/
noncomputable def urF (fl st : Nat → Int) (g a b : Nat) : Int := if (g.testBit a && !g.testBit b) = true then likS fl st a b else 0
noncomputable def urC (fl st : Nat → Int) (g a b : Nat) : Int := if g.testBit a ≠ g.testBit b then likS fl st a b else 0
noncomputable def urS (fl st : Nat → Int) (n g : Nat) : Int := sumN (fun a => sumN (urF fl st g a) n) n
set_option maxRecDepth 100000 in theorem sum_sq (F : Nat → Nat → Int) : ∀ n, sumN (fun a => sumN (F a) n) n = sumN (fun a => sumN (fun b => F a b + F b a) a + F a a) n
  | 0 => rfl
  | n + 1 => by
    have ih := sum_sq F n
    show sumN (fun a => sumN (F a) n + F a n) n + (sumN (F n) n + F n n) = sumN (fun a => sumN (fun b => F a b + F b a) a + F a a) n + (sumN (fun b => F n b + F b n) n + F n n)
    rw [sum_add (fun a => sumN (F a) n) (fun a => F a n) n, ih, sum_add (F n) (fun b => F b n) n]
    omega
set_option maxRecDepth 100000 in theorem lik_sym {fl st : Nat → Int} {n P M a b : Nat} (B : FB fl n P M) (ha : a < 12) (hb : b < 12) : likS fl st a b = likS fl st b a := by
  unfold likS
  rw [B.sy a b ha hb]
  by_cases c : (fl (3 + 2 * a) = 5 ∧ st (26 + a) < 3) ∨ (fl (3 + 2 * b) = 5 ∧ st (26 + b) < 3)
  · rw [if_pos c, if_pos (c.symm)]
  · rw [if_neg c, if_neg (fun z => c z.symm)]
set_option maxRecDepth 100000 in theorem ur_eq {fl st : Nat → Int} {n P M g : Nat} (B : FB fl n P M) : urS fl st n g = sumN (fun a => sumN (urC fl st g a) a) n := by
  unfold urS
  rw [sum_sq]
  have n1 := B.n1
  refine sum_congr (fun a ha => ?_)
  have d : urF fl st g a a = 0 := by
    unfold urF
    cases g.testBit a <;> rfl
  rw [d, Int.add_zero]
  refine sum_congr (fun b hb => ?_)
  unfold urF urC
  have s := lik_sym (st := st) B (show a < 12 by omega) (show b < 12 by omega)
  rw [← s]
  cases g.testBit a <;> cases g.testBit b <;> simp
set_option maxRecDepth 100000 in theorem urC_b {fl st : Nat → Int} {n P M g a b : Nat} (B : FB fl n P M) (ha : a < 12) (hb : b < 12) : 0 ≤ urC fl st g a b ∧ urC fl st g a b ≤ 99 := by
  have := lik_b (st := st) B ha hb
  unfold urC
  split <;> omega
set_option maxRecDepth 100000 in theorem urF_b {fl st : Nat → Int} {n P M g a b : Nat} (B : FB fl n P M) (ha : a < 12) (hb : b < 12) : 0 ≤ urF fl st g a b ∧ urF fl st g a b ≤ 99 := by
  have := lik_b (st := st) B ha hb
  unfold urF
  split <;> omega
set_option maxRecDepth 100000 in theorem row_b {F : Nat → Int} {m : Nat} (hm : m ≤ 12) (h : ∀ b, b < m → 0 ≤ F b ∧ F b ≤ 99) : 0 ≤ sumN F m ∧ sumN F m ≤ 1188 := by
  have := sum_le (f := F) (n := m) (c := 99) h
  omega
set_option maxRecDepth 100000 in theorem sq_b {F : Nat → Int} {m : Nat} (hm : m ≤ 12) (h : ∀ b, b < m → 0 ≤ F b ∧ F b ≤ 1188) : 0 ≤ sumN F m ∧ sumN F m ≤ 14256 := by
  have := sum_le (f := F) (n := m) (c := 1188) h
  omega
set_option maxRecDepth 100000 in theorem c_unr1 {μ : Mem} {h n P M : Nat} {fl st : Nat → Int} (Q : GQ μ h n P M fl st) (g1 : μ 0 1 = rf h) (g4 : μ 0 4 = rf 30) {g a : Nat} (hg : g < 4096) (ha : a < n) {s : Int} (hs : 0 ≤ s ∧ s ≤ 20000) : loopS 4 5 kX11_unrestOf_1c kX11_unrestOf_1b kX11_unrestOf_1u shC [(2, rf 0), (0, (g : Int)), (0, s), (0, (a : Int)), (0, 0)] μ = some (0, 0, [(2, rf 0), (0, (g : Int)), (0, s + sumN (urC fl st g a) a), (0, (a : Int)), (0, (a : Int))], μ) := by
  obtain ⟨h1, f, o, -, -, B, F, L, -⟩ := Q
  have n1 := B.n1
  have lp := loop_run (kb := 4) (kc := 5) (c := kX11_unrestOf_1c) (body := kX11_unrestOf_1b) (upd := kX11_unrestOf_1u) (sh := shC) (fun j => [(2, rf 0), (0, (g : Int)), (0, s + sumN (urC fl st g a) j), (0, (a : Int)), (0, (j : Int))]) (fun _ => μ) (r := (0, 0, [(2, rf 0), (0, (g : Int)), (0, s + sumN (urC fl st g a) a), (0, (a : Int)), (0, (a : Int))], μ)) a (by
    intro j hj
    have e1 := c_likes o f L F B ha (show j < n by omega)
    have e2 := bit_nat (w := g) (b := a) (by omega) (by omega)
    have e3 := bit_nat (w := g) (b := j) (by omega) (by omega)
    have lb := lik_b (st := st) B (show a < 12 by omega) (show j < 12 by omega)
    have b1 := row_b (F := urC fl st g a) (m := j) (by omega) (fun b hb => urC_b B (by omega) (by omega))
    have es : sumN (urC fl st g a) (j + 1) = sumN (urC fl st g a) j + urC fl st g a j := rfl
    rw [es]
    generalize sumN (urC fl st g a) j = S at *
    unfold urC
    have k0 := o.1
    generalize likS fl st a j = lk at *
    cases hga : g.testBit a <;> cases hgj : g.testBit j <;> rw [hga] at e2 <;> rw [hgj] at e3 <;> simp -implicitDefEqProofs (disch := omega) [kX11_unrestOf_1c, kX11_unrestOf_1b, kX11_unrestOf_1u, v_cop, v_c1, v_c2, v_c3, v_c4, v_c5, v_bin, v_bn, v_bn2, v_div, v_dv, v_dv2, v_une, v_un, v_loc, v_num, v_get, v_gt, v_ald, v_al, v_al2, v_len, v_ln, v_rl0, v_rl1, v_rl2, v_rl3, v_rl4, v_rl5, v_cmp, v_cp, v_cp2, v_zC, v_zc, v_con, v_kc, v_and, v_an1, v_an0, v_or, v_or1, v_or0, v_not, v_nt, v_boo, v_bo, v_cnd, v_cd1, v_cd0, v_cnc, v_cc1, v_cc0, v_ev0, v_ev, v_e1, v_e2, v_cve, v_cv, v_cse, v_cs, v_skip, v_seq, v_sq0, v_sq1, v_sqr, v_sts, v_st, v_inc, v_put, v_pt, v_pt2, v_fop, v_fo, v_fo2, v_ast, v_as, v_as2, v_as3, v_aop, v_ao, v_ao2, v_ao3, v_exs, v_ex, v_ifs, v_if1, v_if0, v_ret, v_rt, v_rez, v_rz, v_rev, v_brk, v_sws, v_sw, v_sw2, v_run, v_rb, v_turn, v_tu1, v_tu0, v_tu2, v_tu3, fst1, snd1, Option.map_some, Option.getD_some, enA, en, stE, okb, narV, rf_toNat, rf_nn, List.getElem?_cons_zero, List.getElem?_cons_succ, w32_id, w64_id, ite_t, ite_f, Int.toNat_add, Int.toNat_mul, dec_t, dec_f, sC_0, k0, g1, g4, e1, e2, e3] <;> omega) (by simp -implicitDefEqProofs (disch := omega) [kX11_unrestOf_1c, v_cop, v_c1, v_c2, v_c3, v_c4, v_c5, v_bin, v_bn, v_bn2, v_div, v_dv, v_dv2, v_une, v_un, v_loc, v_num, v_get, v_gt, v_ald, v_al, v_al2, v_len, v_ln, v_rl0, v_rl1, v_rl2, v_rl3, v_rl4, v_rl5, v_cmp, v_cp, v_cp2, v_zC, v_zc, v_con, v_kc, v_and, v_an1, v_an0, v_or, v_or1, v_or0, v_not, v_nt, v_boo, v_bo, v_cnd, v_cd1, v_cd0, v_cnc, v_cc1, v_cc0, v_ev0, v_ev, v_e1, v_e2, v_cve, v_cv, v_cse, v_cs, v_skip, v_seq, v_sq0, v_sq1, v_sqr, v_sts, v_st, v_inc, v_put, v_pt, v_pt2, v_fop, v_fo, v_fo2, v_ast, v_as, v_as2, v_as3, v_aop, v_ao, v_ao2, v_ao3, v_exs, v_ex, v_ifs, v_if1, v_if0, v_ret, v_rt, v_rez, v_rz, v_rev, v_brk, v_sws, v_sw, v_sw2, v_run, v_rb, v_turn, v_tu1, v_tu0, v_tu2, v_tu3, fst1, snd1, Option.map_some, Option.getD_some, enA, en, stE, okb, narV, rf_toNat, rf_nn, List.getElem?_cons_zero, List.getElem?_cons_succ, w32_id, w64_id, ite_t, ite_f, Int.toNat_add, Int.toNat_mul, dec_t, dec_f])
  have e0 : sumN (urC fl st g a) 0 = 0 := rfl
  simp only [e0] at lp
  rw [Int.add_zero] at lp
  exact lp
set_option maxRecDepth 100000 in theorem c_unrest {μ : Mem} {h n P M : Nat} {fl st : Nat → Int} (Q : GQ μ h n P M fl st) (g1 : μ 0 1 = rf h) (g4 : μ 0 4 = rf 30) {g : Nat} (hg : g < 4096) : fX11_unrestOf shC [(2, rf 0), (0, (g : Int))] μ = some (urS fl st n g, μ) := by
  have Q' := Q
  obtain ⟨h1, f, o, -, -, B, F, L, -⟩ := Q'
  have n1 := B.n1
  have f0 := f.1
  have hbe := F.be
  rw [B.n0] at hbe
  rw [ur_eq B]
  have rb : ∀ a, a < n → 0 ≤ sumN (urC fl st g a) a ∧ sumN (urC fl st g a) a ≤ 1188 := fun a ha => row_b (by omega) (fun b hb => urC_b B (by omega) (by omega))
  obtain ⟨env', m, lp, ⟨tk, tv, h3, h4, h5⟩⟩ := loop_n (kb := 2) (kc := 3) (c := kX11_unrestOf_0c) (body := kX11_unrestOf_0b) (upd := kX11_unrestOf_0u) (sh := shC) (n := n) (fun j env m => ∃ (tk : Nat) (tv : Int), tk ≠ 1 ∧ env = [(2, rf 0), (0, (g : Int)), (0, sumN (fun a => sumN (urC fl st g a) a) j), (0, (j : Int)), (tk, tv)] ∧ m = μ) (by
    rintro j env m hj ⟨tk, tv, h3, rfl, rfl⟩
    have h3' : ¬ tk = 1 := h3
    have sb := sq_b (F := fun a => sumN (urC fl st g a) a) (m := j) (by omega) (fun b hb => rb b (by omega))
    have e1 := c_unr1 Q g1 g4 hg hj (s := sumN (fun a => sumN (urC fl st g a) a) j) (by omega)
    refine ⟨[(2, rf 0), (0, (g : Int)), (0, sumN (fun a => sumN (urC fl st g a) a) (j + 1)), (0, ((j + 1 : Nat) : Int)), (0, (j : Int))], m, ?_, 0, (j : Int), by decide, rfl, rfl⟩
    have es : sumN (fun a => sumN (urC fl st g a) a) (j + 1) = sumN (fun a => sumN (urC fl st g a) a) j + sumN (urC fl st g j) j := rfl
    rw [es]
    generalize sumN (fun a => sumN (urC fl st g a) a) j = S at *
    generalize sumN (urC fl st g j) j = T at *
    simp -implicitDefEqProofs (disch := omega) [kX11_unrestOf_0c, kX11_unrestOf_0b, kX11_unrestOf_0u, kX11_unrestOf_1, v_cop, v_c1, v_c2, v_c3, v_c4, v_c5, v_bin, v_bn, v_bn2, v_div, v_dv, v_dv2, v_une, v_un, v_loc, v_num, v_get, v_gt, v_ald, v_al, v_al2, v_len, v_ln, v_rl0, v_rl1, v_rl2, v_rl3, v_rl4, v_rl5, v_cmp, v_cp, v_cp2, v_zC, v_zc, v_con, v_kc, v_and, v_an1, v_an0, v_or, v_or1, v_or0, v_not, v_nt, v_boo, v_bo, v_cnd, v_cd1, v_cd0, v_cnc, v_cc1, v_cc0, v_ev0, v_ev, v_e1, v_e2, v_cve, v_cv, v_cse, v_cs, v_skip, v_seq, v_sq0, v_sq1, v_sqr, v_sts, v_st, v_inc, v_put, v_pt, v_pt2, v_fop, v_fo, v_fo2, v_ast, v_as, v_as2, v_as3, v_aop, v_ao, v_ao2, v_ao3, v_exs, v_ex, v_ifs, v_if1, v_if0, v_ret, v_rt, v_rez, v_rz, v_rev, v_brk, v_sws, v_sw, v_sw2, v_run, v_rb, v_turn, v_tu1, v_tu0, v_tu2, v_tu3, fst1, snd1, Option.map_some, Option.getD_some, enA, en, stE, okb, narV, rf_toNat, rf_nn, List.getElem?_cons_zero, List.getElem?_cons_succ, w32_id, w64_id, ite_t, ite_f, Int.toNat_add, Int.toNat_mul, dec_t, dec_f, sC_0, g1, f0, hbe, h3', e1]) (by
    rintro env m ⟨tk, tv, h3, rfl, rfl⟩
    simp -implicitDefEqProofs (disch := omega) [kX11_unrestOf_0c, v_cop, v_c1, v_c2, v_c3, v_c4, v_c5, v_bin, v_bn, v_bn2, v_div, v_dv, v_dv2, v_une, v_un, v_loc, v_num, v_get, v_gt, v_ald, v_al, v_al2, v_len, v_ln, v_rl0, v_rl1, v_rl2, v_rl3, v_rl4, v_rl5, v_cmp, v_cp, v_cp2, v_zC, v_zc, v_con, v_kc, v_and, v_an1, v_an0, v_or, v_or1, v_or0, v_not, v_nt, v_boo, v_bo, v_cnd, v_cd1, v_cd0, v_cnc, v_cc1, v_cc0, v_ev0, v_ev, v_e1, v_e2, v_cve, v_cv, v_cse, v_cs, v_skip, v_seq, v_sq0, v_sq1, v_sqr, v_sts, v_st, v_inc, v_put, v_pt, v_pt2, v_fop, v_fo, v_fo2, v_ast, v_as, v_as2, v_as3, v_aop, v_ao, v_ao2, v_ao3, v_exs, v_ex, v_ifs, v_if1, v_if0, v_ret, v_rt, v_rez, v_rz, v_rev, v_brk, v_sws, v_sw, v_sw2, v_run, v_rb, v_turn, v_tu1, v_tu0, v_tu2, v_tu3, fst1, snd1, Option.map_some, Option.getD_some, enA, en, stE, okb, narV, rf_toNat, rf_nn, List.getElem?_cons_zero, List.getElem?_cons_succ, w32_id, w64_id, ite_t, ite_f, Int.toNat_add, Int.toNat_mul, dec_t, dec_f, sC_0, g1, f0, hbe]) (env := [(2, rf 0), (0, (g : Int)), (0, 0), (0, 0), (3, 0)]) (μ := μ) ⟨3, 0, by decide, rfl, rfl⟩
  subst h4 h5
  simp -implicitDefEqProofs (disch := omega) [fX11_unrestOf, bX11_unrestOf, kX11_unrestOf_0, v_cop, v_c1, v_c2, v_c3, v_c4, v_c5, v_bin, v_bn, v_bn2, v_div, v_dv, v_dv2, v_une, v_un, v_loc, v_num, v_get, v_gt, v_ald, v_al, v_al2, v_len, v_ln, v_rl0, v_rl1, v_rl2, v_rl3, v_rl4, v_rl5, v_cmp, v_cp, v_cp2, v_zC, v_zc, v_con, v_kc, v_and, v_an1, v_an0, v_or, v_or1, v_or0, v_not, v_nt, v_boo, v_bo, v_cnd, v_cd1, v_cd0, v_cnc, v_cc1, v_cc0, v_ev0, v_ev, v_e1, v_e2, v_cve, v_cv, v_cse, v_cs, v_skip, v_seq, v_sq0, v_sq1, v_sqr, v_sts, v_st, v_inc, v_put, v_pt, v_pt2, v_fop, v_fo, v_fo2, v_ast, v_as, v_as2, v_as3, v_aop, v_ao, v_ao2, v_ao3, v_exs, v_ex, v_ifs, v_if1, v_if0, v_ret, v_rt, v_rez, v_rz, v_rev, v_brk, v_sws, v_sw, v_sw2, v_run, v_rb, v_turn, v_tu1, v_tu0, v_tu2, v_tu3, fst1, snd1, Option.map_some, Option.getD_some, enA, en, stE, okb, narV, rf_toNat, rf_nn, List.getElem?_cons_zero, List.getElem?_cons_succ, w32_id, w64_id, ite_t, ite_f, Int.toNat_add, Int.toNat_mul, dec_t, dec_f, lp]
set_option maxRecDepth 100000 in theorem r_unr1 {μ : Mem} {n P M : Nat} (p : PM μ) (B : FB (μ 6) n P M) {g a : Nat} (hg : g < 4096) (ha : a < n) {s : Int} (hs : 0 ≤ s ∧ s ≤ 20000) : loopS 4 5 kX12_unrest_1c kX12_unrest_1b kX12_unrest_1u shM [(2, rf 0), (0, (g : Int)), (0, s), (0, (a : Int)), (0, 0)] μ = some (0, 0, [(2, rf 0), (0, (g : Int)), (0, s + sumN (urF (μ 6) (μ 15) g a) n), (0, (a : Int)), (0, (n : Int))], μ) := by
  have n1 := B.n1
  have eb := r_beasts p
  rw [B.n0] at eb
  have lp := loop_run (kb := 4) (kc := 5) (c := kX12_unrest_1c) (body := kX12_unrest_1b) (upd := kX12_unrest_1u) (sh := shM) (fun j => [(2, rf 0), (0, (g : Int)), (0, s + sumN (urF (μ 6) (μ 15) g a) j), (0, (a : Int)), (0, (j : Int))]) (fun _ => μ) (r := (0, 0, [(2, rf 0), (0, (g : Int)), (0, s + sumN (urF (μ 6) (μ 15) g a) n), (0, (a : Int)), (0, (n : Int))], μ)) n (by
    intro j hj
    have e1 := r_likes p (a := a) (b := j) (by omega) (by omega) (B.li a j (by omega) (by omega))
    have e2 := bit_nat (w := g) (b := a) (by omega) (by omega)
    have e3 := bit_nat (w := g) (b := j) (by omega) (by omega)
    have lb := lik_b (st := μ 15) B (show a < 12 by omega) (show j < 12 by omega)
    have b1 := row_b (F := urF (μ 6) (μ 15) g a) (m := j) (by omega) (fun b hb => urF_b B (by omega) (by omega))
    have es : sumN (urF (μ 6) (μ 15) g a) (j + 1) = sumN (urF (μ 6) (μ 15) g a) j + urF (μ 6) (μ 15) g a j := rfl
    rw [es]
    generalize sumN (urF (μ 6) (μ 15) g a) j = S at *
    unfold urF
    generalize likS (μ 6) (μ 15) a j = lk at *
    cases hga : g.testBit a <;> cases hgj : g.testBit j <;> rw [hga] at e2 <;> rw [hgj] at e3 <;> simp -implicitDefEqProofs (disch := omega) [kX12_unrest_1c, kX12_unrest_1b, kX12_unrest_1u, v_cop, v_c1, v_c2, v_c3, v_c4, v_c5, v_bin, v_bn, v_bn2, v_div, v_dv, v_dv2, v_une, v_un, v_loc, v_num, v_get, v_gt, v_ald, v_al, v_al2, v_len, v_ln, v_rl0, v_rl1, v_rl2, v_rl3, v_rl4, v_rl5, v_cmp, v_cp, v_cp2, v_zC, v_zc, v_con, v_kc, v_and, v_an1, v_an0, v_or, v_or1, v_or0, v_not, v_nt, v_boo, v_bo, v_cnd, v_cd1, v_cd0, v_cnc, v_cc1, v_cc0, v_ev0, v_ev, v_e1, v_e2, v_cve, v_cv, v_cse, v_cs, v_skip, v_seq, v_sq0, v_sq1, v_sqr, v_sts, v_st, v_inc, v_put, v_pt, v_pt2, v_fop, v_fo, v_fo2, v_ast, v_as, v_as2, v_as3, v_aop, v_ao, v_ao2, v_ao3, v_exs, v_ex, v_ifs, v_if1, v_if0, v_ret, v_rt, v_rez, v_rz, v_rev, v_brk, v_sws, v_sw, v_sw2, v_run, v_rb, v_turn, v_tu1, v_tu0, v_tu2, v_tu3, fst1, snd1, Option.map_some, Option.getD_some, enA, en, stE, okb, narV, rf_toNat, rf_nn, List.getElem?_cons_zero, List.getElem?_cons_succ, w32_id, w64_id, ite_t, ite_f, Int.toNat_add, Int.toNat_mul, dec_t, dec_f, sM_0, eb, e1, e2, e3] <;> omega) (by simp -implicitDefEqProofs (disch := omega) [kX12_unrest_1c, v_cop, v_c1, v_c2, v_c3, v_c4, v_c5, v_bin, v_bn, v_bn2, v_div, v_dv, v_dv2, v_une, v_un, v_loc, v_num, v_get, v_gt, v_ald, v_al, v_al2, v_len, v_ln, v_rl0, v_rl1, v_rl2, v_rl3, v_rl4, v_rl5, v_cmp, v_cp, v_cp2, v_zC, v_zc, v_con, v_kc, v_and, v_an1, v_an0, v_or, v_or1, v_or0, v_not, v_nt, v_boo, v_bo, v_cnd, v_cd1, v_cd0, v_cnc, v_cc1, v_cc0, v_ev0, v_ev, v_e1, v_e2, v_cve, v_cv, v_cse, v_cs, v_skip, v_seq, v_sq0, v_sq1, v_sqr, v_sts, v_st, v_inc, v_put, v_pt, v_pt2, v_fop, v_fo, v_fo2, v_ast, v_as, v_as2, v_as3, v_aop, v_ao, v_ao2, v_ao3, v_exs, v_ex, v_ifs, v_if1, v_if0, v_ret, v_rt, v_rez, v_rz, v_rev, v_brk, v_sws, v_sw, v_sw2, v_run, v_rb, v_turn, v_tu1, v_tu0, v_tu2, v_tu3, fst1, snd1, Option.map_some, Option.getD_some, enA, en, stE, okb, narV, rf_toNat, rf_nn, List.getElem?_cons_zero, List.getElem?_cons_succ, w32_id, w64_id, ite_t, ite_f, Int.toNat_add, Int.toNat_mul, dec_t, dec_f, sM_0, eb])
  have e0 : sumN (urF (μ 6) (μ 15) g a) 0 = 0 := rfl
  simp only [e0] at lp
  rw [Int.add_zero] at lp
  exact lp
set_option maxRecDepth 100000 in theorem r_unrest {μ : Mem} {n P M : Nat} (p : PM μ) (B : FB (μ 6) n P M) {g : Nat} (hg : g < 4096) : fX12_unrest shM [(2, rf 0), (0, (g : Int))] μ = some (urS (μ 6) (μ 15) n g, μ) := by
  have n1 := B.n1
  have eb := r_beasts p
  rw [B.n0] at eb
  unfold urS
  have rb : ∀ a, a < n → 0 ≤ sumN (urF (μ 6) (μ 15) g a) n ∧ sumN (urF (μ 6) (μ 15) g a) n ≤ 1188 := fun a ha => row_b (by omega) (fun b hb => urF_b B (by omega) (by omega))
  obtain ⟨env', m, lp, ⟨tk, tv, h3, h4, h5⟩⟩ := loop_n (kb := 2) (kc := 3) (c := kX12_unrest_0c) (body := kX12_unrest_0b) (upd := kX12_unrest_0u) (sh := shM) (n := n) (fun j env m => ∃ (tk : Nat) (tv : Int), tk ≠ 1 ∧ env = [(2, rf 0), (0, (g : Int)), (0, sumN (fun a => sumN (urF (μ 6) (μ 15) g a) n) j), (0, (j : Int)), (tk, tv)] ∧ m = μ) (by
    rintro j env m hj ⟨tk, tv, h3, rfl, rfl⟩
    have h3' : ¬ tk = 1 := h3
    have sb := sq_b (F := fun a => sumN (urF (m 6) (m 15) g a) n) (m := j) (by omega) (fun b hb => rb b (by omega))
    have e1 := r_unr1 p B hg hj (s := sumN (fun a => sumN (urF (m 6) (m 15) g a) n) j) (by omega)
    refine ⟨[(2, rf 0), (0, (g : Int)), (0, sumN (fun a => sumN (urF (m 6) (m 15) g a) n) (j + 1)), (0, ((j + 1 : Nat) : Int)), (0, (n : Int))], m, ?_, 0, (n : Int), by decide, rfl, rfl⟩
    have es : sumN (fun a => sumN (urF (m 6) (m 15) g a) n) (j + 1) = sumN (fun a => sumN (urF (m 6) (m 15) g a) n) j + sumN (urF (m 6) (m 15) g j) n := rfl
    rw [es]
    generalize sumN (fun a => sumN (urF (m 6) (m 15) g a) n) j = S at *
    generalize sumN (urF (m 6) (m 15) g j) n = T at *
    simp -implicitDefEqProofs (disch := omega) [kX12_unrest_0c, kX12_unrest_0b, kX12_unrest_0u, kX12_unrest_1, v_cop, v_c1, v_c2, v_c3, v_c4, v_c5, v_bin, v_bn, v_bn2, v_div, v_dv, v_dv2, v_une, v_un, v_loc, v_num, v_get, v_gt, v_ald, v_al, v_al2, v_len, v_ln, v_rl0, v_rl1, v_rl2, v_rl3, v_rl4, v_rl5, v_cmp, v_cp, v_cp2, v_zC, v_zc, v_con, v_kc, v_and, v_an1, v_an0, v_or, v_or1, v_or0, v_not, v_nt, v_boo, v_bo, v_cnd, v_cd1, v_cd0, v_cnc, v_cc1, v_cc0, v_ev0, v_ev, v_e1, v_e2, v_cve, v_cv, v_cse, v_cs, v_skip, v_seq, v_sq0, v_sq1, v_sqr, v_sts, v_st, v_inc, v_put, v_pt, v_pt2, v_fop, v_fo, v_fo2, v_ast, v_as, v_as2, v_as3, v_aop, v_ao, v_ao2, v_ao3, v_exs, v_ex, v_ifs, v_if1, v_if0, v_ret, v_rt, v_rez, v_rz, v_rev, v_brk, v_sws, v_sw, v_sw2, v_run, v_rb, v_turn, v_tu1, v_tu0, v_tu2, v_tu3, fst1, snd1, Option.map_some, Option.getD_some, enA, en, stE, okb, narV, rf_toNat, rf_nn, List.getElem?_cons_zero, List.getElem?_cons_succ, w32_id, w64_id, ite_t, ite_f, Int.toNat_add, Int.toNat_mul, dec_t, dec_f, sM_0, eb, h3', e1]) (by
    rintro env m ⟨tk, tv, h3, rfl, rfl⟩
    simp -implicitDefEqProofs (disch := omega) [kX12_unrest_0c, v_cop, v_c1, v_c2, v_c3, v_c4, v_c5, v_bin, v_bn, v_bn2, v_div, v_dv, v_dv2, v_une, v_un, v_loc, v_num, v_get, v_gt, v_ald, v_al, v_al2, v_len, v_ln, v_rl0, v_rl1, v_rl2, v_rl3, v_rl4, v_rl5, v_cmp, v_cp, v_cp2, v_zC, v_zc, v_con, v_kc, v_and, v_an1, v_an0, v_or, v_or1, v_or0, v_not, v_nt, v_boo, v_bo, v_cnd, v_cd1, v_cd0, v_cnc, v_cc1, v_cc0, v_ev0, v_ev, v_e1, v_e2, v_cve, v_cv, v_cse, v_cs, v_skip, v_seq, v_sq0, v_sq1, v_sqr, v_sts, v_st, v_inc, v_put, v_pt, v_pt2, v_fop, v_fo, v_fo2, v_ast, v_as, v_as2, v_as3, v_aop, v_ao, v_ao2, v_ao3, v_exs, v_ex, v_ifs, v_if1, v_if0, v_ret, v_rt, v_rez, v_rz, v_rev, v_brk, v_sws, v_sw, v_sw2, v_run, v_rb, v_turn, v_tu1, v_tu0, v_tu2, v_tu3, fst1, snd1, Option.map_some, Option.getD_some, enA, en, stE, okb, narV, rf_toNat, rf_nn, List.getElem?_cons_zero, List.getElem?_cons_succ, w32_id, w64_id, ite_t, ite_f, Int.toNat_add, Int.toNat_mul, dec_t, dec_f, sM_0, eb]) (env := [(2, rf 0), (0, (g : Int)), (0, 0), (0, 0), (3, 0)]) (μ := μ) ⟨3, 0, by decide, rfl, rfl⟩
  subst h4 h5
  simp -implicitDefEqProofs (disch := omega) [fX12_unrest, bX12_unrest, kX12_unrest_0, v_cop, v_c1, v_c2, v_c3, v_c4, v_c5, v_bin, v_bn, v_bn2, v_div, v_dv, v_dv2, v_une, v_un, v_loc, v_num, v_get, v_gt, v_ald, v_al, v_al2, v_len, v_ln, v_rl0, v_rl1, v_rl2, v_rl3, v_rl4, v_rl5, v_cmp, v_cp, v_cp2, v_zC, v_zc, v_con, v_kc, v_and, v_an1, v_an0, v_or, v_or1, v_or0, v_not, v_nt, v_boo, v_bo, v_cnd, v_cd1, v_cd0, v_cnc, v_cc1, v_cc0, v_ev0, v_ev, v_e1, v_e2, v_cve, v_cv, v_cse, v_cs, v_skip, v_seq, v_sq0, v_sq1, v_sqr, v_sts, v_st, v_inc, v_put, v_pt, v_pt2, v_fop, v_fo, v_fo2, v_ast, v_as, v_as2, v_as3, v_aop, v_ao, v_ao2, v_ao3, v_exs, v_ex, v_ifs, v_if1, v_if0, v_ret, v_rt, v_rez, v_rz, v_rev, v_brk, v_sws, v_sw, v_sw2, v_run, v_rb, v_turn, v_tu1, v_tu0, v_tu2, v_tu3, fst1, snd1, Option.map_some, Option.getD_some, enA, en, stE, okb, narV, rf_toNat, rf_nn, List.getElem?_cons_zero, List.getElem?_cons_succ, w32_id, w64_id, ite_t, ite_f, Int.toNat_add, Int.toNat_mul, dec_t, dec_f, lp]
set_option maxRecDepth 100000 in theorem urS_b {fl st : Nat → Int} {n P M g : Nat} (B : FB fl n P M) : 0 ≤ urS fl st n g ∧ urS fl st n g ≤ 14256 := by
  have n1 := B.n1
  exact sq_b n1 (fun a ha => row_b n1 (fun b hb => urF_b B (by omega) (by omega)))
/-- which bunches are asked for -/
def cnB (k w x g : Nat) : Bool := decide (pcN 12 g = k) && decide (g &&& w = w) && decide (g &&& x = 0)
noncomputable def pt1 (fl st : Nat → Int) (n k w x g : Nat) (r : Int × Int) : Int × Int := if cnB k w x g = true ∧ (r.1 = -1 ∨ urS fl st n g < r.2) then ((g : Int), urS fl st n g) else r
noncomputable def ptJ (fl st : Nat → Int) (n k w x : Nat) : Nat → Int × Int
  | 0 => (-1, -1)
  | g + 1 => pt1 fl st n k w x g (ptJ fl st n k w x g)
set_option maxRecDepth 100000 in theorem pt_r {fl st : Nat → Int} {n k w x : Nat} : ∀ j, ((ptJ fl st n k w x j).1 = -1 ∧ (ptJ fl st n k w x j).2 = -1) ∨ 0 ≤ (ptJ fl st n k w x j).1
  | 0 => .inl ⟨rfl, rfl⟩
  | j + 1 => by
    show ((pt1 fl st n k w x j (ptJ fl st n k w x j)).1 = -1 ∧ _) ∨ _
    unfold pt1
    have ih := pt_r (fl := fl) (st := st) (n := n) (k := k) (w := w) (x := x) j
    split
    · rename_i h
      refine .inr ?_
      show 0 ≤ (pt1 fl st n k w x j (ptJ fl st n k w x j)).1
      unfold pt1
      rw [if_pos h]
      show (0 : Int) ≤ (j : Int)
      omega
    · rename_i h
      have e : ptJ fl st n k w x (j + 1) = ptJ fl st n k w x j := by
        show pt1 fl st n k w x j (ptJ fl st n k w x j) = _
        unfold pt1
        rw [if_neg h]
      rw [e]
      exact ih
set_option maxRecDepth 100000 in theorem pt_low {fl st : Nat → Int} {n k w x : Nat} : ∀ j, j ≤ w → ptJ fl st n k w x j = (-1, -1)
  | 0, _ => rfl
  | j + 1, hj => by
    show pt1 fl st n k w x j (ptJ fl st n k w x j) = _
    rw [pt_low j (by omega)]
    unfold pt1
    rw [if_neg]
    rintro ⟨h, -⟩
    unfold cnB at h
    simp only [Bool.and_eq_true, decide_eq_true_eq] at h
    have : w ≤ j := by
      rw [← h.1.2]
      exact Nat.and_le_left
    omega
set_option maxRecDepth 100000 in theorem pc12 {g : Nat} (h : g < 4096) : pcN 16 g = pcN 12 g := pc_ge 12 4 g h
set_option maxRecDepth 100000 in theorem c_parted {μ : Mem} {h n P M k w x : Nat} {fl st : Nat → Int} (Q : GQ μ h n P M fl st) (g1 : μ 0 1 = rf h) (g4 : μ 0 4 = rf 30) (hw : w < 2 ^ n) (hx : x < 2 ^ n) (wh : Int) : ∃ t, loopS 2 3 kX11_parted_0c kX11_parted_0b kX11_parted_0u shC [(2, rf 0), (0, (k : Int)), (0, (w : Int)), (0, (x : Int)), (0, wh), (0, ((2 ^ n : Nat) : Int) - 1), (0, -1), (0, -1), (0, (w : Int)), (3, 0)] μ = some (0, 0, [(2, rf 0), (0, (k : Int)), (0, (w : Int)), (0, (x : Int)), (0, wh), (0, ((2 ^ n : Nat) : Int) - 1), (0, (ptJ fl st n k w x (2 ^ n)).1), (0, (ptJ fl st n k w x (2 ^ n)).2), (0, ((2 ^ n : Nat) : Int)), t], μ) := by
  have B := Q.2.2.2.2.2.1
  have n1 := B.n1
  have p12 : 2 ^ n ≤ 4096 := Nat.pow_le_pow_right (n := 2) (by decide) n1
  obtain ⟨D, hD⟩ : ∃ D, 2 ^ n = w + D := ⟨2 ^ n - w, by omega⟩
  obtain ⟨env', m, lp, ⟨tk, tv, h3, h4, h5⟩⟩ := loop_n (kb := 2) (kc := 3) (c := kX11_parted_0c) (body := kX11_parted_0b) (upd := kX11_parted_0u) (sh := shC) (n := D) (fun j env m => ∃ (tk : Nat) (tv : Int), tk ≠ 1 ∧ env = [(2, rf 0), (0, (k : Int)), (0, (w : Int)), (0, (x : Int)), (0, wh), (0, ((2 ^ n : Nat) : Int) - 1), (0, (ptJ fl st n k w x (w + j)).1), (0, (ptJ fl st n k w x (w + j)).2), (0, ((w + j : Nat) : Int)), (tk, tv)] ∧ m = μ) (by
    rintro j env m hj ⟨tk, tv, h3, rfl, rfl⟩
    have h3' : ¬ tk = 1 := h3
    have hg : w + j < 4096 := by omega
    have e1 := c_unrest Q g1 g4 hg
    have e2 := f_bitCount (sh := shC) (μ := m) (x := w + j) hg
    rw [pc12 hg] at e2
    have e3 := iand_nat (a := w + j) (b := w) (by omega) (by omega)
    have e4 := iand_nat (a := w + j) (b := x) (by omega) (by omega)
    have pr := pt_r (fl := fl) (st := st) (n := n) (k := k) (w := w) (x := x) (w + j)
    have ps : ptJ fl st n k w x (w + (j + 1)) = pt1 fl st n k w x (w + j) (ptJ fl st n k w x (w + j)) := rfl
    rw [ps]
    have e6 : ((w + (j + 1) : Nat) : Int) = ((w + j : Nat) : Int) + 1 := by omega
    rw [e6]
    have hle : ((w + j : Nat) : Int) ≤ ((2 ^ n : Nat) : Int) - 1 := by omega
    generalize ptJ fl st n k w x (w + j) = r at *
    obtain ⟨r1, r2⟩ := r
    dsimp only at pr
    unfold pt1 cnB
    generalize urS fl st n (w + j) = u at *
    generalize pcN 12 (w + j) = pcx at *
    generalize (w + j) &&& w = y1 at *
    generalize (w + j) &&& x = y2 at *
    generalize w + j = g at *
    generalize ((2 ^ n : Nat) : Int) - 1 = E at *
    by_cases c1 : y1 = w
    · by_cases c2 : y2 = 0
      · by_cases c3 : pcx = k
        · subst c1 c2 c3
          by_cases c4 : r1 = -1
          · subst c4
            refine ⟨_, m, ?_, 0, u, by decide, rfl, rfl⟩
            simp -implicitDefEqProofs (disch := omega) [kX11_parted_0c, kX11_parted_0b, kX11_parted_0u, v_cop, v_c1, v_c2, v_c3, v_c4, v_c5, v_bin, v_bn, v_bn2, v_div, v_dv, v_dv2, v_une, v_un, v_loc, v_num, v_get, v_gt, v_ald, v_al, v_al2, v_len, v_ln, v_rl0, v_rl1, v_rl2, v_rl3, v_rl4, v_rl5, v_cmp, v_cp, v_cp2, v_zC, v_zc, v_con, v_kc, v_and, v_an1, v_an0, v_or, v_or1, v_or0, v_not, v_nt, v_boo, v_bo, v_cnd, v_cd1, v_cd0, v_cnc, v_cc1, v_cc0, v_ev0, v_ev, v_e1, v_e2, v_cve, v_cv, v_cse, v_cs, v_skip, v_seq, v_sq0, v_sq1, v_sqr, v_sts, v_st, v_inc, v_put, v_pt, v_pt2, v_fop, v_fo, v_fo2, v_ast, v_as, v_as2, v_as3, v_aop, v_ao, v_ao2, v_ao3, v_exs, v_ex, v_ifs, v_if1, v_if0, v_ret, v_rt, v_rez, v_rz, v_rev, v_brk, v_sws, v_sw, v_sw2, v_run, v_rb, v_turn, v_tu1, v_tu0, v_tu2, v_tu3, fst1, snd1, Option.map_some, Option.getD_some, enA, en, stE, okb, narV, rf_toNat, rf_nn, List.getElem?_cons_zero, List.getElem?_cons_succ, w32_id, w64_id, ite_t, ite_f, Int.toNat_add, Int.toNat_mul, dec_t, dec_f, sC_0, e1, e2, e3, e4, h3']
          · by_cases c5 : u < r2
            · refine ⟨_, m, ?_, 0, u, by decide, rfl, rfl⟩
              simp -implicitDefEqProofs (disch := omega) [kX11_parted_0c, kX11_parted_0b, kX11_parted_0u, v_cop, v_c1, v_c2, v_c3, v_c4, v_c5, v_bin, v_bn, v_bn2, v_div, v_dv, v_dv2, v_une, v_un, v_loc, v_num, v_get, v_gt, v_ald, v_al, v_al2, v_len, v_ln, v_rl0, v_rl1, v_rl2, v_rl3, v_rl4, v_rl5, v_cmp, v_cp, v_cp2, v_zC, v_zc, v_con, v_kc, v_and, v_an1, v_an0, v_or, v_or1, v_or0, v_not, v_nt, v_boo, v_bo, v_cnd, v_cd1, v_cd0, v_cnc, v_cc1, v_cc0, v_ev0, v_ev, v_e1, v_e2, v_cve, v_cv, v_cse, v_cs, v_skip, v_seq, v_sq0, v_sq1, v_sqr, v_sts, v_st, v_inc, v_put, v_pt, v_pt2, v_fop, v_fo, v_fo2, v_ast, v_as, v_as2, v_as3, v_aop, v_ao, v_ao2, v_ao3, v_exs, v_ex, v_ifs, v_if1, v_if0, v_ret, v_rt, v_rez, v_rz, v_rev, v_brk, v_sws, v_sw, v_sw2, v_run, v_rb, v_turn, v_tu1, v_tu0, v_tu2, v_tu3, fst1, snd1, Option.map_some, Option.getD_some, enA, en, stE, okb, narV, rf_toNat, rf_nn, List.getElem?_cons_zero, List.getElem?_cons_succ, w32_id, w64_id, ite_t, ite_f, Int.toNat_add, Int.toNat_mul, dec_t, dec_f, sC_0, e1, e2, e3, e4, h3', c4, c5]
            · refine ⟨_, m, ?_, 0, u, by decide, rfl, rfl⟩
              simp -implicitDefEqProofs (disch := omega) [kX11_parted_0c, kX11_parted_0b, kX11_parted_0u, v_cop, v_c1, v_c2, v_c3, v_c4, v_c5, v_bin, v_bn, v_bn2, v_div, v_dv, v_dv2, v_une, v_un, v_loc, v_num, v_get, v_gt, v_ald, v_al, v_al2, v_len, v_ln, v_rl0, v_rl1, v_rl2, v_rl3, v_rl4, v_rl5, v_cmp, v_cp, v_cp2, v_zC, v_zc, v_con, v_kc, v_and, v_an1, v_an0, v_or, v_or1, v_or0, v_not, v_nt, v_boo, v_bo, v_cnd, v_cd1, v_cd0, v_cnc, v_cc1, v_cc0, v_ev0, v_ev, v_e1, v_e2, v_cve, v_cv, v_cse, v_cs, v_skip, v_seq, v_sq0, v_sq1, v_sqr, v_sts, v_st, v_inc, v_put, v_pt, v_pt2, v_fop, v_fo, v_fo2, v_ast, v_as, v_as2, v_as3, v_aop, v_ao, v_ao2, v_ao3, v_exs, v_ex, v_ifs, v_if1, v_if0, v_ret, v_rt, v_rez, v_rz, v_rev, v_brk, v_sws, v_sw, v_sw2, v_run, v_rb, v_turn, v_tu1, v_tu0, v_tu2, v_tu3, fst1, snd1, Option.map_some, Option.getD_some, enA, en, stE, okb, narV, rf_toNat, rf_nn, List.getElem?_cons_zero, List.getElem?_cons_succ, w32_id, w64_id, ite_t, ite_f, Int.toNat_add, Int.toNat_mul, dec_t, dec_f, sC_0, e1, e2, e3, e4, h3', c4, c5]
        · refine ⟨_, m, ?_, tk, tv, h3, rfl, rfl⟩
          simp -implicitDefEqProofs (disch := omega) [kX11_parted_0c, kX11_parted_0b, kX11_parted_0u, v_cop, v_c1, v_c2, v_c3, v_c4, v_c5, v_bin, v_bn, v_bn2, v_div, v_dv, v_dv2, v_une, v_un, v_loc, v_num, v_get, v_gt, v_ald, v_al, v_al2, v_len, v_ln, v_rl0, v_rl1, v_rl2, v_rl3, v_rl4, v_rl5, v_cmp, v_cp, v_cp2, v_zC, v_zc, v_con, v_kc, v_and, v_an1, v_an0, v_or, v_or1, v_or0, v_not, v_nt, v_boo, v_bo, v_cnd, v_cd1, v_cd0, v_cnc, v_cc1, v_cc0, v_ev0, v_ev, v_e1, v_e2, v_cve, v_cv, v_cse, v_cs, v_skip, v_seq, v_sq0, v_sq1, v_sqr, v_sts, v_st, v_inc, v_put, v_pt, v_pt2, v_fop, v_fo, v_fo2, v_ast, v_as, v_as2, v_as3, v_aop, v_ao, v_ao2, v_ao3, v_exs, v_ex, v_ifs, v_if1, v_if0, v_ret, v_rt, v_rez, v_rz, v_rev, v_brk, v_sws, v_sw, v_sw2, v_run, v_rb, v_turn, v_tu1, v_tu0, v_tu2, v_tu3, fst1, snd1, Option.map_some, Option.getD_some, enA, en, stE, okb, narV, rf_toNat, rf_nn, List.getElem?_cons_zero, List.getElem?_cons_succ, w32_id, w64_id, ite_t, ite_f, Int.toNat_add, Int.toNat_mul, dec_t, dec_f, e2, e3, e4, c1, c2, c3]
      · refine ⟨_, m, ?_, tk, tv, h3, rfl, rfl⟩
        simp -implicitDefEqProofs (disch := omega) [kX11_parted_0c, kX11_parted_0b, kX11_parted_0u, v_cop, v_c1, v_c2, v_c3, v_c4, v_c5, v_bin, v_bn, v_bn2, v_div, v_dv, v_dv2, v_une, v_un, v_loc, v_num, v_get, v_gt, v_ald, v_al, v_al2, v_len, v_ln, v_rl0, v_rl1, v_rl2, v_rl3, v_rl4, v_rl5, v_cmp, v_cp, v_cp2, v_zC, v_zc, v_con, v_kc, v_and, v_an1, v_an0, v_or, v_or1, v_or0, v_not, v_nt, v_boo, v_bo, v_cnd, v_cd1, v_cd0, v_cnc, v_cc1, v_cc0, v_ev0, v_ev, v_e1, v_e2, v_cve, v_cv, v_cse, v_cs, v_skip, v_seq, v_sq0, v_sq1, v_sqr, v_sts, v_st, v_inc, v_put, v_pt, v_pt2, v_fop, v_fo, v_fo2, v_ast, v_as, v_as2, v_as3, v_aop, v_ao, v_ao2, v_ao3, v_exs, v_ex, v_ifs, v_if1, v_if0, v_ret, v_rt, v_rez, v_rz, v_rev, v_brk, v_sws, v_sw, v_sw2, v_run, v_rb, v_turn, v_tu1, v_tu0, v_tu2, v_tu3, fst1, snd1, Option.map_some, Option.getD_some, enA, en, stE, okb, narV, rf_toNat, rf_nn, List.getElem?_cons_zero, List.getElem?_cons_succ, w32_id, w64_id, ite_t, ite_f, Int.toNat_add, Int.toNat_mul, dec_t, dec_f, e3, e4, c1, c2]
    · refine ⟨_, m, ?_, tk, tv, h3, rfl, rfl⟩
      simp -implicitDefEqProofs (disch := omega) [kX11_parted_0c, kX11_parted_0b, kX11_parted_0u, v_cop, v_c1, v_c2, v_c3, v_c4, v_c5, v_bin, v_bn, v_bn2, v_div, v_dv, v_dv2, v_une, v_un, v_loc, v_num, v_get, v_gt, v_ald, v_al, v_al2, v_len, v_ln, v_rl0, v_rl1, v_rl2, v_rl3, v_rl4, v_rl5, v_cmp, v_cp, v_cp2, v_zC, v_zc, v_con, v_kc, v_and, v_an1, v_an0, v_or, v_or1, v_or0, v_not, v_nt, v_boo, v_bo, v_cnd, v_cd1, v_cd0, v_cnc, v_cc1, v_cc0, v_ev0, v_ev, v_e1, v_e2, v_cve, v_cv, v_cse, v_cs, v_skip, v_seq, v_sq0, v_sq1, v_sqr, v_sts, v_st, v_inc, v_put, v_pt, v_pt2, v_fop, v_fo, v_fo2, v_ast, v_as, v_as2, v_as3, v_aop, v_ao, v_ao2, v_ao3, v_exs, v_ex, v_ifs, v_if1, v_if0, v_ret, v_rt, v_rez, v_rz, v_rev, v_brk, v_sws, v_sw, v_sw2, v_run, v_rb, v_turn, v_tu1, v_tu0, v_tu2, v_tu3, fst1, snd1, Option.map_some, Option.getD_some, enA, en, stE, okb, narV, rf_toNat, rf_nn, List.getElem?_cons_zero, List.getElem?_cons_succ, w32_id, w64_id, ite_t, ite_f, Int.toNat_add, Int.toNat_mul, dec_t, dec_f, e3, c1]) (by
    rintro env m ⟨tk, tv, h3, rfl, rfl⟩
    have hle : ¬ ((w + D : Nat) : Int) ≤ ((2 ^ n : Nat) : Int) - 1 := by omega
    generalize ((2 ^ n : Nat) : Int) - 1 = E at *
    generalize w + D = g at *
    simp -implicitDefEqProofs (disch := omega) [kX11_parted_0c, v_cop, v_c1, v_c2, v_c3, v_c4, v_c5, v_bin, v_bn, v_bn2, v_div, v_dv, v_dv2, v_une, v_un, v_loc, v_num, v_get, v_gt, v_ald, v_al, v_al2, v_len, v_ln, v_rl0, v_rl1, v_rl2, v_rl3, v_rl4, v_rl5, v_cmp, v_cp, v_cp2, v_zC, v_zc, v_con, v_kc, v_and, v_an1, v_an0, v_or, v_or1, v_or0, v_not, v_nt, v_boo, v_bo, v_cnd, v_cd1, v_cd0, v_cnc, v_cc1, v_cc0, v_ev0, v_ev, v_e1, v_e2, v_cve, v_cv, v_cse, v_cs, v_skip, v_seq, v_sq0, v_sq1, v_sqr, v_sts, v_st, v_inc, v_put, v_pt, v_pt2, v_fop, v_fo, v_fo2, v_ast, v_as, v_as2, v_as3, v_aop, v_ao, v_ao2, v_ao3, v_exs, v_ex, v_ifs, v_if1, v_if0, v_ret, v_rt, v_rez, v_rz, v_rev, v_brk, v_sws, v_sw, v_sw2, v_run, v_rb, v_turn, v_tu1, v_tu0, v_tu2, v_tu3, fst1, snd1, Option.map_some, Option.getD_some, enA, en, stE, okb, narV, rf_toNat, rf_nn, List.getElem?_cons_zero, List.getElem?_cons_succ, w32_id, w64_id, ite_t, ite_f, Int.toNat_add, Int.toNat_mul, dec_t, dec_f]) (env := [(2, rf 0), (0, (k : Int)), (0, (w : Int)), (0, (x : Int)), (0, wh), (0, ((2 ^ n : Nat) : Int) - 1), (0, -1), (0, -1), (0, (w : Int)), (3, 0)]) (μ := μ) ⟨3, 0, by decide, by rw [show w + 0 = w from rfl, pt_low w (Nat.le_refl w)], rfl⟩
  subst h4 h5
  rw [← hD] at lp
  exact ⟨(tk, tv), lp⟩
noncomputable def ptR (r : Int × Int) : Int := if r.1 = -1 then 100000000 else r.2
set_option maxRecDepth 100000 in theorem r_parted {μ : Mem} {n P M k w x : Nat} (p : PM μ) (B : FB (μ 6) n P M) (hw : w < 2 ^ n) (hx : x < 2 ^ n) (wh v6 : Int) : loopS 2 3 kX12_parted_0c kX12_parted_0b kX12_parted_0u shM [(2, rf 0), (0, (k : Int)), (0, (w : Int)), (0, (x : Int)), (0, wh), (0, ((2 ^ n : Nat) : Int)), (0, v6), (0, -1), (0, 100000000), (0, 0)] μ = some (0, 0, [(2, rf 0), (0, (k : Int)), (0, (w : Int)), (0, (x : Int)), (0, wh), (0, ((2 ^ n : Nat) : Int)), (0, v6), (0, (ptJ (μ 6) (μ 15) n k w x (2 ^ n)).1), (0, ptR (ptJ (μ 6) (μ 15) n k w x (2 ^ n))), (0, ((2 ^ n : Nat) : Int))], μ) := by
  have n1 := B.n1
  have p12 : 2 ^ n ≤ 4096 := Nat.pow_le_pow_right (n := 2) (by decide) n1
  generalize hN : 2 ^ n = N at *
  have lp := loop_run (kb := 2) (kc := 3) (c := kX12_parted_0c) (body := kX12_parted_0b) (upd := kX12_parted_0u) (sh := shM) (fun j => [(2, rf 0), (0, (k : Int)), (0, (w : Int)), (0, (x : Int)), (0, wh), (0, (N : Int)), (0, v6), (0, (ptJ (μ 6) (μ 15) n k w x j).1), (0, ptR (ptJ (μ 6) (μ 15) n k w x j)), (0, (j : Int))]) (fun _ => μ) (r := (0, 0, [(2, rf 0), (0, (k : Int)), (0, (w : Int)), (0, (x : Int)), (0, wh), (0, (N : Int)), (0, v6), (0, (ptJ (μ 6) (μ 15) n k w x N).1), (0, ptR (ptJ (μ 6) (μ 15) n k w x N)), (0, (N : Int))], μ)) N (by
    intro g hj
    have hg : g < 4096 := by omega
    have e1 := r_unrest p B hg
    have ub := urS_b (st := μ 15) (g := g) B
    have e2 := r_bits (sh := shM) (μ := μ) hg
    have e3 := iand_nat (a := g) (b := w) (by omega) (by omega)
    have e4 := iand_nat (a := g) (b := x) (by omega) (by omega)
    have pr := pt_r (fl := μ 6) (st := μ 15) (n := n) (k := k) (w := w) (x := x) g
    have ps : ptJ (μ 6) (μ 15) n k w x (g + 1) = pt1 (μ 6) (μ 15) n k w x g (ptJ (μ 6) (μ 15) n k w x g) := rfl
    rw [ps]
    generalize ptJ (μ 6) (μ 15) n k w x g = r at *
    obtain ⟨r1, r2⟩ := r
    dsimp only at pr
    unfold pt1 cnB ptR
    generalize urS (μ 6) (μ 15) n g = u at *
    generalize pcN 12 g = pcx at *
    generalize g &&& w = y1 at *
    generalize g &&& x = y2 at *
    by_cases c3 : pcx = k
    · by_cases c1 : y1 = w
      · by_cases c2 : y2 = 0
        · subst c1 c2 c3
          by_cases c4 : r1 = -1
          · subst c4
            simp -implicitDefEqProofs (disch := omega) [kX12_parted_0c, kX12_parted_0b, kX12_parted_0u, v_cop, v_c1, v_c2, v_c3, v_c4, v_c5, v_bin, v_bn, v_bn2, v_div, v_dv, v_dv2, v_une, v_un, v_loc, v_num, v_get, v_gt, v_ald, v_al, v_al2, v_len, v_ln, v_rl0, v_rl1, v_rl2, v_rl3, v_rl4, v_rl5, v_cmp, v_cp, v_cp2, v_zC, v_zc, v_con, v_kc, v_and, v_an1, v_an0, v_or, v_or1, v_or0, v_not, v_nt, v_boo, v_bo, v_cnd, v_cd1, v_cd0, v_cnc, v_cc1, v_cc0, v_ev0, v_ev, v_e1, v_e2, v_cve, v_cv, v_cse, v_cs, v_skip, v_seq, v_sq0, v_sq1, v_sqr, v_sts, v_st, v_inc, v_put, v_pt, v_pt2, v_fop, v_fo, v_fo2, v_ast, v_as, v_as2, v_as3, v_aop, v_ao, v_ao2, v_ao3, v_exs, v_ex, v_ifs, v_if1, v_if0, v_ret, v_rt, v_rez, v_rz, v_rev, v_brk, v_sws, v_sw, v_sw2, v_run, v_rb, v_turn, v_tu1, v_tu0, v_tu2, v_tu3, fst1, snd1, Option.map_some, Option.getD_some, enA, en, stE, okb, narV, rf_toNat, rf_nn, List.getElem?_cons_zero, List.getElem?_cons_succ, w32_id, w64_id, ite_t, ite_f, Int.toNat_add, Int.toNat_mul, dec_t, dec_f, sM_0, e1, e2, e3, e4] <;> omega
          · by_cases c5 : u < r2
            · simp -implicitDefEqProofs (disch := omega) [kX12_parted_0c, kX12_parted_0b, kX12_parted_0u, v_cop, v_c1, v_c2, v_c3, v_c4, v_c5, v_bin, v_bn, v_bn2, v_div, v_dv, v_dv2, v_une, v_un, v_loc, v_num, v_get, v_gt, v_ald, v_al, v_al2, v_len, v_ln, v_rl0, v_rl1, v_rl2, v_rl3, v_rl4, v_rl5, v_cmp, v_cp, v_cp2, v_zC, v_zc, v_con, v_kc, v_and, v_an1, v_an0, v_or, v_or1, v_or0, v_not, v_nt, v_boo, v_bo, v_cnd, v_cd1, v_cd0, v_cnc, v_cc1, v_cc0, v_ev0, v_ev, v_e1, v_e2, v_cve, v_cv, v_cse, v_cs, v_skip, v_seq, v_sq0, v_sq1, v_sqr, v_sts, v_st, v_inc, v_put, v_pt, v_pt2, v_fop, v_fo, v_fo2, v_ast, v_as, v_as2, v_as3, v_aop, v_ao, v_ao2, v_ao3, v_exs, v_ex, v_ifs, v_if1, v_if0, v_ret, v_rt, v_rez, v_rz, v_rev, v_brk, v_sws, v_sw, v_sw2, v_run, v_rb, v_turn, v_tu1, v_tu0, v_tu2, v_tu3, fst1, snd1, Option.map_some, Option.getD_some, enA, en, stE, okb, narV, rf_toNat, rf_nn, List.getElem?_cons_zero, List.getElem?_cons_succ, w32_id, w64_id, ite_t, ite_f, Int.toNat_add, Int.toNat_mul, dec_t, dec_f, sM_0, e1, e2, e3, e4, c4, c5] <;> omega
            · simp -implicitDefEqProofs (disch := omega) [kX12_parted_0c, kX12_parted_0b, kX12_parted_0u, v_cop, v_c1, v_c2, v_c3, v_c4, v_c5, v_bin, v_bn, v_bn2, v_div, v_dv, v_dv2, v_une, v_un, v_loc, v_num, v_get, v_gt, v_ald, v_al, v_al2, v_len, v_ln, v_rl0, v_rl1, v_rl2, v_rl3, v_rl4, v_rl5, v_cmp, v_cp, v_cp2, v_zC, v_zc, v_con, v_kc, v_and, v_an1, v_an0, v_or, v_or1, v_or0, v_not, v_nt, v_boo, v_bo, v_cnd, v_cd1, v_cd0, v_cnc, v_cc1, v_cc0, v_ev0, v_ev, v_e1, v_e2, v_cve, v_cv, v_cse, v_cs, v_skip, v_seq, v_sq0, v_sq1, v_sqr, v_sts, v_st, v_inc, v_put, v_pt, v_pt2, v_fop, v_fo, v_fo2, v_ast, v_as, v_as2, v_as3, v_aop, v_ao, v_ao2, v_ao3, v_exs, v_ex, v_ifs, v_if1, v_if0, v_ret, v_rt, v_rez, v_rz, v_rev, v_brk, v_sws, v_sw, v_sw2, v_run, v_rb, v_turn, v_tu1, v_tu0, v_tu2, v_tu3, fst1, snd1, Option.map_some, Option.getD_some, enA, en, stE, okb, narV, rf_toNat, rf_nn, List.getElem?_cons_zero, List.getElem?_cons_succ, w32_id, w64_id, ite_t, ite_f, Int.toNat_add, Int.toNat_mul, dec_t, dec_f, sM_0, e1, e2, e3, e4, c4, c5]
        · simp -implicitDefEqProofs (disch := omega) [kX12_parted_0c, kX12_parted_0b, kX12_parted_0u, v_cop, v_c1, v_c2, v_c3, v_c4, v_c5, v_bin, v_bn, v_bn2, v_div, v_dv, v_dv2, v_une, v_un, v_loc, v_num, v_get, v_gt, v_ald, v_al, v_al2, v_len, v_ln, v_rl0, v_rl1, v_rl2, v_rl3, v_rl4, v_rl5, v_cmp, v_cp, v_cp2, v_zC, v_zc, v_con, v_kc, v_and, v_an1, v_an0, v_or, v_or1, v_or0, v_not, v_nt, v_boo, v_bo, v_cnd, v_cd1, v_cd0, v_cnc, v_cc1, v_cc0, v_ev0, v_ev, v_e1, v_e2, v_cve, v_cv, v_cse, v_cs, v_skip, v_seq, v_sq0, v_sq1, v_sqr, v_sts, v_st, v_inc, v_put, v_pt, v_pt2, v_fop, v_fo, v_fo2, v_ast, v_as, v_as2, v_as3, v_aop, v_ao, v_ao2, v_ao3, v_exs, v_ex, v_ifs, v_if1, v_if0, v_ret, v_rt, v_rez, v_rz, v_rev, v_brk, v_sws, v_sw, v_sw2, v_run, v_rb, v_turn, v_tu1, v_tu0, v_tu2, v_tu3, fst1, snd1, Option.map_some, Option.getD_some, enA, en, stE, okb, narV, rf_toNat, rf_nn, List.getElem?_cons_zero, List.getElem?_cons_succ, w32_id, w64_id, ite_t, ite_f, Int.toNat_add, Int.toNat_mul, dec_t, dec_f, e2, e3, e4, c1, c2, c3]
      · simp -implicitDefEqProofs (disch := omega) [kX12_parted_0c, kX12_parted_0b, kX12_parted_0u, v_cop, v_c1, v_c2, v_c3, v_c4, v_c5, v_bin, v_bn, v_bn2, v_div, v_dv, v_dv2, v_une, v_un, v_loc, v_num, v_get, v_gt, v_ald, v_al, v_al2, v_len, v_ln, v_rl0, v_rl1, v_rl2, v_rl3, v_rl4, v_rl5, v_cmp, v_cp, v_cp2, v_zC, v_zc, v_con, v_kc, v_and, v_an1, v_an0, v_or, v_or1, v_or0, v_not, v_nt, v_boo, v_bo, v_cnd, v_cd1, v_cd0, v_cnc, v_cc1, v_cc0, v_ev0, v_ev, v_e1, v_e2, v_cve, v_cv, v_cse, v_cs, v_skip, v_seq, v_sq0, v_sq1, v_sqr, v_sts, v_st, v_inc, v_put, v_pt, v_pt2, v_fop, v_fo, v_fo2, v_ast, v_as, v_as2, v_as3, v_aop, v_ao, v_ao2, v_ao3, v_exs, v_ex, v_ifs, v_if1, v_if0, v_ret, v_rt, v_rez, v_rz, v_rev, v_brk, v_sws, v_sw, v_sw2, v_run, v_rb, v_turn, v_tu1, v_tu0, v_tu2, v_tu3, fst1, snd1, Option.map_some, Option.getD_some, enA, en, stE, okb, narV, rf_toNat, rf_nn, List.getElem?_cons_zero, List.getElem?_cons_succ, w32_id, w64_id, ite_t, ite_f, Int.toNat_add, Int.toNat_mul, dec_t, dec_f, e2, e3, c1, c3]
    · simp -implicitDefEqProofs (disch := omega) [kX12_parted_0c, kX12_parted_0b, kX12_parted_0u, v_cop, v_c1, v_c2, v_c3, v_c4, v_c5, v_bin, v_bn, v_bn2, v_div, v_dv, v_dv2, v_une, v_un, v_loc, v_num, v_get, v_gt, v_ald, v_al, v_al2, v_len, v_ln, v_rl0, v_rl1, v_rl2, v_rl3, v_rl4, v_rl5, v_cmp, v_cp, v_cp2, v_zC, v_zc, v_con, v_kc, v_and, v_an1, v_an0, v_or, v_or1, v_or0, v_not, v_nt, v_boo, v_bo, v_cnd, v_cd1, v_cd0, v_cnc, v_cc1, v_cc0, v_ev0, v_ev, v_e1, v_e2, v_cve, v_cv, v_cse, v_cs, v_skip, v_seq, v_sq0, v_sq1, v_sqr, v_sts, v_st, v_inc, v_put, v_pt, v_pt2, v_fop, v_fo, v_fo2, v_ast, v_as, v_as2, v_as3, v_aop, v_ao, v_ao2, v_ao3, v_exs, v_ex, v_ifs, v_if1, v_if0, v_ret, v_rt, v_rez, v_rz, v_rev, v_brk, v_sws, v_sw, v_sw2, v_run, v_rb, v_turn, v_tu1, v_tu0, v_tu2, v_tu3, fst1, snd1, Option.map_some, Option.getD_some, enA, en, stE, okb, narV, rf_toNat, rf_nn, List.getElem?_cons_zero, List.getElem?_cons_succ, w32_id, w64_id, ite_t, ite_f, Int.toNat_add, Int.toNat_mul, dec_t, dec_f, e2, c3]) (by simp -implicitDefEqProofs (disch := omega) [kX12_parted_0c, v_cop, v_c1, v_c2, v_c3, v_c4, v_c5, v_bin, v_bn, v_bn2, v_div, v_dv, v_dv2, v_une, v_un, v_loc, v_num, v_get, v_gt, v_ald, v_al, v_al2, v_len, v_ln, v_rl0, v_rl1, v_rl2, v_rl3, v_rl4, v_rl5, v_cmp, v_cp, v_cp2, v_zC, v_zc, v_con, v_kc, v_and, v_an1, v_an0, v_or, v_or1, v_or0, v_not, v_nt, v_boo, v_bo, v_cnd, v_cd1, v_cd0, v_cnc, v_cc1, v_cc0, v_ev0, v_ev, v_e1, v_e2, v_cve, v_cv, v_cse, v_cs, v_skip, v_seq, v_sq0, v_sq1, v_sqr, v_sts, v_st, v_inc, v_put, v_pt, v_pt2, v_fop, v_fo, v_fo2, v_ast, v_as, v_as2, v_as3, v_aop, v_ao, v_ao2, v_ao3, v_exs, v_ex, v_ifs, v_if1, v_if0, v_ret, v_rt, v_rez, v_rz, v_rev, v_brk, v_sws, v_sw, v_sw2, v_run, v_rb, v_turn, v_tu1, v_tu0, v_tu2, v_tu3, fst1, snd1, Option.map_some, Option.getD_some, enA, en, stE, okb, narV, rf_toNat, rf_nn, List.getElem?_cons_zero, List.getElem?_cons_succ, w32_id, w64_id, ite_t, ite_f, Int.toNat_add, Int.toNat_mul, dec_t, dec_f])
  exact lp
set_option maxRecDepth 100000 in theorem msb_i (a : Int) (h : -2147483648 ≤ a ∧ a < 2147483648) : (Int32.ofInt a).toBitVec.msb = decide (a < 0) := by
  rw [BitVec.msb_eq_toInt]
  have : (Int32.ofInt a).toBitVec.toInt = a := by
    show (Int32.ofInt a).toInt = a
    rw [i32_to]
    exact w32_id h
  rw [this]
set_option maxRecDepth 100000 in theorem iand_neg {a b : Int} (ha : -2147483648 ≤ a ∧ a < 0) (hb : -2147483648 ≤ b ∧ b < 0) : o_iand a b ≠ 0 := by
  unfold o_iand
  rw [opq_eq]
  intro h
  have m1 := msb_i a ⟨by omega, by omega⟩
  have m2 := msb_i b ⟨by omega, by omega⟩
  have m3 : ((Int32.ofInt a &&& Int32.ofInt b)).toBitVec.msb = true := by
    rw [Int32.toBitVec_and, BitVec.msb_and, m1, m2, decide_eq_true ha.2, decide_eq_true hb.2]
    rfl
  rw [BitVec.msb_eq_toInt] at m3
  have h' : (Int32.ofInt a &&& Int32.ofInt b).toBitVec.toInt = 0 := h
  rw [h'] at m3
  simp at m3
set_option maxRecDepth 100000 in theorem ior_neg {a b : Int} (ha : -2147483648 ≤ a ∧ a < 2147483648) (hb : -2147483648 ≤ b ∧ b < 2147483648) (h : a < 0 ∨ b < 0) : -2147483648 ≤ o_ior a b ∧ o_ior a b < 0 := by
  unfold o_ior
  rw [opq_eq]
  have m1 := msb_i a ha
  have m2 := msb_i b hb
  have m3 : ((Int32.ofInt a ||| Int32.ofInt b)).toBitVec.msb = true := by
    rw [Int32.toBitVec_or, BitVec.msb_or, m1, m2]
    rcases h with h | h
    · rw [decide_eq_true h]; rfl
    · rw [decide_eq_true h, Bool.or_true]
  rw [BitVec.msb_eq_toInt] at m3
  have m4 := of_decide_eq_true m3
  have m5 := Int32.le_toInt (Int32.ofInt a ||| Int32.ofInt b)
  exact ⟨m5, m4⟩
set_option maxRecDepth 100000 in theorem told_iff {n : Nat} {a b : Int} (hn : n ≤ 12) (ha : -2147483648 ≤ a ∧ a < 2147483648) (hb : -2147483648 ≤ b ∧ b < 2147483648) : o_iand (o_ior a b) (o_ixor (((2 ^ n : Nat) : Int) - 1) (-1)) = 0 ↔ (0 ≤ a ∧ a < ((2 ^ n : Nat) : Int)) ∧ (0 ≤ b ∧ b < ((2 ^ n : Nat) : Int)) := by
  have p12 : 2 ^ n ≤ 4096 := Nat.pow_le_pow_right (n := 2) (by decide) hn
  have p1 : 1 ≤ 2 ^ n := Nat.one_le_two_pow
  have e1 : o_ixor (((2 ^ n : Nat) : Int) - 1) (-1) = -1 - ((2 ^ n - 1 : Nat) : Int) := by
    rw [inot_int ⟨by omega, by omega⟩]
    omega
  rw [e1]
  by_cases c : a < 0 ∨ b < 0
  · have h1 := ior_neg ha hb c
    have h2 := iand_neg (a := o_ior a b) (b := -1 - ((2 ^ n - 1 : Nat) : Int)) ⟨h1.1, h1.2⟩ ⟨by omega, by omega⟩
    exact ⟨fun z => absurd z h2, fun z => by omega⟩
  · obtain ⟨x, rfl⟩ := Int.eq_ofNat_of_zero_le (show 0 ≤ a by omega)
    obtain ⟨y, rfl⟩ := Int.eq_ofNat_of_zero_le (show 0 ≤ b by omega)
    have lt : x ||| y < 2147483648 := Nat.or_lt_two_pow (n := 31) (by omega) (by omega)
    rw [ior_nat (by omega) (by omega), iandn_nat lt (by omega)]
    have e2 : (x ||| y) ^^^ ((x ||| y) &&& (2 ^ n - 1)) = andn (x ||| y) (2 ^ n - 1) := rfl
    rw [e2]
    have e3 : ((andn (x ||| y) (2 ^ n - 1) : Nat) : Int) = 0 ↔ (x ||| y) &&& (2 ^ n - 1) = (x ||| y) := by rw [← andn0]; omega
    rw [e3, Nat.and_two_pow_sub_one_eq_mod]
    constructor
    · intro h
      have h1 : x ||| y < 2 ^ n := by rw [← h]; exact Nat.mod_lt _ (by omega)
      have h2 : x ≤ x ||| y := Nat.left_le_or
      have h3 : y ≤ x ||| y := Nat.right_le_or
      omega
    · intro h
      exact Nat.mod_eq_of_lt (Nat.or_lt_two_pow (by omega) (by omega))
set_option maxRecDepth 100000 in theorem st_parted (a b c e : Int) (ha : r32 a) (hb : r32 b) (hc : r32 c) (he : r32 e) : STP RR fX11_parted fX12_parted [(0, a), (0, b), (0, c), (0, e)] := by
  refine STP.rd (fun μC μM h d n P M R => ?_)
  have th := ud_same R.th
  have n1 := R.fb.n1
  have o := (R.pc.fl R.hd).1
  have hbe : μC h 1 = (n : Int) := R.fr.be.trans R.fb.n0
  have eb := r_beasts R.pm
  rw [R.fb.n0] at eb
  obtain ⟨e2, p2⟩ := sh_n n1
  have p1 : 1 ≤ 2 ^ n := Nat.one_le_two_pow
  have tf := told_iff n1 hb hc
  have w1 := r_within shM μM a 0 (n : Int)
  have w2 := r_within shM μM e 0 1
  have hz : w32 (((2 ^ n : Nat) : Int) - 1) = ((2 ^ n : Nat) : Int) - 1 := w32_id ⟨by omega, by omega⟩
  have five : stS 5 0 (binE (fun x y => w32 (x - y)) (binE o_ishl (numE 1) (getE 1 1 0 (getE 11 1 2 (locE 2 0)))) (numE 1)) shC [(2, rf 0), (0, a), (0, b), (0, c), (0, e), (3, 0), (3, 0), (3, 0), (3, 0), (3, 0)] μC = some (0, 0, [(2, rf 0), (0, a), (0, b), (0, c), (0, e), (0, ((2 ^ n : Nat) : Int) - 1), (3, 0), (3, 0), (3, 0), (3, 0)], μC) := by
    generalize ((2 ^ n : Nat) : Int) = NN at *
    simp -implicitDefEqProofs [-w32_id, v_cop, v_c1, v_c2, v_c3, v_c4, v_c5, v_bin, v_bn, v_bn2, v_div, v_dv, v_dv2, v_une, v_un, v_loc, v_num, v_get, v_gt, v_ald, v_al, v_al2, v_len, v_ln, v_rl0, v_rl1, v_rl2, v_rl3, v_rl4, v_rl5, v_cmp, v_cp, v_cp2, v_zC, v_zc, v_con, v_kc, v_and, v_an1, v_an0, v_or, v_or1, v_or0, v_not, v_nt, v_boo, v_bo, v_cnd, v_cd1, v_cd0, v_cnc, v_cc1, v_cc0, v_ev0, v_ev, v_e1, v_e2, v_cve, v_cv, v_cse, v_cs, v_skip, v_seq, v_sq0, v_sq1, v_sqr, v_sts, v_st, v_inc, v_put, v_pt, v_pt2, v_fop, v_fo, v_fo2, v_ast, v_as, v_as2, v_as3, v_aop, v_ao, v_ao2, v_ao3, v_exs, v_ex, v_ifs, v_if1, v_if0, v_ret, v_rt, v_rez, v_rz, v_rev, v_brk, v_sws, v_sw, v_sw2, v_run, v_rb, v_turn, v_tu1, v_tu0, v_tu2, v_tu3, fst1, snd1, Option.map_some, Option.getD_some, enA, en, stE, okb, narV, rf_toNat, rf_nn, List.getElem?_cons_zero, List.getElem?_cons_succ, w32_id, w64_id, ite_t, ite_f, Int.toNat_add, Int.toNat_mul, dec_t, dec_f, sC_0, R.hd.2.1, o, hbe, e2, hz]
  generalize hE : ((2 ^ n : Nat) : Int) - 1 = E at *
  by_cases g1 : (0 ≤ a ∧ a ≤ (n : Int)) ∧ (0 ≤ e ∧ e ≤ 1)
  · have ga : ifS (orC (orC (orC (zC 2 (locE 0 1)) (cmpC 4 (locE 0 1) (getE 1 1 0 (getE 11 1 2 (locE 2 0))))) (zC 2 (locE 0 4))) (cmpC 4 (locE 0 4) (numE 1))) (retS (numE (-1))) skipS shC [(2, rf 0), (0, a), (0, b), (0, c), (0, e), (0, E), (3, 0), (3, 0), (3, 0), (3, 0)] μC = some (0, 0, [(2, rf 0), (0, a), (0, b), (0, c), (0, e), (0, E), (3, 0), (3, 0), (3, 0), (3, 0)], μC) := by
      simp -implicitDefEqProofs (disch := omega) [v_cop, v_c1, v_c2, v_c3, v_c4, v_c5, v_bin, v_bn, v_bn2, v_div, v_dv, v_dv2, v_une, v_un, v_loc, v_num, v_get, v_gt, v_ald, v_al, v_al2, v_len, v_ln, v_rl0, v_rl1, v_rl2, v_rl3, v_rl4, v_rl5, v_cmp, v_cp, v_cp2, v_zC, v_zc, v_con, v_kc, v_and, v_an1, v_an0, v_or, v_or1, v_or0, v_not, v_nt, v_boo, v_bo, v_cnd, v_cd1, v_cd0, v_cnc, v_cc1, v_cc0, v_ev0, v_ev, v_e1, v_e2, v_cve, v_cv, v_cse, v_cs, v_skip, v_seq, v_sq0, v_sq1, v_sqr, v_sts, v_st, v_inc, v_put, v_pt, v_pt2, v_fop, v_fo, v_fo2, v_ast, v_as, v_as2, v_as3, v_aop, v_ao, v_ao2, v_ao3, v_exs, v_ex, v_ifs, v_if1, v_if0, v_ret, v_rt, v_rez, v_rz, v_rev, v_brk, v_sws, v_sw, v_sw2, v_run, v_rb, v_turn, v_tu1, v_tu0, v_tu2, v_tu3, fst1, snd1, Option.map_some, Option.getD_some, enA, en, stE, okb, narV, rf_toNat, rf_nn, List.getElem?_cons_zero, List.getElem?_cons_succ, w32_id, w64_id, ite_t, ite_f, Int.toNat_add, Int.toNat_mul, dec_t, dec_f, sC_0, R.hd.2.1, o, hbe]
    rw [if_pos g1.1] at w1
    rw [if_pos g1.2] at w2
    by_cases g2 : ((0 ≤ b ∧ b < ((2 ^ n : Nat) : Int)) ∧ (0 ≤ c ∧ c < ((2 ^ n : Nat) : Int))) ∧ o_iand b c = 0
    · obtain ⟨k, rfl⟩ := Int.eq_ofNat_of_zero_le g1.1.1
      obtain ⟨w, rfl⟩ := Int.eq_ofNat_of_zero_le g2.1.1.1
      obtain ⟨x, rfl⟩ := Int.eq_ofNat_of_zero_le g2.1.2.1
      try simp only [Int.ofNat_eq_natCast] at *
      have q1 := tf.mpr g2.1
      have q2 := g2.2
      obtain ⟨t, lc⟩ := c_parted (k := k) R.gq R.hd.2.1 R.pc.p0_4 (w := w) (x := x) (by omega) (by omega) e
      have lr := r_parted (k := k) R.pm R.fb (w := w) (x := x) (by omega) (by omega) e 1
      rw [hE] at lc
      have pr := pt_r (fl := μM 6) (st := μM 15) (n := n) (k := k) (w := w) (x := x) (2 ^ n)
      have gc : ifS (orC (zC 1 (binE o_iand (binE o_ior (locE 0 2) (locE 0 3)) (binE o_ixor (locE 0 5) (numE (-1))))) (zC 1 (binE o_iand (locE 0 2) (locE 0 3)))) (retS (numE (-1))) skipS shC [(2, rf 0), (0, (k : Int)), (0, (w : Int)), (0, (x : Int)), (0, e), (0, E), (3, 0), (3, 0), (3, 0), (3, 0)] μC = some (0, 0, [(2, rf 0), (0, (k : Int)), (0, (w : Int)), (0, (x : Int)), (0, e), (0, E), (3, 0), (3, 0), (3, 0), (3, 0)], μC) := by
        simp -implicitDefEqProofs (disch := omega) [v_cop, v_c1, v_c2, v_c3, v_c4, v_c5, v_bin, v_bn, v_bn2, v_div, v_dv, v_dv2, v_une, v_un, v_loc, v_num, v_get, v_gt, v_ald, v_al, v_al2, v_len, v_ln, v_rl0, v_rl1, v_rl2, v_rl3, v_rl4, v_rl5, v_cmp, v_cp, v_cp2, v_zC, v_zc, v_con, v_kc, v_and, v_an1, v_an0, v_or, v_or1, v_or0, v_not, v_nt, v_boo, v_bo, v_cnd, v_cd1, v_cd0, v_cnc, v_cc1, v_cc0, v_ev0, v_ev, v_e1, v_e2, v_cve, v_cv, v_cse, v_cs, v_skip, v_seq, v_sq0, v_sq1, v_sqr, v_sts, v_st, v_inc, v_put, v_pt, v_pt2, v_fop, v_fo, v_fo2, v_ast, v_as, v_as2, v_as3, v_aop, v_ao, v_ao2, v_ao3, v_exs, v_ex, v_ifs, v_if1, v_if0, v_ret, v_rt, v_rez, v_rz, v_rev, v_brk, v_sws, v_sw, v_sw2, v_run, v_rb, v_turn, v_tu1, v_tu0, v_tu2, v_tu3, fst1, snd1, Option.map_some, Option.getD_some, enA, en, stE, okb, narV, rf_toNat, rf_nn, List.getElem?_cons_zero, List.getElem?_cons_succ, w32_id, w64_id, ite_t, ite_f, Int.toNat_add, Int.toNat_mul, dec_t, dec_f, q1, q2]
      generalize ptJ (μM 6) (μM 15) n k w x (2 ^ n) = r at *
      obtain ⟨r1, r2⟩ := r
      dsimp only at pr lc lr
      have six : boolE (andC (andC (andC (andC (zC 3 (locE 0 2)) (cmpC 2 (locE 0 2) (locE 0 5))) (zC 3 (locE 0 3))) (cmpC 2 (locE 0 3) (locE 0 5))) (zC 0 (binE o_iand (locE 0 2) (locE 0 3)))) shM [(2, rf 0), (0, (k : Int)), (0, (w : Int)), (0, (x : Int)), (0, e), (0, ((2 ^ n : Nat) : Int)), (3, 0), (3, 0), (3, 0), (3, 0)] μM = some (1, μM) := by
        generalize ((2 ^ n : Nat) : Int) = NN at *
        simp -implicitDefEqProofs (disch := omega) [v_cop, v_c1, v_c2, v_c3, v_c4, v_c5, v_bin, v_bn, v_bn2, v_div, v_dv, v_dv2, v_une, v_un, v_loc, v_num, v_get, v_gt, v_ald, v_al, v_al2, v_len, v_ln, v_rl0, v_rl1, v_rl2, v_rl3, v_rl4, v_rl5, v_cmp, v_cp, v_cp2, v_zC, v_zc, v_con, v_kc, v_and, v_an1, v_an0, v_or, v_or1, v_or0, v_not, v_nt, v_boo, v_bo, v_cnd, v_cd1, v_cd0, v_cnc, v_cc1, v_cc0, v_ev0, v_ev, v_e1, v_e2, v_cve, v_cv, v_cse, v_cs, v_skip, v_seq, v_sq0, v_sq1, v_sqr, v_sts, v_st, v_inc, v_put, v_pt, v_pt2, v_fop, v_fo, v_fo2, v_ast, v_as, v_as2, v_as3, v_aop, v_ao, v_ao2, v_ao3, v_exs, v_ex, v_ifs, v_if1, v_if0, v_ret, v_rt, v_rez, v_rz, v_rev, v_brk, v_sws, v_sw, v_sw2, v_run, v_rb, v_turn, v_tu1, v_tu0, v_tu2, v_tu3, fst1, snd1, Option.map_some, Option.getD_some, enA, en, stE, okb, narV, rf_toNat, rf_nn, List.getElem?_cons_zero, List.getElem?_cons_succ, w32_id, w64_id, ite_t, ite_f, Int.toNat_add, Int.toNat_mul, dec_t, dec_f, q2]
      refine ⟨if e = 0 then r2 else r1, ?_, ?_⟩
      · have body : bX11_parted shC [(2, rf 0), (0, (k : Int)), (0, (w : Int)), (0, (x : Int)), (0, e), (3, 0), (3, 0), (3, 0), (3, 0), (3, 0)] μC = some (1, if e = 0 then r2 else r1, [(2, rf 0), (0, (k : Int)), (0, (w : Int)), (0, (x : Int)), (0, e), (0, E), (0, r1), (0, r2), (0, ((2 ^ n : Nat) : Int)), t], μC) := by
          unfold bX11_parted
          rw [v_seq, five, v_sq0, v_seq, ga, v_sq0, v_seq, gc, v_sq0]
          generalize ((2 ^ n : Nat) : Int) = NN at *
          by_cases c0 : e = 0
          · subst c0
            simp -implicitDefEqProofs (disch := omega) [kX11_parted_0, v_cop, v_c1, v_c2, v_c3, v_c4, v_c5, v_bin, v_bn, v_bn2, v_div, v_dv, v_dv2, v_une, v_un, v_loc, v_num, v_get, v_gt, v_ald, v_al, v_al2, v_len, v_ln, v_rl0, v_rl1, v_rl2, v_rl3, v_rl4, v_rl5, v_cmp, v_cp, v_cp2, v_zC, v_zc, v_con, v_kc, v_and, v_an1, v_an0, v_or, v_or1, v_or0, v_not, v_nt, v_boo, v_bo, v_cnd, v_cd1, v_cd0, v_cnc, v_cc1, v_cc0, v_ev0, v_ev, v_e1, v_e2, v_cve, v_cv, v_cse, v_cs, v_skip, v_seq, v_sq0, v_sq1, v_sqr, v_sts, v_st, v_inc, v_put, v_pt, v_pt2, v_fop, v_fo, v_fo2, v_ast, v_as, v_as2, v_as3, v_aop, v_ao, v_ao2, v_ao3, v_exs, v_ex, v_ifs, v_if1, v_if0, v_ret, v_rt, v_rez, v_rz, v_rev, v_brk, v_sws, v_sw, v_sw2, v_run, v_rb, v_turn, v_tu1, v_tu0, v_tu2, v_tu3, fst1, snd1, Option.map_some, Option.getD_some, enA, en, stE, okb, narV, rf_toNat, rf_nn, List.getElem?_cons_zero, List.getElem?_cons_succ, w32_id, w64_id, ite_t, ite_f, Int.toNat_add, Int.toNat_mul, dec_t, dec_f, lc]
          · simp -implicitDefEqProofs (disch := omega) [kX11_parted_0, v_cop, v_c1, v_c2, v_c3, v_c4, v_c5, v_bin, v_bn, v_bn2, v_div, v_dv, v_dv2, v_une, v_un, v_loc, v_num, v_get, v_gt, v_ald, v_al, v_al2, v_len, v_ln, v_rl0, v_rl1, v_rl2, v_rl3, v_rl4, v_rl5, v_cmp, v_cp, v_cp2, v_zC, v_zc, v_con, v_kc, v_and, v_an1, v_an0, v_or, v_or1, v_or0, v_not, v_nt, v_boo, v_bo, v_cnd, v_cd1, v_cd0, v_cnc, v_cc1, v_cc0, v_ev0, v_ev, v_e1, v_e2, v_cve, v_cv, v_cse, v_cs, v_skip, v_seq, v_sq0, v_sq1, v_sqr, v_sts, v_st, v_inc, v_put, v_pt, v_pt2, v_fop, v_fo, v_fo2, v_ast, v_as, v_as2, v_as3, v_aop, v_ao, v_ao2, v_ao3, v_exs, v_ex, v_ifs, v_if1, v_if0, v_ret, v_rt, v_rez, v_rz, v_rev, v_brk, v_sws, v_sw, v_sw2, v_run, v_rb, v_turn, v_tu1, v_tu0, v_tu2, v_tu3, fst1, snd1, Option.map_some, Option.getD_some, enA, en, stE, okb, narV, rf_toNat, rf_nn, List.getElem?_cons_zero, List.getElem?_cons_succ, w32_id, w64_id, ite_t, ite_f, Int.toNat_add, Int.toNat_mul, dec_t, dec_f, lc, c0]
        simp -implicitDefEqProofs (disch := omega) [fX11_parted, v_cop, v_c1, v_c2, v_c3, v_c4, v_c5, v_bin, v_bn, v_bn2, v_div, v_dv, v_dv2, v_une, v_un, v_loc, v_num, v_get, v_gt, v_ald, v_al, v_al2, v_len, v_ln, v_rl0, v_rl1, v_rl2, v_rl3, v_rl4, v_rl5, v_cmp, v_cp, v_cp2, v_zC, v_zc, v_con, v_kc, v_and, v_an1, v_an0, v_or, v_or1, v_or0, v_not, v_nt, v_boo, v_bo, v_cnd, v_cd1, v_cd0, v_cnc, v_cc1, v_cc0, v_ev0, v_ev, v_e1, v_e2, v_cve, v_cv, v_cse, v_cs, v_skip, v_seq, v_sq0, v_sq1, v_sqr, v_sts, v_st, v_inc, v_put, v_pt, v_pt2, v_fop, v_fo, v_fo2, v_ast, v_as, v_as2, v_as3, v_aop, v_ao, v_ao2, v_ao3, v_exs, v_ex, v_ifs, v_if1, v_if0, v_ret, v_rt, v_rez, v_rz, v_rev, v_brk, v_sws, v_sw, v_sw2, v_run, v_rb, v_turn, v_tu1, v_tu0, v_tu2, v_tu3, fst1, snd1, Option.map_some, Option.getD_some, enA, en, stE, okb, narV, rf_toNat, rf_nn, List.getElem?_cons_zero, List.getElem?_cons_succ, w32_id, w64_id, ite_t, ite_f, Int.toNat_add, Int.toNat_mul, dec_t, dec_f, body]
      · have e3 : r1 < 0 ↔ r1 = -1 := by omega
        have fin : (if r1 < 0 ∨ e = 1 then r1 else ptR (r1, r2)) = if e = 0 then r2 else r1 := by
          unfold ptR
          dsimp only
          rcases pr with ⟨z1, z2⟩ | z
          · rw [if_pos (by omega)]
            split <;> omega
          · by_cases c0 : e = 0
            · rw [if_neg (by omega), if_neg (by omega), if_pos c0]
            · rw [if_pos (by omega), if_neg c0]
        generalize ptR (r1, r2) = rr at *
        have fiveM : stS 5 0 (binE o_ishl (numE 1) (cvE 12 fX12_beasts [(2, (locE 2 0))])) shM [(2, rf 0), (0, (k : Int)), (0, (w : Int)), (0, (x : Int)), (0, e), (3, 0), (3, 0), (3, 0), (3, 0), (3, 0)] μM = some (0, 0, [(2, rf 0), (0, (k : Int)), (0, (w : Int)), (0, (x : Int)), (0, e), (0, ((2 ^ n : Nat) : Int)), (3, 0), (3, 0), (3, 0), (3, 0)], μM) := by
          generalize ((2 ^ n : Nat) : Int) = NN at *
          simp -implicitDefEqProofs (disch := omega) [v_cop, v_c1, v_c2, v_c3, v_c4, v_c5, v_bin, v_bn, v_bn2, v_div, v_dv, v_dv2, v_une, v_un, v_loc, v_num, v_get, v_gt, v_ald, v_al, v_al2, v_len, v_ln, v_rl0, v_rl1, v_rl2, v_rl3, v_rl4, v_rl5, v_cmp, v_cp, v_cp2, v_zC, v_zc, v_con, v_kc, v_and, v_an1, v_an0, v_or, v_or1, v_or0, v_not, v_nt, v_boo, v_bo, v_cnd, v_cd1, v_cd0, v_cnc, v_cc1, v_cc0, v_ev0, v_ev, v_e1, v_e2, v_cve, v_cv, v_cse, v_cs, v_skip, v_seq, v_sq0, v_sq1, v_sqr, v_sts, v_st, v_inc, v_put, v_pt, v_pt2, v_fop, v_fo, v_fo2, v_ast, v_as, v_as2, v_as3, v_aop, v_ao, v_ao2, v_ao3, v_exs, v_ex, v_ifs, v_if1, v_if0, v_ret, v_rt, v_rez, v_rz, v_rev, v_brk, v_sws, v_sw, v_sw2, v_run, v_rb, v_turn, v_tu1, v_tu0, v_tu2, v_tu3, fst1, snd1, Option.map_some, Option.getD_some, enA, en, stE, okb, narV, rf_toNat, rf_nn, List.getElem?_cons_zero, List.getElem?_cons_succ, w32_id, w64_id, ite_t, ite_f, Int.toNat_add, Int.toNat_mul, dec_t, dec_f, sM_0, eb, e2]
        have zero : putS 12 0 0 .int (locE 2 0) (numE 0) shM [(2, rf 0), (0, (k : Int)), (0, (w : Int)), (0, (x : Int)), (0, e), (3, 0), (3, 0), (3, 0), (3, 0), (3, 0)] μM = some (0, 0, [(2, rf 0), (0, (k : Int)), (0, (w : Int)), (0, (x : Int)), (0, e), (3, 0), (3, 0), (3, 0), (3, 0), (3, 0)], μM) := by
          simp -implicitDefEqProofs (disch := omega) [v_cop, v_c1, v_c2, v_c3, v_c4, v_c5, v_bin, v_bn, v_bn2, v_div, v_dv, v_dv2, v_une, v_un, v_loc, v_num, v_get, v_gt, v_ald, v_al, v_al2, v_len, v_ln, v_rl0, v_rl1, v_rl2, v_rl3, v_rl4, v_rl5, v_cmp, v_cp, v_cp2, v_zC, v_zc, v_con, v_kc, v_and, v_an1, v_an0, v_or, v_or1, v_or0, v_not, v_nt, v_boo, v_bo, v_cnd, v_cd1, v_cd0, v_cnc, v_cc1, v_cc0, v_ev0, v_ev, v_e1, v_e2, v_cve, v_cv, v_cse, v_cs, v_skip, v_seq, v_sq0, v_sq1, v_sqr, v_sts, v_st, v_inc, v_put, v_pt, v_pt2, v_fop, v_fo, v_fo2, v_ast, v_as, v_as2, v_as3, v_aop, v_ao, v_ao2, v_ao3, v_exs, v_ex, v_ifs, v_if1, v_if0, v_ret, v_rt, v_rez, v_rz, v_rev, v_brk, v_sws, v_sw, v_sw2, v_run, v_rb, v_turn, v_tu1, v_tu0, v_tu2, v_tu3, fst1, snd1, Option.map_some, Option.getD_some, enA, en, stE, okb, narV, rf_toNat, rf_nn, List.getElem?_cons_zero, List.getElem?_cons_succ, w32_id, w64_id, ite_t, ite_f, Int.toNat_add, Int.toNat_mul, dec_t, dec_f, sM_0, th]
        have body : bX12_parted shM [(2, rf 0), (0, (k : Int)), (0, (w : Int)), (0, (x : Int)), (0, e), (3, 0), (3, 0), (3, 0), (3, 0), (3, 0)] μM = some (1, if e = 0 then r2 else r1, [(2, rf 0), (0, (k : Int)), (0, (w : Int)), (0, (x : Int)), (0, e), (0, ((2 ^ n : Nat) : Int)), (0, 1), (0, r1), (0, rr), (0, ((2 ^ n : Nat) : Int))], μM) := by
          unfold bX12_parted
          rw [v_seq, zero, v_sq0, v_seq, fiveM, v_sq0, go_st six (by simp), show stE [(2, rf 0), (0, (k : Int)), (0, (w : Int)), (0, (x : Int)), (0, e), (0, ((2 ^ n : Nat) : Int)), (3, 0), (3, 0), (3, 0), (3, 0)] 6 0 1 = [(2, rf 0), (0, (k : Int)), (0, (w : Int)), (0, (x : Int)), (0, e), (0, ((2 ^ n : Nat) : Int)), (0, 1), (3, 0), (3, 0), (3, 0)] by simp [stE], ← fin]
          generalize ((2 ^ n : Nat) : Int) = NN at *
          by_cases c0 : r1 < 0
          · rw [if_pos (.inl c0)]
            simp -implicitDefEqProofs (disch := omega) [kX12_parted_0, v_cop, v_c1, v_c2, v_c3, v_c4, v_c5, v_bin, v_bn, v_bn2, v_div, v_dv, v_dv2, v_une, v_un, v_loc, v_num, v_get, v_gt, v_ald, v_al, v_al2, v_len, v_ln, v_rl0, v_rl1, v_rl2, v_rl3, v_rl4, v_rl5, v_cmp, v_cp, v_cp2, v_zC, v_zc, v_con, v_kc, v_and, v_an1, v_an0, v_or, v_or1, v_or0, v_not, v_nt, v_boo, v_bo, v_cnd, v_cd1, v_cd0, v_cnc, v_cc1, v_cc0, v_ev0, v_ev, v_e1, v_e2, v_cve, v_cv, v_cse, v_cs, v_skip, v_seq, v_sq0, v_sq1, v_sqr, v_sts, v_st, v_inc, v_put, v_pt, v_pt2, v_fop, v_fo, v_fo2, v_ast, v_as, v_as2, v_as3, v_aop, v_ao, v_ao2, v_ao3, v_exs, v_ex, v_ifs, v_if1, v_if0, v_ret, v_rt, v_rez, v_rz, v_rev, v_brk, v_sws, v_sw, v_sw2, v_run, v_rb, v_turn, v_tu1, v_tu0, v_tu2, v_tu3, fst1, snd1, Option.map_some, Option.getD_some, enA, en, stE, okb, narV, rf_toNat, rf_nn, List.getElem?_cons_zero, List.getElem?_cons_succ, w32_id, w64_id, ite_t, ite_f, Int.toNat_add, Int.toNat_mul, dec_t, dec_f, sM_0, eb, w1, w2, lr]
          · by_cases c1 : e = 1
            · rw [if_pos (.inr c1)]
              simp -implicitDefEqProofs (disch := omega) [kX12_parted_0, v_cop, v_c1, v_c2, v_c3, v_c4, v_c5, v_bin, v_bn, v_bn2, v_div, v_dv, v_dv2, v_une, v_un, v_loc, v_num, v_get, v_gt, v_ald, v_al, v_al2, v_len, v_ln, v_rl0, v_rl1, v_rl2, v_rl3, v_rl4, v_rl5, v_cmp, v_cp, v_cp2, v_zC, v_zc, v_con, v_kc, v_and, v_an1, v_an0, v_or, v_or1, v_or0, v_not, v_nt, v_boo, v_bo, v_cnd, v_cd1, v_cd0, v_cnc, v_cc1, v_cc0, v_ev0, v_ev, v_e1, v_e2, v_cve, v_cv, v_cse, v_cs, v_skip, v_seq, v_sq0, v_sq1, v_sqr, v_sts, v_st, v_inc, v_put, v_pt, v_pt2, v_fop, v_fo, v_fo2, v_ast, v_as, v_as2, v_as3, v_aop, v_ao, v_ao2, v_ao3, v_exs, v_ex, v_ifs, v_if1, v_if0, v_ret, v_rt, v_rez, v_rz, v_rev, v_brk, v_sws, v_sw, v_sw2, v_run, v_rb, v_turn, v_tu1, v_tu0, v_tu2, v_tu3, fst1, snd1, Option.map_some, Option.getD_some, enA, en, stE, okb, narV, rf_toNat, rf_nn, List.getElem?_cons_zero, List.getElem?_cons_succ, w32_id, w64_id, ite_t, ite_f, Int.toNat_add, Int.toNat_mul, dec_t, dec_f, sM_0, eb, w1, w2, lr]
            · rw [if_neg (by omega)]
              simp -implicitDefEqProofs (disch := omega) [kX12_parted_0, v_cop, v_c1, v_c2, v_c3, v_c4, v_c5, v_bin, v_bn, v_bn2, v_div, v_dv, v_dv2, v_une, v_un, v_loc, v_num, v_get, v_gt, v_ald, v_al, v_al2, v_len, v_ln, v_rl0, v_rl1, v_rl2, v_rl3, v_rl4, v_rl5, v_cmp, v_cp, v_cp2, v_zC, v_zc, v_con, v_kc, v_and, v_an1, v_an0, v_or, v_or1, v_or0, v_not, v_nt, v_boo, v_bo, v_cnd, v_cd1, v_cd0, v_cnc, v_cc1, v_cc0, v_ev0, v_ev, v_e1, v_e2, v_cve, v_cv, v_cse, v_cs, v_skip, v_seq, v_sq0, v_sq1, v_sqr, v_sts, v_st, v_inc, v_put, v_pt, v_pt2, v_fop, v_fo, v_fo2, v_ast, v_as, v_as2, v_as3, v_aop, v_ao, v_ao2, v_ao3, v_exs, v_ex, v_ifs, v_if1, v_if0, v_ret, v_rt, v_rez, v_rz, v_rev, v_brk, v_sws, v_sw, v_sw2, v_run, v_rb, v_turn, v_tu1, v_tu0, v_tu2, v_tu3, fst1, snd1, Option.map_some, Option.getD_some, enA, en, stE, okb, narV, rf_toNat, rf_nn, List.getElem?_cons_zero, List.getElem?_cons_succ, w32_id, w64_id, ite_t, ite_f, Int.toNat_add, Int.toNat_mul, dec_t, dec_f, sM_0, eb, w1, w2, lr]
        simp -implicitDefEqProofs (disch := omega) [fX12_parted, v_cop, v_c1, v_c2, v_c3, v_c4, v_c5, v_bin, v_bn, v_bn2, v_div, v_dv, v_dv2, v_une, v_un, v_loc, v_num, v_get, v_gt, v_ald, v_al, v_al2, v_len, v_ln, v_rl0, v_rl1, v_rl2, v_rl3, v_rl4, v_rl5, v_cmp, v_cp, v_cp2, v_zC, v_zc, v_con, v_kc, v_and, v_an1, v_an0, v_or, v_or1, v_or0, v_not, v_nt, v_boo, v_bo, v_cnd, v_cd1, v_cd0, v_cnc, v_cc1, v_cc0, v_ev0, v_ev, v_e1, v_e2, v_cve, v_cv, v_cse, v_cs, v_skip, v_seq, v_sq0, v_sq1, v_sqr, v_sts, v_st, v_inc, v_put, v_pt, v_pt2, v_fop, v_fo, v_fo2, v_ast, v_as, v_as2, v_as3, v_aop, v_ao, v_ao2, v_ao3, v_exs, v_ex, v_ifs, v_if1, v_if0, v_ret, v_rt, v_rez, v_rz, v_rev, v_brk, v_sws, v_sw, v_sw2, v_run, v_rb, v_turn, v_tu1, v_tu0, v_tu2, v_tu3, fst1, snd1, Option.map_some, Option.getD_some, enA, en, stE, okb, narV, rf_toNat, rf_nn, List.getElem?_cons_zero, List.getElem?_cons_succ, w32_id, w64_id, ite_t, ite_f, Int.toNat_add, Int.toNat_mul, dec_t, dec_f, body]
    · refine ⟨-1, ?_, ?_⟩
      · have gc : ifS (orC (zC 1 (binE o_iand (binE o_ior (locE 0 2) (locE 0 3)) (binE o_ixor (locE 0 5) (numE (-1))))) (zC 1 (binE o_iand (locE 0 2) (locE 0 3)))) (retS (numE (-1))) skipS shC [(2, rf 0), (0, a), (0, b), (0, c), (0, e), (0, E), (3, 0), (3, 0), (3, 0), (3, 0)] μC = some (1, -1, [(2, rf 0), (0, a), (0, b), (0, c), (0, e), (0, E), (3, 0), (3, 0), (3, 0), (3, 0)], μC) := by
          by_cases g3 : o_iand (o_ior b c) (o_ixor E (-1)) = 0
          · have g4 : ¬ o_iand b c = 0 := fun z => g2 ⟨tf.mp g3, z⟩
            simp -implicitDefEqProofs (disch := omega) [v_cop, v_c1, v_c2, v_c3, v_c4, v_c5, v_bin, v_bn, v_bn2, v_div, v_dv, v_dv2, v_une, v_un, v_loc, v_num, v_get, v_gt, v_ald, v_al, v_al2, v_len, v_ln, v_rl0, v_rl1, v_rl2, v_rl3, v_rl4, v_rl5, v_cmp, v_cp, v_cp2, v_zC, v_zc, v_con, v_kc, v_and, v_an1, v_an0, v_or, v_or1, v_or0, v_not, v_nt, v_boo, v_bo, v_cnd, v_cd1, v_cd0, v_cnc, v_cc1, v_cc0, v_ev0, v_ev, v_e1, v_e2, v_cve, v_cv, v_cse, v_cs, v_skip, v_seq, v_sq0, v_sq1, v_sqr, v_sts, v_st, v_inc, v_put, v_pt, v_pt2, v_fop, v_fo, v_fo2, v_ast, v_as, v_as2, v_as3, v_aop, v_ao, v_ao2, v_ao3, v_exs, v_ex, v_ifs, v_if1, v_if0, v_ret, v_rt, v_rez, v_rz, v_rev, v_brk, v_sws, v_sw, v_sw2, v_run, v_rb, v_turn, v_tu1, v_tu0, v_tu2, v_tu3, fst1, snd1, Option.map_some, Option.getD_some, enA, en, stE, okb, narV, rf_toNat, rf_nn, List.getElem?_cons_zero, List.getElem?_cons_succ, w32_id, w64_id, ite_t, ite_f, Int.toNat_add, Int.toNat_mul, dec_t, dec_f, g3, g4]
          · simp -implicitDefEqProofs (disch := omega) [v_cop, v_c1, v_c2, v_c3, v_c4, v_c5, v_bin, v_bn, v_bn2, v_div, v_dv, v_dv2, v_une, v_un, v_loc, v_num, v_get, v_gt, v_ald, v_al, v_al2, v_len, v_ln, v_rl0, v_rl1, v_rl2, v_rl3, v_rl4, v_rl5, v_cmp, v_cp, v_cp2, v_zC, v_zc, v_con, v_kc, v_and, v_an1, v_an0, v_or, v_or1, v_or0, v_not, v_nt, v_boo, v_bo, v_cnd, v_cd1, v_cd0, v_cnc, v_cc1, v_cc0, v_ev0, v_ev, v_e1, v_e2, v_cve, v_cv, v_cse, v_cs, v_skip, v_seq, v_sq0, v_sq1, v_sqr, v_sts, v_st, v_inc, v_put, v_pt, v_pt2, v_fop, v_fo, v_fo2, v_ast, v_as, v_as2, v_as3, v_aop, v_ao, v_ao2, v_ao3, v_exs, v_ex, v_ifs, v_if1, v_if0, v_ret, v_rt, v_rez, v_rz, v_rev, v_brk, v_sws, v_sw, v_sw2, v_run, v_rb, v_turn, v_tu1, v_tu0, v_tu2, v_tu3, fst1, snd1, Option.map_some, Option.getD_some, enA, en, stE, okb, narV, rf_toNat, rf_nn, List.getElem?_cons_zero, List.getElem?_cons_succ, w32_id, w64_id, ite_t, ite_f, Int.toNat_add, Int.toNat_mul, dec_t, dec_f, g3]
        have body : bX11_parted shC [(2, rf 0), (0, a), (0, b), (0, c), (0, e), (3, 0), (3, 0), (3, 0), (3, 0), (3, 0)] μC = some (1, -1, [(2, rf 0), (0, a), (0, b), (0, c), (0, e), (0, E), (3, 0), (3, 0), (3, 0), (3, 0)], μC) := by
          unfold bX11_parted
          rw [v_seq, five, v_sq0, v_seq, ga, v_sq0, v_seq, gc, v_sqr]
        simp -implicitDefEqProofs (disch := omega) [fX11_parted, v_cop, v_c1, v_c2, v_c3, v_c4, v_c5, v_bin, v_bn, v_bn2, v_div, v_dv, v_dv2, v_une, v_un, v_loc, v_num, v_get, v_gt, v_ald, v_al, v_al2, v_len, v_ln, v_rl0, v_rl1, v_rl2, v_rl3, v_rl4, v_rl5, v_cmp, v_cp, v_cp2, v_zC, v_zc, v_con, v_kc, v_and, v_an1, v_an0, v_or, v_or1, v_or0, v_not, v_nt, v_boo, v_bo, v_cnd, v_cd1, v_cd0, v_cnc, v_cc1, v_cc0, v_ev0, v_ev, v_e1, v_e2, v_cve, v_cv, v_cse, v_cs, v_skip, v_seq, v_sq0, v_sq1, v_sqr, v_sts, v_st, v_inc, v_put, v_pt, v_pt2, v_fop, v_fo, v_fo2, v_ast, v_as, v_as2, v_as3, v_aop, v_ao, v_ao2, v_ao3, v_exs, v_ex, v_ifs, v_if1, v_if0, v_ret, v_rt, v_rez, v_rz, v_rev, v_brk, v_sws, v_sw, v_sw2, v_run, v_rb, v_turn, v_tu1, v_tu0, v_tu2, v_tu3, fst1, snd1, Option.map_some, Option.getD_some, enA, en, stE, okb, narV, rf_toNat, rf_nn, List.getElem?_cons_zero, List.getElem?_cons_succ, w32_id, w64_id, ite_t, ite_f, Int.toNat_add, Int.toNat_mul, dec_t, dec_f, body]
      · have six : boolE (andC (andC (andC (andC (zC 3 (locE 0 2)) (cmpC 2 (locE 0 2) (locE 0 5))) (zC 3 (locE 0 3))) (cmpC 2 (locE 0 3) (locE 0 5))) (zC 0 (binE o_iand (locE 0 2) (locE 0 3)))) shM [(2, rf 0), (0, a), (0, b), (0, c), (0, e), (0, ((2 ^ n : Nat) : Int)), (3, 0), (3, 0), (3, 0), (3, 0)] μM = some (0, μM) := by
          generalize ((2 ^ n : Nat) : Int) = NN at *
          by_cases z1 : 0 ≤ b
          · by_cases z2 : b < NN
            · by_cases z3 : 0 ≤ c
              · by_cases z4 : c < NN
                · have z5 : ¬ o_iand b c = 0 := fun z => g2 ⟨⟨⟨z1, z2⟩, z3, z4⟩, z⟩
                  simp -implicitDefEqProofs (disch := omega) [v_cop, v_c1, v_c2, v_c3, v_c4, v_c5, v_bin, v_bn, v_bn2, v_div, v_dv, v_dv2, v_une, v_un, v_loc, v_num, v_get, v_gt, v_ald, v_al, v_al2, v_len, v_ln, v_rl0, v_rl1, v_rl2, v_rl3, v_rl4, v_rl5, v_cmp, v_cp, v_cp2, v_zC, v_zc, v_con, v_kc, v_and, v_an1, v_an0, v_or, v_or1, v_or0, v_not, v_nt, v_boo, v_bo, v_cnd, v_cd1, v_cd0, v_cnc, v_cc1, v_cc0, v_ev0, v_ev, v_e1, v_e2, v_cve, v_cv, v_cse, v_cs, v_skip, v_seq, v_sq0, v_sq1, v_sqr, v_sts, v_st, v_inc, v_put, v_pt, v_pt2, v_fop, v_fo, v_fo2, v_ast, v_as, v_as2, v_as3, v_aop, v_ao, v_ao2, v_ao3, v_exs, v_ex, v_ifs, v_if1, v_if0, v_ret, v_rt, v_rez, v_rz, v_rev, v_brk, v_sws, v_sw, v_sw2, v_run, v_rb, v_turn, v_tu1, v_tu0, v_tu2, v_tu3, fst1, snd1, Option.map_some, Option.getD_some, enA, en, stE, okb, narV, rf_toNat, rf_nn, List.getElem?_cons_zero, List.getElem?_cons_succ, w32_id, w64_id, ite_t, ite_f, Int.toNat_add, Int.toNat_mul, dec_t, dec_f, z5]
                · simp -implicitDefEqProofs (disch := omega) [v_cop, v_c1, v_c2, v_c3, v_c4, v_c5, v_bin, v_bn, v_bn2, v_div, v_dv, v_dv2, v_une, v_un, v_loc, v_num, v_get, v_gt, v_ald, v_al, v_al2, v_len, v_ln, v_rl0, v_rl1, v_rl2, v_rl3, v_rl4, v_rl5, v_cmp, v_cp, v_cp2, v_zC, v_zc, v_con, v_kc, v_and, v_an1, v_an0, v_or, v_or1, v_or0, v_not, v_nt, v_boo, v_bo, v_cnd, v_cd1, v_cd0, v_cnc, v_cc1, v_cc0, v_ev0, v_ev, v_e1, v_e2, v_cve, v_cv, v_cse, v_cs, v_skip, v_seq, v_sq0, v_sq1, v_sqr, v_sts, v_st, v_inc, v_put, v_pt, v_pt2, v_fop, v_fo, v_fo2, v_ast, v_as, v_as2, v_as3, v_aop, v_ao, v_ao2, v_ao3, v_exs, v_ex, v_ifs, v_if1, v_if0, v_ret, v_rt, v_rez, v_rz, v_rev, v_brk, v_sws, v_sw, v_sw2, v_run, v_rb, v_turn, v_tu1, v_tu0, v_tu2, v_tu3, fst1, snd1, Option.map_some, Option.getD_some, enA, en, stE, okb, narV, rf_toNat, rf_nn, List.getElem?_cons_zero, List.getElem?_cons_succ, w32_id, w64_id, ite_t, ite_f, Int.toNat_add, Int.toNat_mul, dec_t, dec_f]
              · simp -implicitDefEqProofs (disch := omega) [v_cop, v_c1, v_c2, v_c3, v_c4, v_c5, v_bin, v_bn, v_bn2, v_div, v_dv, v_dv2, v_une, v_un, v_loc, v_num, v_get, v_gt, v_ald, v_al, v_al2, v_len, v_ln, v_rl0, v_rl1, v_rl2, v_rl3, v_rl4, v_rl5, v_cmp, v_cp, v_cp2, v_zC, v_zc, v_con, v_kc, v_and, v_an1, v_an0, v_or, v_or1, v_or0, v_not, v_nt, v_boo, v_bo, v_cnd, v_cd1, v_cd0, v_cnc, v_cc1, v_cc0, v_ev0, v_ev, v_e1, v_e2, v_cve, v_cv, v_cse, v_cs, v_skip, v_seq, v_sq0, v_sq1, v_sqr, v_sts, v_st, v_inc, v_put, v_pt, v_pt2, v_fop, v_fo, v_fo2, v_ast, v_as, v_as2, v_as3, v_aop, v_ao, v_ao2, v_ao3, v_exs, v_ex, v_ifs, v_if1, v_if0, v_ret, v_rt, v_rez, v_rz, v_rev, v_brk, v_sws, v_sw, v_sw2, v_run, v_rb, v_turn, v_tu1, v_tu0, v_tu2, v_tu3, fst1, snd1, Option.map_some, Option.getD_some, enA, en, stE, okb, narV, rf_toNat, rf_nn, List.getElem?_cons_zero, List.getElem?_cons_succ, w32_id, w64_id, ite_t, ite_f, Int.toNat_add, Int.toNat_mul, dec_t, dec_f]
            · simp -implicitDefEqProofs (disch := omega) [v_cop, v_c1, v_c2, v_c3, v_c4, v_c5, v_bin, v_bn, v_bn2, v_div, v_dv, v_dv2, v_une, v_un, v_loc, v_num, v_get, v_gt, v_ald, v_al, v_al2, v_len, v_ln, v_rl0, v_rl1, v_rl2, v_rl3, v_rl4, v_rl5, v_cmp, v_cp, v_cp2, v_zC, v_zc, v_con, v_kc, v_and, v_an1, v_an0, v_or, v_or1, v_or0, v_not, v_nt, v_boo, v_bo, v_cnd, v_cd1, v_cd0, v_cnc, v_cc1, v_cc0, v_ev0, v_ev, v_e1, v_e2, v_cve, v_cv, v_cse, v_cs, v_skip, v_seq, v_sq0, v_sq1, v_sqr, v_sts, v_st, v_inc, v_put, v_pt, v_pt2, v_fop, v_fo, v_fo2, v_ast, v_as, v_as2, v_as3, v_aop, v_ao, v_ao2, v_ao3, v_exs, v_ex, v_ifs, v_if1, v_if0, v_ret, v_rt, v_rez, v_rz, v_rev, v_brk, v_sws, v_sw, v_sw2, v_run, v_rb, v_turn, v_tu1, v_tu0, v_tu2, v_tu3, fst1, snd1, Option.map_some, Option.getD_some, enA, en, stE, okb, narV, rf_toNat, rf_nn, List.getElem?_cons_zero, List.getElem?_cons_succ, w32_id, w64_id, ite_t, ite_f, Int.toNat_add, Int.toNat_mul, dec_t, dec_f]
          · simp -implicitDefEqProofs (disch := omega) [v_cop, v_c1, v_c2, v_c3, v_c4, v_c5, v_bin, v_bn, v_bn2, v_div, v_dv, v_dv2, v_une, v_un, v_loc, v_num, v_get, v_gt, v_ald, v_al, v_al2, v_len, v_ln, v_rl0, v_rl1, v_rl2, v_rl3, v_rl4, v_rl5, v_cmp, v_cp, v_cp2, v_zC, v_zc, v_con, v_kc, v_and, v_an1, v_an0, v_or, v_or1, v_or0, v_not, v_nt, v_boo, v_bo, v_cnd, v_cd1, v_cd0, v_cnc, v_cc1, v_cc0, v_ev0, v_ev, v_e1, v_e2, v_cve, v_cv, v_cse, v_cs, v_skip, v_seq, v_sq0, v_sq1, v_sqr, v_sts, v_st, v_inc, v_put, v_pt, v_pt2, v_fop, v_fo, v_fo2, v_ast, v_as, v_as2, v_as3, v_aop, v_ao, v_ao2, v_ao3, v_exs, v_ex, v_ifs, v_if1, v_if0, v_ret, v_rt, v_rez, v_rz, v_rev, v_brk, v_sws, v_sw, v_sw2, v_run, v_rb, v_turn, v_tu1, v_tu0, v_tu2, v_tu3, fst1, snd1, Option.map_some, Option.getD_some, enA, en, stE, okb, narV, rf_toNat, rf_nn, List.getElem?_cons_zero, List.getElem?_cons_succ, w32_id, w64_id, ite_t, ite_f, Int.toNat_add, Int.toNat_mul, dec_t, dec_f]
        have fiveM : stS 5 0 (binE o_ishl (numE 1) (cvE 12 fX12_beasts [(2, (locE 2 0))])) shM [(2, rf 0), (0, a), (0, b), (0, c), (0, e), (3, 0), (3, 0), (3, 0), (3, 0), (3, 0)] μM = some (0, 0, [(2, rf 0), (0, a), (0, b), (0, c), (0, e), (0, ((2 ^ n : Nat) : Int)), (3, 0), (3, 0), (3, 0), (3, 0)], μM) := by
          generalize ((2 ^ n : Nat) : Int) = NN at *
          simp -implicitDefEqProofs (disch := omega) [v_cop, v_c1, v_c2, v_c3, v_c4, v_c5, v_bin, v_bn, v_bn2, v_div, v_dv, v_dv2, v_une, v_un, v_loc, v_num, v_get, v_gt, v_ald, v_al, v_al2, v_len, v_ln, v_rl0, v_rl1, v_rl2, v_rl3, v_rl4, v_rl5, v_cmp, v_cp, v_cp2, v_zC, v_zc, v_con, v_kc, v_and, v_an1, v_an0, v_or, v_or1, v_or0, v_not, v_nt, v_boo, v_bo, v_cnd, v_cd1, v_cd0, v_cnc, v_cc1, v_cc0, v_ev0, v_ev, v_e1, v_e2, v_cve, v_cv, v_cse, v_cs, v_skip, v_seq, v_sq0, v_sq1, v_sqr, v_sts, v_st, v_inc, v_put, v_pt, v_pt2, v_fop, v_fo, v_fo2, v_ast, v_as, v_as2, v_as3, v_aop, v_ao, v_ao2, v_ao3, v_exs, v_ex, v_ifs, v_if1, v_if0, v_ret, v_rt, v_rez, v_rz, v_rev, v_brk, v_sws, v_sw, v_sw2, v_run, v_rb, v_turn, v_tu1, v_tu0, v_tu2, v_tu3, fst1, snd1, Option.map_some, Option.getD_some, enA, en, stE, okb, narV, rf_toNat, rf_nn, List.getElem?_cons_zero, List.getElem?_cons_succ, w32_id, w64_id, ite_t, ite_f, Int.toNat_add, Int.toNat_mul, dec_t, dec_f, sM_0, eb, e2]
        have zero : putS 12 0 0 .int (locE 2 0) (numE 0) shM [(2, rf 0), (0, a), (0, b), (0, c), (0, e), (3, 0), (3, 0), (3, 0), (3, 0), (3, 0)] μM = some (0, 0, [(2, rf 0), (0, a), (0, b), (0, c), (0, e), (3, 0), (3, 0), (3, 0), (3, 0), (3, 0)], μM) := by
          simp -implicitDefEqProofs (disch := omega) [v_cop, v_c1, v_c2, v_c3, v_c4, v_c5, v_bin, v_bn, v_bn2, v_div, v_dv, v_dv2, v_une, v_un, v_loc, v_num, v_get, v_gt, v_ald, v_al, v_al2, v_len, v_ln, v_rl0, v_rl1, v_rl2, v_rl3, v_rl4, v_rl5, v_cmp, v_cp, v_cp2, v_zC, v_zc, v_con, v_kc, v_and, v_an1, v_an0, v_or, v_or1, v_or0, v_not, v_nt, v_boo, v_bo, v_cnd, v_cd1, v_cd0, v_cnc, v_cc1, v_cc0, v_ev0, v_ev, v_e1, v_e2, v_cve, v_cv, v_cse, v_cs, v_skip, v_seq, v_sq0, v_sq1, v_sqr, v_sts, v_st, v_inc, v_put, v_pt, v_pt2, v_fop, v_fo, v_fo2, v_ast, v_as, v_as2, v_as3, v_aop, v_ao, v_ao2, v_ao3, v_exs, v_ex, v_ifs, v_if1, v_if0, v_ret, v_rt, v_rez, v_rz, v_rev, v_brk, v_sws, v_sw, v_sw2, v_run, v_rb, v_turn, v_tu1, v_tu0, v_tu2, v_tu3, fst1, snd1, Option.map_some, Option.getD_some, enA, en, stE, okb, narV, rf_toNat, rf_nn, List.getElem?_cons_zero, List.getElem?_cons_succ, w32_id, w64_id, ite_t, ite_f, Int.toNat_add, Int.toNat_mul, dec_t, dec_f, sM_0, th]
        have body : bX12_parted shM [(2, rf 0), (0, a), (0, b), (0, c), (0, e), (3, 0), (3, 0), (3, 0), (3, 0), (3, 0)] μM = some (1, -1, [(2, rf 0), (0, a), (0, b), (0, c), (0, e), (0, ((2 ^ n : Nat) : Int)), (0, 0), (3, 0), (3, 0), (3, 0)], μM) := by
          unfold bX12_parted
          rw [v_seq, zero, v_sq0, v_seq, fiveM, v_sq0, go_st six (by simp), show stE [(2, rf 0), (0, a), (0, b), (0, c), (0, e), (0, ((2 ^ n : Nat) : Int)), (3, 0), (3, 0), (3, 0), (3, 0)] 6 0 0 = [(2, rf 0), (0, a), (0, b), (0, c), (0, e), (0, ((2 ^ n : Nat) : Int)), (0, 0), (3, 0), (3, 0), (3, 0)] by simp [stE]]
          generalize ((2 ^ n : Nat) : Int) = NN at *
          simp -implicitDefEqProofs (disch := omega) [v_cop, v_c1, v_c2, v_c3, v_c4, v_c5, v_bin, v_bn, v_bn2, v_div, v_dv, v_dv2, v_une, v_un, v_loc, v_num, v_get, v_gt, v_ald, v_al, v_al2, v_len, v_ln, v_rl0, v_rl1, v_rl2, v_rl3, v_rl4, v_rl5, v_cmp, v_cp, v_cp2, v_zC, v_zc, v_con, v_kc, v_and, v_an1, v_an0, v_or, v_or1, v_or0, v_not, v_nt, v_boo, v_bo, v_cnd, v_cd1, v_cd0, v_cnc, v_cc1, v_cc0, v_ev0, v_ev, v_e1, v_e2, v_cve, v_cv, v_cse, v_cs, v_skip, v_seq, v_sq0, v_sq1, v_sqr, v_sts, v_st, v_inc, v_put, v_pt, v_pt2, v_fop, v_fo, v_fo2, v_ast, v_as, v_as2, v_as3, v_aop, v_ao, v_ao2, v_ao3, v_exs, v_ex, v_ifs, v_if1, v_if0, v_ret, v_rt, v_rez, v_rz, v_rev, v_brk, v_sws, v_sw, v_sw2, v_run, v_rb, v_turn, v_tu1, v_tu0, v_tu2, v_tu3, fst1, snd1, Option.map_some, Option.getD_some, enA, en, stE, okb, narV, rf_toNat, rf_nn, List.getElem?_cons_zero, List.getElem?_cons_succ, w32_id, w64_id, ite_t, ite_f, Int.toNat_add, Int.toNat_mul, dec_t, dec_f, sM_0, eb, w1]
        simp -implicitDefEqProofs (disch := omega) [fX12_parted, v_cop, v_c1, v_c2, v_c3, v_c4, v_c5, v_bin, v_bn, v_bn2, v_div, v_dv, v_dv2, v_une, v_un, v_loc, v_num, v_get, v_gt, v_ald, v_al, v_al2, v_len, v_ln, v_rl0, v_rl1, v_rl2, v_rl3, v_rl4, v_rl5, v_cmp, v_cp, v_cp2, v_zC, v_zc, v_con, v_kc, v_and, v_an1, v_an0, v_or, v_or1, v_or0, v_not, v_nt, v_boo, v_bo, v_cnd, v_cd1, v_cd0, v_cnc, v_cc1, v_cc0, v_ev0, v_ev, v_e1, v_e2, v_cve, v_cv, v_cse, v_cs, v_skip, v_seq, v_sq0, v_sq1, v_sqr, v_sts, v_st, v_inc, v_put, v_pt, v_pt2, v_fop, v_fo, v_fo2, v_ast, v_as, v_as2, v_as3, v_aop, v_ao, v_ao2, v_ao3, v_exs, v_ex, v_ifs, v_if1, v_if0, v_ret, v_rt, v_rez, v_rz, v_rev, v_brk, v_sws, v_sw, v_sw2, v_run, v_rb, v_turn, v_tu1, v_tu0, v_tu2, v_tu3, fst1, snd1, Option.map_some, Option.getD_some, enA, en, stE, okb, narV, rf_toNat, rf_nn, List.getElem?_cons_zero, List.getElem?_cons_succ, w32_id, w64_id, ite_t, ite_f, Int.toNat_add, Int.toNat_mul, dec_t, dec_f, body]
  · refine ⟨-1, ?_, ?_⟩
    · have ga : ifS (orC (orC (orC (zC 2 (locE 0 1)) (cmpC 4 (locE 0 1) (getE 1 1 0 (getE 11 1 2 (locE 2 0))))) (zC 2 (locE 0 4))) (cmpC 4 (locE 0 4) (numE 1))) (retS (numE (-1))) skipS shC [(2, rf 0), (0, a), (0, b), (0, c), (0, e), (0, E), (3, 0), (3, 0), (3, 0), (3, 0)] μC = some (1, -1, [(2, rf 0), (0, a), (0, b), (0, c), (0, e), (0, E), (3, 0), (3, 0), (3, 0), (3, 0)], μC) := by
        by_cases z1 : a < 0
        · simp -implicitDefEqProofs (disch := omega) [v_cop, v_c1, v_c2, v_c3, v_c4, v_c5, v_bin, v_bn, v_bn2, v_div, v_dv, v_dv2, v_une, v_un, v_loc, v_num, v_get, v_gt, v_ald, v_al, v_al2, v_len, v_ln, v_rl0, v_rl1, v_rl2, v_rl3, v_rl4, v_rl5, v_cmp, v_cp, v_cp2, v_zC, v_zc, v_con, v_kc, v_and, v_an1, v_an0, v_or, v_or1, v_or0, v_not, v_nt, v_boo, v_bo, v_cnd, v_cd1, v_cd0, v_cnc, v_cc1, v_cc0, v_ev0, v_ev, v_e1, v_e2, v_cve, v_cv, v_cse, v_cs, v_skip, v_seq, v_sq0, v_sq1, v_sqr, v_sts, v_st, v_inc, v_put, v_pt, v_pt2, v_fop, v_fo, v_fo2, v_ast, v_as, v_as2, v_as3, v_aop, v_ao, v_ao2, v_ao3, v_exs, v_ex, v_ifs, v_if1, v_if0, v_ret, v_rt, v_rez, v_rz, v_rev, v_brk, v_sws, v_sw, v_sw2, v_run, v_rb, v_turn, v_tu1, v_tu0, v_tu2, v_tu3, fst1, snd1, Option.map_some, Option.getD_some, enA, en, stE, okb, narV, rf_toNat, rf_nn, List.getElem?_cons_zero, List.getElem?_cons_succ, w32_id, w64_id, ite_t, ite_f, Int.toNat_add, Int.toNat_mul, dec_t, dec_f]
        · by_cases z2 : (n : Int) < a
          · simp -implicitDefEqProofs (disch := omega) [v_cop, v_c1, v_c2, v_c3, v_c4, v_c5, v_bin, v_bn, v_bn2, v_div, v_dv, v_dv2, v_une, v_un, v_loc, v_num, v_get, v_gt, v_ald, v_al, v_al2, v_len, v_ln, v_rl0, v_rl1, v_rl2, v_rl3, v_rl4, v_rl5, v_cmp, v_cp, v_cp2, v_zC, v_zc, v_con, v_kc, v_and, v_an1, v_an0, v_or, v_or1, v_or0, v_not, v_nt, v_boo, v_bo, v_cnd, v_cd1, v_cd0, v_cnc, v_cc1, v_cc0, v_ev0, v_ev, v_e1, v_e2, v_cve, v_cv, v_cse, v_cs, v_skip, v_seq, v_sq0, v_sq1, v_sqr, v_sts, v_st, v_inc, v_put, v_pt, v_pt2, v_fop, v_fo, v_fo2, v_ast, v_as, v_as2, v_as3, v_aop, v_ao, v_ao2, v_ao3, v_exs, v_ex, v_ifs, v_if1, v_if0, v_ret, v_rt, v_rez, v_rz, v_rev, v_brk, v_sws, v_sw, v_sw2, v_run, v_rb, v_turn, v_tu1, v_tu0, v_tu2, v_tu3, fst1, snd1, Option.map_some, Option.getD_some, enA, en, stE, okb, narV, rf_toNat, rf_nn, List.getElem?_cons_zero, List.getElem?_cons_succ, w32_id, w64_id, ite_t, ite_f, Int.toNat_add, Int.toNat_mul, dec_t, dec_f, sC_0, R.hd.2.1, o, hbe]
          · by_cases z3 : e < 0
            · simp -implicitDefEqProofs (disch := omega) [v_cop, v_c1, v_c2, v_c3, v_c4, v_c5, v_bin, v_bn, v_bn2, v_div, v_dv, v_dv2, v_une, v_un, v_loc, v_num, v_get, v_gt, v_ald, v_al, v_al2, v_len, v_ln, v_rl0, v_rl1, v_rl2, v_rl3, v_rl4, v_rl5, v_cmp, v_cp, v_cp2, v_zC, v_zc, v_con, v_kc, v_and, v_an1, v_an0, v_or, v_or1, v_or0, v_not, v_nt, v_boo, v_bo, v_cnd, v_cd1, v_cd0, v_cnc, v_cc1, v_cc0, v_ev0, v_ev, v_e1, v_e2, v_cve, v_cv, v_cse, v_cs, v_skip, v_seq, v_sq0, v_sq1, v_sqr, v_sts, v_st, v_inc, v_put, v_pt, v_pt2, v_fop, v_fo, v_fo2, v_ast, v_as, v_as2, v_as3, v_aop, v_ao, v_ao2, v_ao3, v_exs, v_ex, v_ifs, v_if1, v_if0, v_ret, v_rt, v_rez, v_rz, v_rev, v_brk, v_sws, v_sw, v_sw2, v_run, v_rb, v_turn, v_tu1, v_tu0, v_tu2, v_tu3, fst1, snd1, Option.map_some, Option.getD_some, enA, en, stE, okb, narV, rf_toNat, rf_nn, List.getElem?_cons_zero, List.getElem?_cons_succ, w32_id, w64_id, ite_t, ite_f, Int.toNat_add, Int.toNat_mul, dec_t, dec_f, sC_0, R.hd.2.1, o, hbe]
            · simp -implicitDefEqProofs (disch := omega) [v_cop, v_c1, v_c2, v_c3, v_c4, v_c5, v_bin, v_bn, v_bn2, v_div, v_dv, v_dv2, v_une, v_un, v_loc, v_num, v_get, v_gt, v_ald, v_al, v_al2, v_len, v_ln, v_rl0, v_rl1, v_rl2, v_rl3, v_rl4, v_rl5, v_cmp, v_cp, v_cp2, v_zC, v_zc, v_con, v_kc, v_and, v_an1, v_an0, v_or, v_or1, v_or0, v_not, v_nt, v_boo, v_bo, v_cnd, v_cd1, v_cd0, v_cnc, v_cc1, v_cc0, v_ev0, v_ev, v_e1, v_e2, v_cve, v_cv, v_cse, v_cs, v_skip, v_seq, v_sq0, v_sq1, v_sqr, v_sts, v_st, v_inc, v_put, v_pt, v_pt2, v_fop, v_fo, v_fo2, v_ast, v_as, v_as2, v_as3, v_aop, v_ao, v_ao2, v_ao3, v_exs, v_ex, v_ifs, v_if1, v_if0, v_ret, v_rt, v_rez, v_rz, v_rev, v_brk, v_sws, v_sw, v_sw2, v_run, v_rb, v_turn, v_tu1, v_tu0, v_tu2, v_tu3, fst1, snd1, Option.map_some, Option.getD_some, enA, en, stE, okb, narV, rf_toNat, rf_nn, List.getElem?_cons_zero, List.getElem?_cons_succ, w32_id, w64_id, ite_t, ite_f, Int.toNat_add, Int.toNat_mul, dec_t, dec_f, sC_0, R.hd.2.1, o, hbe]
      have body : bX11_parted shC [(2, rf 0), (0, a), (0, b), (0, c), (0, e), (3, 0), (3, 0), (3, 0), (3, 0), (3, 0)] μC = some (1, -1, [(2, rf 0), (0, a), (0, b), (0, c), (0, e), (0, E), (3, 0), (3, 0), (3, 0), (3, 0)], μC) := by
        unfold bX11_parted
        rw [v_seq, five, v_sq0, v_seq, ga, v_sqr]
      simp -implicitDefEqProofs (disch := omega) [fX11_parted, v_cop, v_c1, v_c2, v_c3, v_c4, v_c5, v_bin, v_bn, v_bn2, v_div, v_dv, v_dv2, v_une, v_un, v_loc, v_num, v_get, v_gt, v_ald, v_al, v_al2, v_len, v_ln, v_rl0, v_rl1, v_rl2, v_rl3, v_rl4, v_rl5, v_cmp, v_cp, v_cp2, v_zC, v_zc, v_con, v_kc, v_and, v_an1, v_an0, v_or, v_or1, v_or0, v_not, v_nt, v_boo, v_bo, v_cnd, v_cd1, v_cd0, v_cnc, v_cc1, v_cc0, v_ev0, v_ev, v_e1, v_e2, v_cve, v_cv, v_cse, v_cs, v_skip, v_seq, v_sq0, v_sq1, v_sqr, v_sts, v_st, v_inc, v_put, v_pt, v_pt2, v_fop, v_fo, v_fo2, v_ast, v_as, v_as2, v_as3, v_aop, v_ao, v_ao2, v_ao3, v_exs, v_ex, v_ifs, v_if1, v_if0, v_ret, v_rt, v_rez, v_rz, v_rev, v_brk, v_sws, v_sw, v_sw2, v_run, v_rb, v_turn, v_tu1, v_tu0, v_tu2, v_tu3, fst1, snd1, Option.map_some, Option.getD_some, enA, en, stE, okb, narV, rf_toNat, rf_nn, List.getElem?_cons_zero, List.getElem?_cons_succ, w32_id, w64_id, ite_t, ite_f, Int.toNat_add, Int.toNat_mul, dec_t, dec_f, body]
    · have six : ∃ v : Int, (v = 0 ∨ v = 1) ∧ boolE (andC (andC (andC (andC (zC 3 (locE 0 2)) (cmpC 2 (locE 0 2) (locE 0 5))) (zC 3 (locE 0 3))) (cmpC 2 (locE 0 3) (locE 0 5))) (zC 0 (binE o_iand (locE 0 2) (locE 0 3)))) shM [(2, rf 0), (0, a), (0, b), (0, c), (0, e), (0, ((2 ^ n : Nat) : Int)), (3, 0), (3, 0), (3, 0), (3, 0)] μM = some (v, μM) := by
        generalize ((2 ^ n : Nat) : Int) = NN at *
        by_cases z1 : 0 ≤ b
        · by_cases z2 : b < NN
          · by_cases z3 : 0 ≤ c
            · by_cases z4 : c < NN
              · by_cases z5 : o_iand b c = 0
                · exact ⟨1, .inr rfl, by simp -implicitDefEqProofs (disch := omega) [v_cop, v_c1, v_c2, v_c3, v_c4, v_c5, v_bin, v_bn, v_bn2, v_div, v_dv, v_dv2, v_une, v_un, v_loc, v_num, v_get, v_gt, v_ald, v_al, v_al2, v_len, v_ln, v_rl0, v_rl1, v_rl2, v_rl3, v_rl4, v_rl5, v_cmp, v_cp, v_cp2, v_zC, v_zc, v_con, v_kc, v_and, v_an1, v_an0, v_or, v_or1, v_or0, v_not, v_nt, v_boo, v_bo, v_cnd, v_cd1, v_cd0, v_cnc, v_cc1, v_cc0, v_ev0, v_ev, v_e1, v_e2, v_cve, v_cv, v_cse, v_cs, v_skip, v_seq, v_sq0, v_sq1, v_sqr, v_sts, v_st, v_inc, v_put, v_pt, v_pt2, v_fop, v_fo, v_fo2, v_ast, v_as, v_as2, v_as3, v_aop, v_ao, v_ao2, v_ao3, v_exs, v_ex, v_ifs, v_if1, v_if0, v_ret, v_rt, v_rez, v_rz, v_rev, v_brk, v_sws, v_sw, v_sw2, v_run, v_rb, v_turn, v_tu1, v_tu0, v_tu2, v_tu3, fst1, snd1, Option.map_some, Option.getD_some, enA, en, stE, okb, narV, rf_toNat, rf_nn, List.getElem?_cons_zero, List.getElem?_cons_succ, w32_id, w64_id, ite_t, ite_f, Int.toNat_add, Int.toNat_mul, dec_t, dec_f, z5]⟩
                · exact ⟨0, .inl rfl, by simp -implicitDefEqProofs (disch := omega) [v_cop, v_c1, v_c2, v_c3, v_c4, v_c5, v_bin, v_bn, v_bn2, v_div, v_dv, v_dv2, v_une, v_un, v_loc, v_num, v_get, v_gt, v_ald, v_al, v_al2, v_len, v_ln, v_rl0, v_rl1, v_rl2, v_rl3, v_rl4, v_rl5, v_cmp, v_cp, v_cp2, v_zC, v_zc, v_con, v_kc, v_and, v_an1, v_an0, v_or, v_or1, v_or0, v_not, v_nt, v_boo, v_bo, v_cnd, v_cd1, v_cd0, v_cnc, v_cc1, v_cc0, v_ev0, v_ev, v_e1, v_e2, v_cve, v_cv, v_cse, v_cs, v_skip, v_seq, v_sq0, v_sq1, v_sqr, v_sts, v_st, v_inc, v_put, v_pt, v_pt2, v_fop, v_fo, v_fo2, v_ast, v_as, v_as2, v_as3, v_aop, v_ao, v_ao2, v_ao3, v_exs, v_ex, v_ifs, v_if1, v_if0, v_ret, v_rt, v_rez, v_rz, v_rev, v_brk, v_sws, v_sw, v_sw2, v_run, v_rb, v_turn, v_tu1, v_tu0, v_tu2, v_tu3, fst1, snd1, Option.map_some, Option.getD_some, enA, en, stE, okb, narV, rf_toNat, rf_nn, List.getElem?_cons_zero, List.getElem?_cons_succ, w32_id, w64_id, ite_t, ite_f, Int.toNat_add, Int.toNat_mul, dec_t, dec_f, z5]⟩
              · exact ⟨0, .inl rfl, by simp -implicitDefEqProofs (disch := omega) [v_cop, v_c1, v_c2, v_c3, v_c4, v_c5, v_bin, v_bn, v_bn2, v_div, v_dv, v_dv2, v_une, v_un, v_loc, v_num, v_get, v_gt, v_ald, v_al, v_al2, v_len, v_ln, v_rl0, v_rl1, v_rl2, v_rl3, v_rl4, v_rl5, v_cmp, v_cp, v_cp2, v_zC, v_zc, v_con, v_kc, v_and, v_an1, v_an0, v_or, v_or1, v_or0, v_not, v_nt, v_boo, v_bo, v_cnd, v_cd1, v_cd0, v_cnc, v_cc1, v_cc0, v_ev0, v_ev, v_e1, v_e2, v_cve, v_cv, v_cse, v_cs, v_skip, v_seq, v_sq0, v_sq1, v_sqr, v_sts, v_st, v_inc, v_put, v_pt, v_pt2, v_fop, v_fo, v_fo2, v_ast, v_as, v_as2, v_as3, v_aop, v_ao, v_ao2, v_ao3, v_exs, v_ex, v_ifs, v_if1, v_if0, v_ret, v_rt, v_rez, v_rz, v_rev, v_brk, v_sws, v_sw, v_sw2, v_run, v_rb, v_turn, v_tu1, v_tu0, v_tu2, v_tu3, fst1, snd1, Option.map_some, Option.getD_some, enA, en, stE, okb, narV, rf_toNat, rf_nn, List.getElem?_cons_zero, List.getElem?_cons_succ, w32_id, w64_id, ite_t, ite_f, Int.toNat_add, Int.toNat_mul, dec_t, dec_f]⟩
            · exact ⟨0, .inl rfl, by simp -implicitDefEqProofs (disch := omega) [v_cop, v_c1, v_c2, v_c3, v_c4, v_c5, v_bin, v_bn, v_bn2, v_div, v_dv, v_dv2, v_une, v_un, v_loc, v_num, v_get, v_gt, v_ald, v_al, v_al2, v_len, v_ln, v_rl0, v_rl1, v_rl2, v_rl3, v_rl4, v_rl5, v_cmp, v_cp, v_cp2, v_zC, v_zc, v_con, v_kc, v_and, v_an1, v_an0, v_or, v_or1, v_or0, v_not, v_nt, v_boo, v_bo, v_cnd, v_cd1, v_cd0, v_cnc, v_cc1, v_cc0, v_ev0, v_ev, v_e1, v_e2, v_cve, v_cv, v_cse, v_cs, v_skip, v_seq, v_sq0, v_sq1, v_sqr, v_sts, v_st, v_inc, v_put, v_pt, v_pt2, v_fop, v_fo, v_fo2, v_ast, v_as, v_as2, v_as3, v_aop, v_ao, v_ao2, v_ao3, v_exs, v_ex, v_ifs, v_if1, v_if0, v_ret, v_rt, v_rez, v_rz, v_rev, v_brk, v_sws, v_sw, v_sw2, v_run, v_rb, v_turn, v_tu1, v_tu0, v_tu2, v_tu3, fst1, snd1, Option.map_some, Option.getD_some, enA, en, stE, okb, narV, rf_toNat, rf_nn, List.getElem?_cons_zero, List.getElem?_cons_succ, w32_id, w64_id, ite_t, ite_f, Int.toNat_add, Int.toNat_mul, dec_t, dec_f]⟩
          · exact ⟨0, .inl rfl, by simp -implicitDefEqProofs (disch := omega) [v_cop, v_c1, v_c2, v_c3, v_c4, v_c5, v_bin, v_bn, v_bn2, v_div, v_dv, v_dv2, v_une, v_un, v_loc, v_num, v_get, v_gt, v_ald, v_al, v_al2, v_len, v_ln, v_rl0, v_rl1, v_rl2, v_rl3, v_rl4, v_rl5, v_cmp, v_cp, v_cp2, v_zC, v_zc, v_con, v_kc, v_and, v_an1, v_an0, v_or, v_or1, v_or0, v_not, v_nt, v_boo, v_bo, v_cnd, v_cd1, v_cd0, v_cnc, v_cc1, v_cc0, v_ev0, v_ev, v_e1, v_e2, v_cve, v_cv, v_cse, v_cs, v_skip, v_seq, v_sq0, v_sq1, v_sqr, v_sts, v_st, v_inc, v_put, v_pt, v_pt2, v_fop, v_fo, v_fo2, v_ast, v_as, v_as2, v_as3, v_aop, v_ao, v_ao2, v_ao3, v_exs, v_ex, v_ifs, v_if1, v_if0, v_ret, v_rt, v_rez, v_rz, v_rev, v_brk, v_sws, v_sw, v_sw2, v_run, v_rb, v_turn, v_tu1, v_tu0, v_tu2, v_tu3, fst1, snd1, Option.map_some, Option.getD_some, enA, en, stE, okb, narV, rf_toNat, rf_nn, List.getElem?_cons_zero, List.getElem?_cons_succ, w32_id, w64_id, ite_t, ite_f, Int.toNat_add, Int.toNat_mul, dec_t, dec_f]⟩
        · exact ⟨0, .inl rfl, by simp -implicitDefEqProofs (disch := omega) [v_cop, v_c1, v_c2, v_c3, v_c4, v_c5, v_bin, v_bn, v_bn2, v_div, v_dv, v_dv2, v_une, v_un, v_loc, v_num, v_get, v_gt, v_ald, v_al, v_al2, v_len, v_ln, v_rl0, v_rl1, v_rl2, v_rl3, v_rl4, v_rl5, v_cmp, v_cp, v_cp2, v_zC, v_zc, v_con, v_kc, v_and, v_an1, v_an0, v_or, v_or1, v_or0, v_not, v_nt, v_boo, v_bo, v_cnd, v_cd1, v_cd0, v_cnc, v_cc1, v_cc0, v_ev0, v_ev, v_e1, v_e2, v_cve, v_cv, v_cse, v_cs, v_skip, v_seq, v_sq0, v_sq1, v_sqr, v_sts, v_st, v_inc, v_put, v_pt, v_pt2, v_fop, v_fo, v_fo2, v_ast, v_as, v_as2, v_as3, v_aop, v_ao, v_ao2, v_ao3, v_exs, v_ex, v_ifs, v_if1, v_if0, v_ret, v_rt, v_rez, v_rz, v_rev, v_brk, v_sws, v_sw, v_sw2, v_run, v_rb, v_turn, v_tu1, v_tu0, v_tu2, v_tu3, fst1, snd1, Option.map_some, Option.getD_some, enA, en, stE, okb, narV, rf_toNat, rf_nn, List.getElem?_cons_zero, List.getElem?_cons_succ, w32_id, w64_id, ite_t, ite_f, Int.toNat_add, Int.toNat_mul, dec_t, dec_f]⟩
      obtain ⟨v, hv, six⟩ := six
      have fiveM : stS 5 0 (binE o_ishl (numE 1) (cvE 12 fX12_beasts [(2, (locE 2 0))])) shM [(2, rf 0), (0, a), (0, b), (0, c), (0, e), (3, 0), (3, 0), (3, 0), (3, 0), (3, 0)] μM = some (0, 0, [(2, rf 0), (0, a), (0, b), (0, c), (0, e), (0, ((2 ^ n : Nat) : Int)), (3, 0), (3, 0), (3, 0), (3, 0)], μM) := by
        generalize ((2 ^ n : Nat) : Int) = NN at *
        simp -implicitDefEqProofs (disch := omega) [v_cop, v_c1, v_c2, v_c3, v_c4, v_c5, v_bin, v_bn, v_bn2, v_div, v_dv, v_dv2, v_une, v_un, v_loc, v_num, v_get, v_gt, v_ald, v_al, v_al2, v_len, v_ln, v_rl0, v_rl1, v_rl2, v_rl3, v_rl4, v_rl5, v_cmp, v_cp, v_cp2, v_zC, v_zc, v_con, v_kc, v_and, v_an1, v_an0, v_or, v_or1, v_or0, v_not, v_nt, v_boo, v_bo, v_cnd, v_cd1, v_cd0, v_cnc, v_cc1, v_cc0, v_ev0, v_ev, v_e1, v_e2, v_cve, v_cv, v_cse, v_cs, v_skip, v_seq, v_sq0, v_sq1, v_sqr, v_sts, v_st, v_inc, v_put, v_pt, v_pt2, v_fop, v_fo, v_fo2, v_ast, v_as, v_as2, v_as3, v_aop, v_ao, v_ao2, v_ao3, v_exs, v_ex, v_ifs, v_if1, v_if0, v_ret, v_rt, v_rez, v_rz, v_rev, v_brk, v_sws, v_sw, v_sw2, v_run, v_rb, v_turn, v_tu1, v_tu0, v_tu2, v_tu3, fst1, snd1, Option.map_some, Option.getD_some, enA, en, stE, okb, narV, rf_toNat, rf_nn, List.getElem?_cons_zero, List.getElem?_cons_succ, w32_id, w64_id, ite_t, ite_f, Int.toNat_add, Int.toNat_mul, dec_t, dec_f, sM_0, eb, e2]
      have zero : putS 12 0 0 .int (locE 2 0) (numE 0) shM [(2, rf 0), (0, a), (0, b), (0, c), (0, e), (3, 0), (3, 0), (3, 0), (3, 0), (3, 0)] μM = some (0, 0, [(2, rf 0), (0, a), (0, b), (0, c), (0, e), (3, 0), (3, 0), (3, 0), (3, 0), (3, 0)], μM) := by
        simp -implicitDefEqProofs (disch := omega) [v_cop, v_c1, v_c2, v_c3, v_c4, v_c5, v_bin, v_bn, v_bn2, v_div, v_dv, v_dv2, v_une, v_un, v_loc, v_num, v_get, v_gt, v_ald, v_al, v_al2, v_len, v_ln, v_rl0, v_rl1, v_rl2, v_rl3, v_rl4, v_rl5, v_cmp, v_cp, v_cp2, v_zC, v_zc, v_con, v_kc, v_and, v_an1, v_an0, v_or, v_or1, v_or0, v_not, v_nt, v_boo, v_bo, v_cnd, v_cd1, v_cd0, v_cnc, v_cc1, v_cc0, v_ev0, v_ev, v_e1, v_e2, v_cve, v_cv, v_cse, v_cs, v_skip, v_seq, v_sq0, v_sq1, v_sqr, v_sts, v_st, v_inc, v_put, v_pt, v_pt2, v_fop, v_fo, v_fo2, v_ast, v_as, v_as2, v_as3, v_aop, v_ao, v_ao2, v_ao3, v_exs, v_ex, v_ifs, v_if1, v_if0, v_ret, v_rt, v_rez, v_rz, v_rev, v_brk, v_sws, v_sw, v_sw2, v_run, v_rb, v_turn, v_tu1, v_tu0, v_tu2, v_tu3, fst1, snd1, Option.map_some, Option.getD_some, enA, en, stE, okb, narV, rf_toNat, rf_nn, List.getElem?_cons_zero, List.getElem?_cons_succ, w32_id, w64_id, ite_t, ite_f, Int.toNat_add, Int.toNat_mul, dec_t, dec_f, sM_0, th]
      have body : bX12_parted shM [(2, rf 0), (0, a), (0, b), (0, c), (0, e), (3, 0), (3, 0), (3, 0), (3, 0), (3, 0)] μM = some (1, -1, [(2, rf 0), (0, a), (0, b), (0, c), (0, e), (0, ((2 ^ n : Nat) : Int)), (0, v), (3, 0), (3, 0), (3, 0)], μM) := by
        unfold bX12_parted
        rw [v_seq, zero, v_sq0, v_seq, fiveM, v_sq0, go_st six (by simp), show stE [(2, rf 0), (0, a), (0, b), (0, c), (0, e), (0, ((2 ^ n : Nat) : Int)), (3, 0), (3, 0), (3, 0), (3, 0)] 6 0 v = [(2, rf 0), (0, a), (0, b), (0, c), (0, e), (0, ((2 ^ n : Nat) : Int)), (0, v), (3, 0), (3, 0), (3, 0)] by simp [stE]]
        generalize ((2 ^ n : Nat) : Int) = NN at *
        by_cases z1 : 0 ≤ a ∧ a ≤ (n : Int)
        · rw [if_pos z1] at w1
          rw [if_neg (fun z => g1 ⟨z1, z⟩)] at w2
          rcases hv with rfl | rfl <;> simp -implicitDefEqProofs (disch := omega) [v_cop, v_c1, v_c2, v_c3, v_c4, v_c5, v_bin, v_bn, v_bn2, v_div, v_dv, v_dv2, v_une, v_un, v_loc, v_num, v_get, v_gt, v_ald, v_al, v_al2, v_len, v_ln, v_rl0, v_rl1, v_rl2, v_rl3, v_rl4, v_rl5, v_cmp, v_cp, v_cp2, v_zC, v_zc, v_con, v_kc, v_and, v_an1, v_an0, v_or, v_or1, v_or0, v_not, v_nt, v_boo, v_bo, v_cnd, v_cd1, v_cd0, v_cnc, v_cc1, v_cc0, v_ev0, v_ev, v_e1, v_e2, v_cve, v_cv, v_cse, v_cs, v_skip, v_seq, v_sq0, v_sq1, v_sqr, v_sts, v_st, v_inc, v_put, v_pt, v_pt2, v_fop, v_fo, v_fo2, v_ast, v_as, v_as2, v_as3, v_aop, v_ao, v_ao2, v_ao3, v_exs, v_ex, v_ifs, v_if1, v_if0, v_ret, v_rt, v_rez, v_rz, v_rev, v_brk, v_sws, v_sw, v_sw2, v_run, v_rb, v_turn, v_tu1, v_tu0, v_tu2, v_tu3, fst1, snd1, Option.map_some, Option.getD_some, enA, en, stE, okb, narV, rf_toNat, rf_nn, List.getElem?_cons_zero, List.getElem?_cons_succ, w32_id, w64_id, ite_t, ite_f, Int.toNat_add, Int.toNat_mul, dec_t, dec_f, sM_0, eb, w1, w2]
        · rw [if_neg z1] at w1
          simp -implicitDefEqProofs (disch := omega) [v_cop, v_c1, v_c2, v_c3, v_c4, v_c5, v_bin, v_bn, v_bn2, v_div, v_dv, v_dv2, v_une, v_un, v_loc, v_num, v_get, v_gt, v_ald, v_al, v_al2, v_len, v_ln, v_rl0, v_rl1, v_rl2, v_rl3, v_rl4, v_rl5, v_cmp, v_cp, v_cp2, v_zC, v_zc, v_con, v_kc, v_and, v_an1, v_an0, v_or, v_or1, v_or0, v_not, v_nt, v_boo, v_bo, v_cnd, v_cd1, v_cd0, v_cnc, v_cc1, v_cc0, v_ev0, v_ev, v_e1, v_e2, v_cve, v_cv, v_cse, v_cs, v_skip, v_seq, v_sq0, v_sq1, v_sqr, v_sts, v_st, v_inc, v_put, v_pt, v_pt2, v_fop, v_fo, v_fo2, v_ast, v_as, v_as2, v_as3, v_aop, v_ao, v_ao2, v_ao3, v_exs, v_ex, v_ifs, v_if1, v_if0, v_ret, v_rt, v_rez, v_rz, v_rev, v_brk, v_sws, v_sw, v_sw2, v_run, v_rb, v_turn, v_tu1, v_tu0, v_tu2, v_tu3, fst1, snd1, Option.map_some, Option.getD_some, enA, en, stE, okb, narV, rf_toNat, rf_nn, List.getElem?_cons_zero, List.getElem?_cons_succ, w32_id, w64_id, ite_t, ite_f, Int.toNat_add, Int.toNat_mul, dec_t, dec_f, sM_0, eb, w1]
      simp -implicitDefEqProofs (disch := omega) [fX12_parted, v_cop, v_c1, v_c2, v_c3, v_c4, v_c5, v_bin, v_bn, v_bn2, v_div, v_dv, v_dv2, v_une, v_un, v_loc, v_num, v_get, v_gt, v_ald, v_al, v_al2, v_len, v_ln, v_rl0, v_rl1, v_rl2, v_rl3, v_rl4, v_rl5, v_cmp, v_cp, v_cp2, v_zC, v_zc, v_con, v_kc, v_and, v_an1, v_an0, v_or, v_or1, v_or0, v_not, v_nt, v_boo, v_bo, v_cnd, v_cd1, v_cd0, v_cnc, v_cc1, v_cc0, v_ev0, v_ev, v_e1, v_e2, v_cve, v_cv, v_cse, v_cs, v_skip, v_seq, v_sq0, v_sq1, v_sqr, v_sts, v_st, v_inc, v_put, v_pt, v_pt2, v_fop, v_fo, v_fo2, v_ast, v_as, v_as2, v_as3, v_aop, v_ao, v_ao2, v_ao3, v_exs, v_ex, v_ifs, v_if1, v_if0, v_ret, v_rt, v_rez, v_rz, v_rev, v_brk, v_sws, v_sw, v_sw2, v_run, v_rb, v_turn, v_tu1, v_tu0, v_tu2, v_tu3, fst1, snd1, Option.map_some, Option.getD_some, enA, en, stE, okb, narV, rf_toNat, rf_nn, List.getElem?_cons_zero, List.getElem?_cons_succ, w32_id, w64_id, ite_t, ite_f, Int.toNat_add, Int.toNat_mul, dec_t, dec_f, body]
