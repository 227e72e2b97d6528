/-! the dog's way: the class -/
def faM (fl : Nat → Int) (M : Nat) : Nat → Int := fun m => if m < M then fl (171 + 2 * m + 1) else 1
noncomputable def woM (fl st : Nat → Int) (V : (Nat → Int) → Int) (n b M : Nat) : Nat → Int := fun m => if m < M then stS_ fl st V n b m else 0
set_option maxRecDepth 100000 in theorem faM_b {fl : Nat → Int} {n P M : Nat} (B : FB fl n P M) (m : Nat) : 1 ≤ faM fl M m ∧ faM fl M m ≤ 99 := by
  unfold faM
  split
  · rename_i h
    exact B.fa m h
  · omega
set_option maxRecDepth 100000 in theorem woM_b {fl st : Nat → Int} {V : (Nat → Int) → Int} {n b M : Nat} (m : Nat) : 0 ≤ woM fl st V n b M m ∧ woM fl st V n b M m ≤ 9999 := by
  unfold woM
  split
  · exact clm_b _
  · omega
/-- the class's memory when the meadows are weighed -/
def AQ (μ : Mem) (h M : Nat) (f w : Nat → Int) : Prop := (h = 3 ∨ h = 15) ∧ shC[h]? = some (1, 0) ∧ shC[h + 5]? = some (100, 6) ∧ μ h 8 = rf (h + 5) ∧ μ h 3 = (M : Int) ∧ M ≤ 6 ∧ μ 117 0 = rf 118 ∧ μ 117 1 = rf 119 ∧ (∀ m, m < M → μ (h + 5) m = f m) ∧ (∀ m, m < M → μ 118 m = w m) ∧ (∀ m, 1 ≤ f m ∧ f m ≤ 99) ∧ ∀ m, 0 ≤ w m ∧ w m ≤ 9999
set_option maxRecDepth 100000 in theorem AQ.of {μ μ' : Mem} {h M : Nat} {f w : Nat → Int} (q : AQ μ h M f w) (e : ∀ a b, a ≠ 119 → μ' a b = μ a b) : AQ μ' h M f w := by
  obtain ⟨h1, h2, h3, h4, h5, h6, h7, h8, h9, h10, h11, h12⟩ := q
  exact ⟨h1, h2, h3, by rw [e _ _ (by omega)]; exact h4, by rw [e _ _ (by omega)]; exact h5, h6, by rw [e _ _ (by omega)]; exact h7, by rw [e _ _ (by omega)]; exact h8, fun m hm => by rw [e _ _ (by omega)]; exact h9 m hm, fun m hm => by rw [e _ _ (by omega)]; exact h10 m hm, h11, h12⟩
set_option maxRecDepth 100000 in theorem mul_b {a b : Int} (ha : 1 ≤ a ∧ a ≤ 99) (hb : 0 ≤ b ∧ b ≤ 9999) : 0 ≤ a * b ∧ a * b ≤ 989901 := by
  constructor
  · exact Int.mul_nonneg (by omega) (by omega)
  · have : a * b ≤ 99 * 9999 := Int.mul_le_mul ha.2 hb.2 hb.1 (by omega)
    omega
set_option maxRecDepth 100000 in theorem c_isBetter {μ : Mem} {h M a b : Nat} {f w : Nat → Int} (Q : AQ μ h M f w) (ha : a < M) (hb : b < M) : fX9_isBetter shC [(2, rf 117), (2, rf h), (0, (a : Int)), (0, (b : Int))] μ = some (if f a * w b < f b * w a then 1 else 0, μ) := by
  obtain ⟨h1, h2, h3, h4, h5, h6, h7, h8, h9, h10, h11, h12⟩ := Q
  have e1 := h9 a ha
  have e2 := h9 b hb
  have e3 := h10 a ha
  have e4 := h10 b hb
  have m1 := mul_b (h11 a) (h12 b)
  have m2 := mul_b (h11 b) (h12 a)
  have w1 : w32 (f a * w b) = f a * w b := w32_id ⟨by omega, by omega⟩
  have w2 : w32 (f b * w a) = f b * w a := w32_id ⟨by omega, by omega⟩
  by_cases c : f a * w b < f b * w a
  · rw [if_pos c]
    simp -implicitDefEqProofs (disch := omega) [fX9_isBetter, bX9_isBetter, v_cop, v_c1, v_c2, v_c3, v_c4, v_c5, v_bin, v_bn, v_bn2, v_div, v_dv, v_dv2, v_une, v_un, v_loc, v_num, v_get, v_gt, v_ald, v_al, v_al2, v_len, v_ln, v_rl0, v_rl1, v_rl2, v_rl3, v_rl4, v_rl5, v_cmp, v_cp, v_cp2, v_zC, v_zc, v_con, v_kc, v_and, v_an1, v_an0, v_or, v_or1, v_or0, v_not, v_nt, v_boo, v_bo, v_cnd, v_cd1, v_cd0, v_cnc, v_cc1, v_cc0, v_ev0, v_ev, v_e1, v_e2, v_cve, v_cv, v_cse, v_cs, v_skip, v_seq, v_sq0, v_sq1, v_sqr, v_sts, v_st, v_inc, v_put, v_pt, v_pt2, v_fop, v_fo, v_fo2, v_ast, v_as, v_as2, v_as3, v_aop, v_ao, v_ao2, v_ao3, v_exs, v_ex, v_ifs, v_if1, v_if0, v_ret, v_rt, v_rez, v_rz, v_rev, v_brk, v_sws, v_sw, v_sw2, v_run, v_rb, v_turn, v_tu1, v_tu0, v_tu2, v_tu3, fst1, snd1, Option.map_some, Option.getD_some, enA, en, stE, okb, narV, rf_toNat, rf_nn, List.getElem?_cons_zero, List.getElem?_cons_succ, w32_id, w64_id, ite_t, ite_f, Int.toNat_add, Int.toNat_mul, dec_t, dec_f, sC_117, sC_118, h2, h3, h4, h7, e1, e2, e3, e4, w1, w2, c]
  · rw [if_neg c]
    simp -implicitDefEqProofs (disch := omega) [fX9_isBetter, bX9_isBetter, v_cop, v_c1, v_c2, v_c3, v_c4, v_c5, v_bin, v_bn, v_bn2, v_div, v_dv, v_dv2, v_une, v_un, v_loc, v_num, v_get, v_gt, v_ald, v_al, v_al2, v_len, v_ln, v_rl0, v_rl1, v_rl2, v_rl3, v_rl4, v_rl5, v_cmp, v_cp, v_cp2, v_zC, v_zc, v_con, v_kc, v_and, v_an1, v_an0, v_or, v_or1, v_or0, v_not, v_nt, v_boo, v_bo, v_cnd, v_cd1, v_cd0, v_cnc, v_cc1, v_cc0, v_ev0, v_ev, v_e1, v_e2, v_cve, v_cv, v_cse, v_cs, v_skip, v_seq, v_sq0, v_sq1, v_sqr, v_sts, v_st, v_inc, v_put, v_pt, v_pt2, v_fop, v_fo, v_fo2, v_ast, v_as, v_as2, v_as3, v_aop, v_ao, v_ao2, v_ao3, v_exs, v_ex, v_ifs, v_if1, v_if0, v_ret, v_rt, v_rez, v_rz, v_rev, v_brk, v_sws, v_sw, v_sw2, v_run, v_rb, v_turn, v_tu1, v_tu0, v_tu2, v_tu3, fst1, snd1, Option.map_some, Option.getD_some, enA, en, stE, okb, narV, rf_toNat, rf_nn, List.getElem?_cons_zero, List.getElem?_cons_succ, w32_id, w64_id, ite_t, ite_f, Int.toNat_add, Int.toNat_mul, dec_t, dec_f, sC_117, sC_118, h2, h3, h4, h7, e1, e2, e3, e4, w1, w2, c]
set_option maxRecDepth 100000 in theorem c_arr1 {μ : Mem} {h M j : Nat} {f w : Nat → Int} (Q : AQ μ h M f w) (hj : j < M) {L : List Nat} (hL : L.length = j) (hlt : ∀ x ∈ L, x < j) (A : ∀ i (hi : i < L.length), μ 119 i = (L[i] : Int)) : ∃ (k : Nat) (μ' : Mem), k ≤ j ∧ loopS 4 5 kX9_arrange_1c kX9_arrange_1b kX9_arrange_1u shC [(2, rf 117), (2, rf h), (0, (j : Int)), (0, (j : Int))] μ = some (0, 0, [(2, rf 117), (2, rf h), (0, (j : Int)), (0, (k : Int))], μ') ∧ (∀ i (hi : i < L.length), k ≤ i → btr f w j L[i]) ∧ (∀ hk : 0 < k, ∀ hk2 : k - 1 < L.length, ¬ btr f w j (L[k - 1]'hk2)) ∧ (∀ i (hi : i < L.length), i < k → μ' 119 i = (L[i] : Int)) ∧ (∀ i (hi : i < L.length), k ≤ i → μ' 119 (i + 1) = (L[i] : Int)) ∧ ∀ x y, x ≠ 119 → μ' x y = μ x y := by
  have M1 := Q.2.2.2.2.2.1
  obtain ⟨r, lp, k, μ', hr, hk, q1, q2, q3, q4, q5⟩ := loop_inv (kb := 4) (kc := 5) (c := kX9_arrange_1c) (body := kX9_arrange_1b) (upd := kX9_arrange_1u) (sh := shC) (fun k env m => k ≤ j ∧ env = [(2, rf 117), (2, rf h), (0, (j : Int)), (0, (k : Int))] ∧ (∀ i (hi : i < L.length), k ≤ i → btr f w j L[i]) ∧ (∀ i (hi : i < L.length), i < k → m 119 i = (L[i] : Int)) ∧ (∀ i (hi : i < L.length), k ≤ i → m 119 (i + 1) = (L[i] : Int)) ∧ ∀ x y, x ≠ 119 → m x y = μ x y) (fun r => ∃ (k : Nat) (μ' : Mem), r = (0, 0, [(2, rf 117), (2, rf h), (0, (j : Int)), (0, (k : Int))], μ') ∧ k ≤ j ∧ (∀ i (hi : i < L.length), k ≤ i → btr f w j L[i]) ∧ (∀ hk : 0 < k, ∀ hk2 : k - 1 < L.length, ¬ btr f w j (L[k - 1]'hk2)) ∧ (∀ i (hi : i < L.length), i < k → μ' 119 i = (L[i] : Int)) ∧ (∀ i (hi : i < L.length), k ≤ i → μ' 119 (i + 1) = (L[i] : Int)) ∧ ∀ x y, x ≠ 119 → μ' x y = μ x y) (by
    rintro k env m ⟨hk, rfl, q1, q3, q4, q5⟩
    have Qm := Q.of (μ' := m) q5
    by_cases c0 : k = 0
    · subst c0
      refine .inr ⟨(0, 0, [(2, rf 117), (2, rf h), (0, (j : Int)), (0, ((0 : Nat) : Int))], m), ?_, 0, m, rfl, by omega, q1, fun z => by omega, q3, q4, q5⟩
      simp -implicitDefEqProofs (disch := omega) [kX9_arrange_1c, v_cop, v_c1, v_c2, v_c3, v_c4, v_c5, v_bin, v_bn, v_bn2, v_div, v_dv, v_dv2, v_une, v_un, v_loc, v_num, v_get, v_gt, v_ald, v_al, v_al2, v_len, v_ln, v_rl0, v_rl1, v_rl2, v_rl3, v_rl4, v_rl5, v_cmp, v_cp, v_cp2, v_zC, v_zc, v_con, v_kc, v_and, v_an1, v_an0, v_or, v_or1, v_or0, v_not, v_nt, v_boo, v_bo, v_cnd, v_cd1, v_cd0, v_cnc, v_cc1, v_cc0, v_ev0, v_ev, v_e1, v_e2, v_cve, v_cv, v_cse, v_cs, v_skip, v_seq, v_sq0, v_sq1, v_sqr, v_sts, v_st, v_inc, v_put, v_pt, v_pt2, v_fop, v_fo, v_fo2, v_ast, v_as, v_as2, v_as3, v_aop, v_ao, v_ao2, v_ao3, v_exs, v_ex, v_ifs, v_if1, v_if0, v_ret, v_rt, v_rez, v_rz, v_rev, v_brk, v_sws, v_sw, v_sw2, v_run, v_rb, v_turn, v_tu1, v_tu0, v_tu2, v_tu3, fst1, snd1, Option.map_some, Option.getD_some, enA, en, stE, okb, narV, rf_toNat, rf_nn, List.getElem?_cons_zero, List.getElem?_cons_succ, w32_id, w64_id, ite_t, ite_f, Int.toNat_add, Int.toNat_mul, dec_t, dec_f]
    · obtain ⟨e, rfl⟩ : ∃ e, k = e + 1 := ⟨k - 1, by omega⟩
      have he : e < L.length := by omega
      have hx := hlt L[e] (List.getElem_mem he)
      have ea := q3 e he (by omega)
      have eb := c_isBetter Qm hj (show L[e] < M by omega)
      have p1 : m 117 1 = rf 119 := Qm.2.2.2.2.2.2.2.1
      by_cases c : btr f w j L[e]
      · rw [if_pos (show f j * w L[e] < f L[e] * w j from c)] at eb
        refine .inl ⟨[(2, rf 117), (2, rf h), (0, (j : Int)), (0, (e : Int))], ud m 119 (e + 1) (L[e] : Int), e, ?_, by omega, by omega, rfl, fun i hi h2 => ?_, fun i hi h2 => ?_, fun i hi h2 => ?_, fun x y hx => by rw [ud_c hx]; exact q5 x y hx⟩
        · generalize L[e] = le at *
          simp -implicitDefEqProofs (disch := omega) [kX9_arrange_1c, kX9_arrange_1b, kX9_arrange_1u, v_cop, v_c1, v_c2, v_c3, v_c4, v_c5, v_bin, v_bn, v_bn2, v_div, v_dv, v_dv2, v_une, v_un, v_loc, v_num, v_get, v_gt, v_ald, v_al, v_al2, v_len, v_ln, v_rl0, v_rl1, v_rl2, v_rl3, v_rl4, v_rl5, v_cmp, v_cp, v_cp2, v_zC, v_zc, v_con, v_kc, v_and, v_an1, v_an0, v_or, v_or1, v_or0, v_not, v_nt, v_boo, v_bo, v_cnd, v_cd1, v_cd0, v_cnc, v_cc1, v_cc0, v_ev0, v_ev, v_e1, v_e2, v_cve, v_cv, v_cse, v_cs, v_skip, v_seq, v_sq0, v_sq1, v_sqr, v_sts, v_st, v_inc, v_put, v_pt, v_pt2, v_fop, v_fo, v_fo2, v_ast, v_as, v_as2, v_as3, v_aop, v_ao, v_ao2, v_ao3, v_exs, v_ex, v_ifs, v_if1, v_if0, v_ret, v_rt, v_rez, v_rz, v_rev, v_brk, v_sws, v_sw, v_sw2, v_run, v_rb, v_turn, v_tu1, v_tu0, v_tu2, v_tu3, fst1, snd1, Option.map_some, Option.getD_some, enA, en, stE, okb, narV, rf_toNat, rf_nn, List.getElem?_cons_zero, List.getElem?_cons_succ, w32_id, w64_id, ite_t, ite_f, Int.toNat_add, Int.toNat_mul, dec_t, dec_f, sC_117, sC_119, p1, ea, eb] <;> omega
        · by_cases ci : i = e
          · subst ci; exact c
          · exact q1 i hi (by omega)
        · rw [ud_j (by omega)]; exact q3 i hi (by omega)
        · by_cases ci : i = e
          · subst ci; rw [ud_s]
          · rw [ud_j (by omega)]; exact q4 i hi (by omega)
      · rw [if_neg (show ¬ f j * w L[e] < f L[e] * w j from c)] at eb
        refine .inr ⟨(0, 0, [(2, rf 117), (2, rf h), (0, (j : Int)), (0, ((e + 1 : Nat) : Int))], m), ?_, e + 1, m, rfl, hk, q1, fun _ _ => c, q3, q4, q5⟩
        generalize L[e] = le at *
        simp -implicitDefEqProofs (disch := omega) [kX9_arrange_1c, v_cop, v_c1, v_c2, v_c3, v_c4, v_c5, v_bin, v_bn, v_bn2, v_div, v_dv, v_dv2, v_une, v_un, v_loc, v_num, v_get, v_gt, v_ald, v_al, v_al2, v_len, v_ln, v_rl0, v_rl1, v_rl2, v_rl3, v_rl4, v_rl5, v_cmp, v_cp, v_cp2, v_zC, v_zc, v_con, v_kc, v_and, v_an1, v_an0, v_or, v_or1, v_or0, v_not, v_nt, v_boo, v_bo, v_cnd, v_cd1, v_cd0, v_cnc, v_cc1, v_cc0, v_ev0, v_ev, v_e1, v_e2, v_cve, v_cv, v_cse, v_cs, v_skip, v_seq, v_sq0, v_sq1, v_sqr, v_sts, v_st, v_inc, v_put, v_pt, v_pt2, v_fop, v_fo, v_fo2, v_ast, v_as, v_as2, v_as3, v_aop, v_ao, v_ao2, v_ao3, v_exs, v_ex, v_ifs, v_if1, v_if0, v_ret, v_rt, v_rez, v_rz, v_rev, v_brk, v_sws, v_sw, v_sw2, v_run, v_rb, v_turn, v_tu1, v_tu0, v_tu2, v_tu3, fst1, snd1, Option.map_some, Option.getD_some, enA, en, stE, okb, narV, rf_toNat, rf_nn, List.getElem?_cons_zero, List.getElem?_cons_succ, w32_id, w64_id, ite_t, ite_f, Int.toNat_add, Int.toNat_mul, dec_t, dec_f, sC_117, sC_119, p1, ea, eb]) j _ μ ⟨Nat.le_refl j, rfl, fun i hi h2 => by omega, fun i hi _ => A i hi, fun i hi h2 => by omega, fun _ _ _ => rfl⟩
  subst hr
  exact ⟨k, μ', hk, lp, q1, q2, q3, q4, q5⟩
set_option maxRecDepth 100000 in theorem c_arrange {μ : Mem} {h M : Nat} {f w : Nat → Int} (Q : AQ μ h M f w) : ∃ (L : List Nat) (μ' : Mem), fX9_arrange shC [(2, rf 117), (2, rf h)] μ = some (0, μ') ∧ L.length = M ∧ L.Pairwise (prc f w) ∧ L.Nodup ∧ (∀ x ∈ L, x < M) ∧ (∀ x, x < M → x ∈ L) ∧ (∀ i (hi : i < L.length), μ' 119 i = (L[i] : Int)) ∧ ∀ x y, x ≠ 119 → μ' x y = μ x y := by
  have M1 := Q.2.2.2.2.2.1
  obtain ⟨env', m, lp, ⟨L, a3, v3, b3, e0, h1, h2, h3, h4, h6, h5, D⟩⟩ := loop_n (kb := 2) (kc := 3) (c := kX9_arrange_0c) (body := kX9_arrange_0b) (upd := kX9_arrange_0u) (sh := shC) (n := M) (fun j env m => ∃ (L : List Nat) (a3 : Nat) (v3 : Int), a3 ≠ 1 ∧ env = [(2, rf 117), (2, rf h), (0, (j : Int)), (a3, v3)] ∧ L.length = j ∧ L.Pairwise (prc f w) ∧ L.Nodup ∧ (∀ x ∈ L, x < j) ∧ (∀ x, x < j → x ∈ L) ∧ (∀ i (hi : i < L.length), m 119 i = (L[i] : Int)) ∧ ∀ x y, x ≠ 119 → m x y = μ x y) (by
    rintro j env m hj ⟨L, a3, v3, b3, rfl, h1, h2, h3, h4, h6, h5, D⟩
    have Qm := Q.of (μ' := m) D
    have b3' : ¬ a3 = 1 := b3
    obtain ⟨k, m', hk, lp, q1, q2, q3, q4, q5⟩ := c_arr1 Qm hj h1 h4 h5
    have Q' := Qm.of (μ' := m') q5
    obtain ⟨r1, r2, r3, r4, r5, r6, r7, r8, -⟩ := Qm
    have p1 : m' 117 1 = rf 119 := Q'.2.2.2.2.2.2.2.1
    have pw := ins_pw (f := f) (w := w) (m := j) (k := k) (fun m => (Q.2.2.2.2.2.2.2.2.2.2.1 m).1) h2 h4 (by omega) (fun i hi hki => q1 i hi hki) (fun hk0 => q2 hk0 (by omega))
    refine ⟨[(2, rf 117), (2, rf h), (0, ((j + 1 : Nat) : Int)), (0, (k : Int))], ud m' 119 k (j : Int), ?_, L.take k ++ j :: L.drop k, 0, (k : Int), by decide, rfl, ?_, pw, ?_, ?_, ?_, fun i hi => ?_, fun x y hx => by rw [ud_c hx, q5 x y hx]; exact D x y hx⟩
    · simp -implicitDefEqProofs (disch := omega) [kX9_arrange_0c, kX9_arrange_0b, kX9_arrange_0u, kX9_arrange_1, v_cop, v_c1, v_c2, v_c3, v_c4, v_c5, v_bin, v_bn, v_bn2, v_div, v_dv, v_dv2, v_une, v_un, v_loc, v_num, v_get, v_gt, v_ald, v_al, v_al2, v_len, v_ln, v_rl0, v_rl1, v_rl2, v_rl3, v_rl4, v_rl5, v_cmp, v_cp, v_cp2, v_zC, v_zc, v_con, v_kc, v_and, v_an1, v_an0, v_or, v_or1, v_or0, v_not, v_nt, v_boo, v_bo, v_cnd, v_cd1, v_cd0, v_cnc, v_cc1, v_cc0, v_ev0, v_ev, v_e1, v_e2, v_cve, v_cv, v_cse, v_cs, v_skip, v_seq, v_sq0, v_sq1, v_sqr, v_sts, v_st, v_inc, v_put, v_pt, v_pt2, v_fop, v_fo, v_fo2, v_ast, v_as, v_as2, v_as3, v_aop, v_ao, v_ao2, v_ao3, v_exs, v_ex, v_ifs, v_if1, v_if0, v_ret, v_rt, v_rez, v_rz, v_rev, v_brk, v_sws, v_sw, v_sw2, v_run, v_rb, v_turn, v_tu1, v_tu0, v_tu2, v_tu3, fst1, snd1, Option.map_some, Option.getD_some, enA, en, stE, okb, narV, rf_toNat, rf_nn, List.getElem?_cons_zero, List.getElem?_cons_succ, w32_id, w64_id, ite_t, ite_f, Int.toNat_add, Int.toNat_mul, dec_t, dec_f, sC_117, sC_119, r2, r5, b3', lp, p1]
    · rw [List.length_append, List.length_cons, List.length_take, List.length_drop]
      omega
    · have nd : (L.take k ++ L.drop k).Nodup := by rw [List.take_append_drop]; exact h3
      obtain ⟨n1, n2, n3⟩ := List.nodup_append.mp nd
      refine List.nodup_append.mpr ⟨n1, List.nodup_cons.mpr ⟨fun z => by have := h4 j (List.mem_of_mem_drop z); omega, n2⟩, fun a ha c hc => ?_⟩
      rcases List.mem_cons.mp hc with rfl | hc
      · have := h4 a (List.mem_of_mem_take ha)
        omega
      · exact n3 a ha c hc
    · intro x hx
      rcases List.mem_append.mp hx with z | z
      · have := h4 x (List.mem_of_mem_take z)
        omega
      · rcases List.mem_cons.mp z with rfl | z
        · omega
        · have := h4 x (List.mem_of_mem_drop z)
          omega
    · intro x hx
      by_cases c : x = j
      · rw [c]; exact List.mem_append.mpr (.inr List.mem_cons_self)
      · have hm := h6 x (by omega)
        rw [← List.take_append_drop k L] at hm
        rcases List.mem_append.mp hm with z | z
        · exact List.mem_append.mpr (.inl z)
        · exact List.mem_append.mpr (.inr (List.mem_cons_of_mem j z))
    · have len : (L.take k).length = k := by rw [List.length_take]; omega
      have hi' : i < j + 1 := by
        rw [List.length_append, List.length_cons, List.length_take, List.length_drop] at hi
        omega
      by_cases c1 : i < k
      · rw [ud_j (by omega), q3 i (by omega) c1, List.getElem_append_left (by omega), List.getElem_take]
      · rw [List.getElem_append_right (by omega)]
        by_cases c2 : i = k
        · subst c2
          rw [ud_s]
          simp [len]
        · obtain ⟨e, rfl⟩ : ∃ e, i = e + 1 := ⟨i - 1, by omega⟩
          rw [ud_j c2, q4 e (by omega) (by omega)]
          have : e + 1 - (L.take k).length = (e - k) + 1 := by omega
          simp only [this, List.getElem_cons_succ, List.getElem_drop]
          congr 2
          omega) (by
    rintro env m ⟨L, a3, v3, b3, rfl, -, -, -, -, -, -, D⟩
    have Qm := Q.of (μ' := m) D
    obtain ⟨r1, r2, r3, r4, r5, -⟩ := Qm
    simp -implicitDefEqProofs (disch := omega) [kX9_arrange_0c, v_cop, v_c1, v_c2, v_c3, v_c4, v_c5, v_bin, v_bn, v_bn2, v_div, v_dv, v_dv2, v_une, v_un, v_loc, v_num, v_get, v_gt, v_ald, v_al, v_al2, v_len, v_ln, v_rl0, v_rl1, v_rl2, v_rl3, v_rl4, v_rl5, v_cmp, v_cp, v_cp2, v_zC, v_zc, v_con, v_kc, v_and, v_an1, v_an0, v_or, v_or1, v_or0, v_not, v_nt, v_boo, v_bo, v_cnd, v_cd1, v_cd0, v_cnc, v_cc1, v_cc0, v_ev0, v_ev, v_e1, v_e2, v_cve, v_cv, v_cse, v_cs, v_skip, v_seq, v_sq0, v_sq1, v_sqr, v_sts, v_st, v_inc, v_put, v_pt, v_pt2, v_fop, v_fo, v_fo2, v_ast, v_as, v_as2, v_as3, v_aop, v_ao, v_ao2, v_ao3, v_exs, v_ex, v_ifs, v_if1, v_if0, v_ret, v_rt, v_rez, v_rz, v_rev, v_brk, v_sws, v_sw, v_sw2, v_run, v_rb, v_turn, v_tu1, v_tu0, v_tu2, v_tu3, fst1, snd1, Option.map_some, Option.getD_some, enA, en, stE, okb, narV, rf_toNat, rf_nn, List.getElem?_cons_zero, List.getElem?_cons_succ, w32_id, w64_id, ite_t, ite_f, Int.toNat_add, Int.toNat_mul, dec_t, dec_f, r2, r5]) (env := [(2, rf 117), (2, rf h), (0, 0), (3, 0)]) (μ := μ) ⟨[], 3, 0, by decide, rfl, rfl, List.Pairwise.nil, List.nodup_nil, fun x hx => absurd hx (by simp), fun x hx => by omega, fun i hi => absurd hi (by simp), fun _ _ _ => rfl⟩
  subst e0
  refine ⟨L, m, ?_, h1, h2, h3, h4, h6, h5, D⟩
  simp -implicitDefEqProofs (disch := omega) [fX9_arrange, bX9_arrange, kX9_arrange_0, v_cop, v_c1, v_c2, v_c3, v_c4, v_c5, v_bin, v_bn, v_bn2, v_div, v_dv, v_dv2, v_une, v_un, v_loc, v_num, v_get, v_gt, v_ald, v_al, v_al2, v_len, v_ln, v_rl0, v_rl1, v_rl2, v_rl3, v_rl4, v_rl5, v_cmp, v_cp, v_cp2, v_zC, v_zc, v_con, v_kc, v_and, v_an1, v_an0, v_or, v_or1, v_or0, v_not, v_nt, v_boo, v_bo, v_cnd, v_cd1, v_cd0, v_cnc, v_cc1, v_cc0, v_ev0, v_ev, v_e1, v_e2, v_cve, v_cv, v_cse, v_cs, v_skip, v_seq, v_sq0, v_sq1, v_sqr, v_sts, v_st, v_inc, v_put, v_pt, v_pt2, v_fop, v_fo, v_fo2, v_ast, v_as, v_as2, v_as3, v_aop, v_ao, v_ao2, v_ao3, v_exs, v_ex, v_ifs, v_if1, v_if0, v_ret, v_rt, v_rez, v_rz, v_rev, v_brk, v_sws, v_sw, v_sw2, v_run, v_rb, v_turn, v_tu1, v_tu0, v_tu2, v_tu3, fst1, snd1, Option.map_some, Option.getD_some, enA, en, stE, okb, narV, rf_toNat, rf_nn, List.getElem?_cons_zero, List.getElem?_cons_succ, w32_id, w64_id, ite_t, ite_f, Int.toNat_add, Int.toNat_mul, dec_t, dec_f, lp]
