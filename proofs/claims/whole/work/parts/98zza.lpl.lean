/-! few looks: which place first -/
noncomputable def bpN (st : Nat → Int) (F : Nat → Nat) (v : Nat) : Nat → Int
  | 0 => -1
  | j + 1 => if F j = v ∧ (bpN st F v j < 0 ∨ st (14 + j) < bpN st F v j) then st (14 + j) else bpN st F v j
set_option maxRecDepth 100000 in theorem bp_ch {st : Nat → Int} {F : Nat → Nat} {v : Nat} : ∀ n, (∀ b, b < n → F b = v → 0 ≤ st (14 + b)) → (bpN st F v n = -1 ∧ ∀ b, b < n → F b ≠ v) ∨ ∃ b, b < n ∧ F b = v ∧ bpN st F v n = st (14 + b) ∧ ∀ c, c < n → F c = v → bpN st F v n ≤ st (14 + c)
  | 0, _ => .inl ⟨rfl, fun b hb => by omega⟩
  | n + 1, h => by
    have ih := bp_ch (st := st) (F := F) (v := v) n (fun b hb => h b (by omega))
    have e : bpN st F v (n + 1) = if F n = v ∧ (bpN st F v n < 0 ∨ st (14 + n) < bpN st F v n) then st (14 + n) else bpN st F v n := rfl
    rw [e]
    by_cases c : F n = v ∧ (bpN st F v n < 0 ∨ st (14 + n) < bpN st F v n)
    · rw [if_pos c]
      refine .inr ⟨n, by omega, c.1, rfl, fun b hb hf => ?_⟩
      by_cases cb : b = n
      · rw [cb]; omega
      · rcases ih with ⟨_, i2⟩ | ⟨b', i1, i2, i3, i4⟩
        · exact absurd hf (i2 b (by omega))
        · have := i4 b (by omega) hf
          have := h b' (by omega) i2
          omega
    · rw [if_neg c]
      rcases ih with ⟨i1, i2⟩ | ⟨b', i1, i2, i3, i4⟩
      · refine .inl ⟨i1, fun b hb hf => ?_⟩
        by_cases cb : b = n
        · rw [cb] at hf
          exact c ⟨hf, .inl (by omega)⟩
        · exact i2 b (by omega) hf
      · refine .inr ⟨b', by omega, i2, i3, fun b hb hf => ?_⟩
        by_cases cb : b = n
        · rw [cb] at hf ⊢
          refine Classical.byContradiction (fun z => c ⟨hf, .inr (by omega)⟩)
        · exact i4 b (by omega) hf
set_option maxRecDepth 100000 in theorem fp_ch {F : Nat → Nat} {v : Nat} : ∀ n, (fpN F v n = -1 ∧ ∀ p, p < n → F p ≠ v) ∨ ∃ p, p < n ∧ F p = v ∧ fpN F v n = (p : Int) ∧ ∀ c, c < n → F c = v → p ≤ c
  | 0 => .inl ⟨rfl, fun b hb => by omega⟩
  | n + 1 => by
    have ih := fp_ch (F := F) (v := v) n
    have e : fpN F v (n + 1) = if fpN F v n = -1 ∧ F n = v then (n : Int) else fpN F v n := rfl
    rw [e]
    rcases ih with ⟨i1, i2⟩ | ⟨p, i1, i2, i3, i4⟩
    · by_cases c : F n = v
      · rw [if_pos ⟨i1, c⟩]
        refine .inr ⟨n, by omega, c, rfl, fun b hb hf => ?_⟩
        refine Classical.byContradiction (fun z => i2 b (by omega) hf)
      · rw [if_neg (fun z => c z.2)]
        refine .inl ⟨i1, fun b hb hf => ?_⟩
        by_cases cb : b = n
        · rw [cb] at hf; exact c hf
        · exact i2 b (by omega) hf
    · rw [if_neg (fun z => by have := z.1; omega)]
      refine .inr ⟨p, by omega, i2, i3, fun b hb hf => ?_⟩
      by_cases cb : b = n
      · omega
      · exact i4 b (by omega) hf
set_option maxRecDepth 100000 in theorem fp_eq {st : Nat → Int} {F H : Nat → Nat} {v n : Nat} (t1 : ∀ b, b < n → F b = v → ∃ p : Nat, p < 16 ∧ st (14 + b) = (p : Int) ∧ H p = v) (t2 : ∀ p, p < 16 → H p = v → ∃ b, b < n ∧ st (14 + b) = (p : Int) ∧ F b = v) : bpN st F v n = fpN H v 16 := by
  rcases bp_ch (st := st) (F := F) (v := v) n (fun b hb hf => by obtain ⟨p, _, e, _⟩ := t1 b hb hf; omega) with ⟨i1, i2⟩ | ⟨b, i1, i2, i3, i4⟩
  · rcases fp_ch (F := H) (v := v) 16 with ⟨j1, j2⟩ | ⟨p, j1, j2, j3, j4⟩
    · omega
    · obtain ⟨b, hb, _, hf⟩ := t2 p j1 j2
      exact absurd hf (i2 b hb)
  · obtain ⟨q, q1, q2, q3⟩ := t1 b i1 i2
    rcases fp_ch (F := H) (v := v) 16 with ⟨j1, j2⟩ | ⟨p, j1, j2, j3, j4⟩
    · exact absurd q3 (j2 q q1)
    · obtain ⟨c, hc, e, hf⟩ := t2 p j1 j2
      have := i4 c hc hf
      have := j4 q q1 q3
      omega
set_option maxRecDepth 100000 in theorem r_lk2 {μ : Mem} {S : Nat → Nat} {n K E : Nat} {w : Int} (G : LookG μ S n K) (hE : E < 2 ^ K) (hv : 1 ≤ lkM S n K E) (ra : ∀ b, b < n → -1 ≤ μ 15 (14 + b) ∧ μ 15 (14 + b) < 16) {m : Mem} (L : LookS μ S n K m) : ∃ e m', loopS 6 7 kX12_looks_2c kX12_looks_2b kX12_looks_2u shM [(2, rf 0), (0, w), (0, (E : Int)), (0, ((lkM S n K E : Nat) : Int)), (0, -1), (0, 0), (3, 0)] m = some (0, 0, e, m') ∧ e[4]? = some (0, bpN (μ 15) (lkB S K (lkM S n K) E) (lkM S n K E) n) ∧ LookS μ S n K m' := by
  have G' := G
  obtain ⟨p, g1, n1, D, g28, gS, glt⟩ := G'
  have pl := pc_le 16 E
  have lk := lk_15 D hE
  obtain ⟨env', m', lp, ⟨tk, tv, h3, e0, L'⟩⟩ := loop_n (kb := 6) (kc := 7) (c := kX12_looks_2c) (body := kX12_looks_2b) (upd := kX12_looks_2u) (sh := shM) (n := n) (fun j env k => ∃ (tk : Nat) (tv : Int), tk ≠ 1 ∧ env = [(2, rf 0), (0, w), (0, (E : Int)), (0, ((lkM S n K E : Nat) : Int)), (0, bpN (μ 15) (lkB S K (lkM S n K) E) (lkM S n K E) j), (0, (j : Int)), (tk, tv)] ∧ LookS μ S n K k) (by
    rintro j env k hj ⟨tk, tv, h3, rfl, Lk⟩
    have h3' : ¬ tk = 1 := h3
    have pk := Lk.pm p
    obtain ⟨k', e1, Lk'⟩ := r_by G (r_lf G 16 6) hE (by omega) hj Lk
    have e1' : fX12_looksBy shM [(2, rf 0), (0, (E : Int)), (0, (j : Int))] k = some (((lkB S K (lkM S n K) E j : Nat) : Int), k') := e1
    have eb := r_beasts pk
    rw [Lk.1 _ _ (by omega), g1] at eb
    have q15 : k 15 (14 + j) = μ 15 (14 + j) := Lk.1 _ _ (by omega)
    have rj := ra j hj
    refine ⟨[(2, rf 0), (0, w), (0, (E : Int)), (0, ((lkM S n K E : Nat) : Int)), (0, bpN (μ 15) (lkB S K (lkM S n K) E) (lkM S n K E) (j + 1)), (0, ((j + 1 : Nat) : Int)), (0, μ 15 (14 + j))], k', ?_, 0, _, by decide, rfl, Lk'⟩
    have bs : bpN (μ 15) (lkB S K (lkM S n K) E) (lkM S n K E) (j + 1) = if lkB S K (lkM S n K) E j = lkM S n K E ∧ (bpN (μ 15) (lkB S K (lkM S n K) E) (lkM S n K E) j < 0 ∨ μ 15 (14 + j) < bpN (μ 15) (lkB S K (lkM S n K) E) (lkM S n K E) j) then μ 15 (14 + j) else bpN (μ 15) (lkB S K (lkM S n K) E) (lkM S n K E) j := rfl
    rw [bs]
    clear gS glt e1 bs ra
    generalize bpN (μ 15) (lkB S K (lkM S n K) E) (lkM S n K E) j = X at *
    generalize lkB S K (lkM S n K) E j = Y at *
    generalize lkM S n K E = V at *
    generalize μ 15 (14 + j) = Q at *
    by_cases c1 : Y = V
    · subst c1
      by_cases c2 : X < 0
      · rw [if_pos ⟨rfl, .inl c2⟩]
        simp -implicitDefEqProofs (disch := omega) [kX12_looks_2c, kX12_looks_2b, kX12_looks_2u, v_cop, v_c1, v_c2, v_c3, v_c4, v_c5, v_bin, v_bn, v_bn2, v_div, v_dv, v_dv2, v_une, v_un, v_loc, v_num, v_get, v_gt, v_ald, v_al, v_al2, v_len, v_ln, v_rl0, v_rl1, v_rl2, v_rl3, v_rl4, v_rl5, v_cmp, v_cp, v_cp2, v_zC, v_zc, v_con, v_kc, v_and, v_an1, v_an0, v_or, v_or1, v_or0, v_not, v_nt, v_boo, v_bo, v_cnd, v_cd1, v_cd0, v_cnc, v_cc1, v_cc0, v_ev0, v_ev, v_e1, v_e2, v_cve, v_cv, v_cse, v_cs, v_skip, v_seq, v_sq0, v_sq1, v_sqr, v_sts, v_st, v_inc, v_put, v_pt, v_pt2, v_fop, v_fo, v_fo2, v_ast, v_as, v_as2, v_as3, v_aop, v_ao, v_ao2, v_ao3, v_exs, v_ex, v_ifs, v_if1, v_if0, v_ret, v_rt, v_rez, v_rz, v_rev, v_brk, v_sws, v_sw, v_sw2, v_run, v_rb, v_turn, v_tu1, v_tu0, v_tu2, v_tu3, fst1, snd1, Option.map_some, Option.getD_some, enA, en, stE, okb, narV, rf_toNat, rf_nn, List.getElem?_cons_zero, List.getElem?_cons_succ, w32_id, w64_id, ite_t, ite_f, Int.toNat_add, Int.toNat_mul, dec_t, dec_f, sM_0, sM_15, pk.p23, eb, q15, e1', h3']
      · by_cases c3 : Q < X
        · rw [if_pos ⟨rfl, .inr c3⟩]
          simp -implicitDefEqProofs (disch := omega) [kX12_looks_2c, kX12_looks_2b, kX12_looks_2u, v_cop, v_c1, v_c2, v_c3, v_c4, v_c5, v_bin, v_bn, v_bn2, v_div, v_dv, v_dv2, v_une, v_un, v_loc, v_num, v_get, v_gt, v_ald, v_al, v_al2, v_len, v_ln, v_rl0, v_rl1, v_rl2, v_rl3, v_rl4, v_rl5, v_cmp, v_cp, v_cp2, v_zC, v_zc, v_con, v_kc, v_and, v_an1, v_an0, v_or, v_or1, v_or0, v_not, v_nt, v_boo, v_bo, v_cnd, v_cd1, v_cd0, v_cnc, v_cc1, v_cc0, v_ev0, v_ev, v_e1, v_e2, v_cve, v_cv, v_cse, v_cs, v_skip, v_seq, v_sq0, v_sq1, v_sqr, v_sts, v_st, v_inc, v_put, v_pt, v_pt2, v_fop, v_fo, v_fo2, v_ast, v_as, v_as2, v_as3, v_aop, v_ao, v_ao2, v_ao3, v_exs, v_ex, v_ifs, v_if1, v_if0, v_ret, v_rt, v_rez, v_rz, v_rev, v_brk, v_sws, v_sw, v_sw2, v_run, v_rb, v_turn, v_tu1, v_tu0, v_tu2, v_tu3, fst1, snd1, Option.map_some, Option.getD_some, enA, en, stE, okb, narV, rf_toNat, rf_nn, List.getElem?_cons_zero, List.getElem?_cons_succ, w32_id, w64_id, ite_t, ite_f, Int.toNat_add, Int.toNat_mul, dec_t, dec_f, sM_0, sM_15, pk.p23, eb, q15, e1', h3']
        · rw [if_neg (fun z => by have := z.2; omega)]
          simp -implicitDefEqProofs (disch := omega) [kX12_looks_2c, kX12_looks_2b, kX12_looks_2u, v_cop, v_c1, v_c2, v_c3, v_c4, v_c5, v_bin, v_bn, v_bn2, v_div, v_dv, v_dv2, v_une, v_un, v_loc, v_num, v_get, v_gt, v_ald, v_al, v_al2, v_len, v_ln, v_rl0, v_rl1, v_rl2, v_rl3, v_rl4, v_rl5, v_cmp, v_cp, v_cp2, v_zC, v_zc, v_con, v_kc, v_and, v_an1, v_an0, v_or, v_or1, v_or0, v_not, v_nt, v_boo, v_bo, v_cnd, v_cd1, v_cd0, v_cnc, v_cc1, v_cc0, v_ev0, v_ev, v_e1, v_e2, v_cve, v_cv, v_cse, v_cs, v_skip, v_seq, v_sq0, v_sq1, v_sqr, v_sts, v_st, v_inc, v_put, v_pt, v_pt2, v_fop, v_fo, v_fo2, v_ast, v_as, v_as2, v_as3, v_aop, v_ao, v_ao2, v_ao3, v_exs, v_ex, v_ifs, v_if1, v_if0, v_ret, v_rt, v_rez, v_rz, v_rev, v_brk, v_sws, v_sw, v_sw2, v_run, v_rb, v_turn, v_tu1, v_tu0, v_tu2, v_tu3, fst1, snd1, Option.map_some, Option.getD_some, enA, en, stE, okb, narV, rf_toNat, rf_nn, List.getElem?_cons_zero, List.getElem?_cons_succ, w32_id, w64_id, ite_t, ite_f, Int.toNat_add, Int.toNat_mul, dec_t, dec_f, sM_0, sM_15, pk.p23, eb, q15, e1', h3']
    · rw [if_neg (fun z => c1 z.1)]
      simp -implicitDefEqProofs (disch := omega) [kX12_looks_2c, kX12_looks_2b, kX12_looks_2u, v_cop, v_c1, v_c2, v_c3, v_c4, v_c5, v_bin, v_bn, v_bn2, v_div, v_dv, v_dv2, v_une, v_un, v_loc, v_num, v_get, v_gt, v_ald, v_al, v_al2, v_len, v_ln, v_rl0, v_rl1, v_rl2, v_rl3, v_rl4, v_rl5, v_cmp, v_cp, v_cp2, v_zC, v_zc, v_con, v_kc, v_and, v_an1, v_an0, v_or, v_or1, v_or0, v_not, v_nt, v_boo, v_bo, v_cnd, v_cd1, v_cd0, v_cnc, v_cc1, v_cc0, v_ev0, v_ev, v_e1, v_e2, v_cve, v_cv, v_cse, v_cs, v_skip, v_seq, v_sq0, v_sq1, v_sqr, v_sts, v_st, v_inc, v_put, v_pt, v_pt2, v_fop, v_fo, v_fo2, v_ast, v_as, v_as2, v_as3, v_aop, v_ao, v_ao2, v_ao3, v_exs, v_ex, v_ifs, v_if1, v_if0, v_ret, v_rt, v_rez, v_rz, v_rev, v_brk, v_sws, v_sw, v_sw2, v_run, v_rb, v_turn, v_tu1, v_tu0, v_tu2, v_tu3, fst1, snd1, Option.map_some, Option.getD_some, enA, en, stE, okb, narV, rf_toNat, rf_nn, List.getElem?_cons_zero, List.getElem?_cons_succ, w32_id, w64_id, ite_t, ite_f, Int.toNat_add, Int.toNat_mul, dec_t, dec_f, sM_0, sM_15, pk.p23, eb, q15, e1', h3', c1]) (by
    rintro env k ⟨tk, tv, h3, rfl, Lk⟩
    have eb := r_beasts (Lk.pm p)
    rw [Lk.1 _ _ (by omega), g1] at eb
    simp -implicitDefEqProofs (disch := omega) [kX12_looks_2c, v_cop, v_c1, v_c2, v_c3, v_c4, v_c5, v_bin, v_bn, v_bn2, v_div, v_dv, v_dv2, v_une, v_un, v_loc, v_num, v_get, v_gt, v_ald, v_al, v_al2, v_len, v_ln, v_rl0, v_rl1, v_rl2, v_rl3, v_rl4, v_rl5, v_cmp, v_cp, v_cp2, v_zC, v_zc, v_con, v_kc, v_and, v_an1, v_an0, v_or, v_or1, v_or0, v_not, v_nt, v_boo, v_bo, v_cnd, v_cd1, v_cd0, v_cnc, v_cc1, v_cc0, v_ev0, v_ev, v_e1, v_e2, v_cve, v_cv, v_cse, v_cs, v_skip, v_seq, v_sq0, v_sq1, v_sqr, v_sts, v_st, v_inc, v_put, v_pt, v_pt2, v_fop, v_fo, v_fo2, v_ast, v_as, v_as2, v_as3, v_aop, v_ao, v_ao2, v_ao3, v_exs, v_ex, v_ifs, v_if1, v_if0, v_ret, v_rt, v_rez, v_rz, v_rev, v_brk, v_sws, v_sw, v_sw2, v_run, v_rb, v_turn, v_tu1, v_tu0, v_tu2, v_tu3, fst1, snd1, Option.map_some, Option.getD_some, enA, en, stE, okb, narV, rf_toNat, rf_nn, List.getElem?_cons_zero, List.getElem?_cons_succ, w32_id, w64_id, ite_t, ite_f, Int.toNat_add, Int.toNat_mul, dec_t, dec_f, sM_0, eb]) (env := [(2, rf 0), (0, w), (0, (E : Int)), (0, ((lkM S n K E : Nat) : Int)), (0, -1), (0, 0), (3, 0)]) (μ := m) ⟨3, 0, by decide, rfl, L⟩
  subst e0
  exact ⟨_, m', lp, rfl, L'⟩
