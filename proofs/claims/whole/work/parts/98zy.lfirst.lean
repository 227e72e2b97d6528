/-! few looks: the class's answers -/
set_option maxRecDepth 100000 in theorem c_lprep {μ μM : Mem} {h d n P M K : Nat} {S : Nat → Nat} (R : R0 μ μM h d n P M) (hK1 : 1 ≤ K) (hK : K ≤ 16) (F : ClkT μ S K) (hS : ∀ k, k < K → S k < 4096) : ∃ μ', fX5_prepare shC [(2, rf 114), (2, rf h), (2, rf 30), (2, rf 110)] μ = some (0, μ') ∧ μ' 114 0 = ((2 ^ K - 1 : Nat) : Int) ∧ (∀ p, p < 16 → μ' 115 p = ((gnP (μM 15) S K n p : Nat) : Int)) ∧ (∀ i, i < (2 ^ K - 1) / 16 + 1 → μ' 116 i = 0) ∧ ∀ x y, x ≠ 115 → x ≠ 116 → ¬ (x = 114 ∧ y = 0) → μ' x y = μ x y := by
  have p16 : 2 ^ K ≤ 65536 := Nat.pow_le_pow_right (n := 2) (by decide) hK
  have p1 : 1 ≤ 2 ^ K := Nat.one_le_two_pow
  have e1 := ishl1 (b := K) (by omega)
  generalize hm1 : ud μ 114 0 ((2 ^ K - 1 : Nat) : Int) = m1
  have D1 : ∀ x y, ¬ (x = 114 ∧ y = 0) → m1 x y = μ x y := fun x y hx => by rw [← hm1, ud_n hx]
  have a1 : m1 114 0 = ((2 ^ K - 1 : Nat) : Int) := by rw [← hm1, ud_s]
  have ff := f_fill (sh := shC) (μ := m1) (a := 115) (v := 0) sC_115 (by decide)
  generalize hm2 : fillM m1 115 16 0 = m2 at *
  have D2 : ∀ x y, x ≠ 115 → m2 x y = m1 x y := fun x y hx => by rw [← hm2, fillM_o hx]
  have z2 : ∀ p, p < 16 → m2 115 p = 0 := fun p hp => by rw [← hm2, fillM_in hp]
  obtain ⟨m3, l0, A3, D3⟩ := c_lp0 (μ := m2) (h := h) hK1 hK (by rw [D2 _ _ (by omega), D1 _ _ (by omega)]; exact R.pc.p114_2) (by rw [D2 _ _ (by omega)]; exact a1)
  have D03 : ∀ x y, x ≠ 115 → x ≠ 116 → ¬ (x = 114 ∧ y = 0) → m3 x y = μ x y := fun x y h1 h2 h3 => by rw [D3 x y h2, D2 x y h1, D1 x y h3]
  have R3 : R0 m3 μM h d n P M := R.cls (fun a b _ _ _ h4 h5 _ _ _ _ _ => D03 a b (by omega) (by omega) h4)
  have F3 : ClkT m3 S K := ⟨by rw [D03 _ _ (by omega) (by omega) (by omega)]; exact F.1, by rw [D03 _ _ (by omega) (by omega) (by omega)]; exact F.2.1, by rw [D03 _ _ (by omega) (by omega) (by omega)]; exact F.2.2.1, fun i hi => by rw [D03 _ _ (by omega) (by omega) (by omega)]; exact F.2.2.2 i hi⟩
  obtain ⟨e, m4, l1, A4, D4⟩ := c_lp1 R3 hK F3 hS (fun p hp => by rw [D3 _ _ (by omega)]; exact z2 p hp)
  refine ⟨m4, ?_, by rw [D4 _ _ (by omega), D3 _ _ (by omega), D2 _ _ (by omega)]; exact a1, A4, fun i hi => by rw [D4 _ _ (by omega)]; exact A3 i hi, fun x y h1 h2 h3 => by rw [D4 x y h1]; exact D03 x y h1 h2 h3⟩
  have f1 := F.1
  have q1 : m1 114 1 = rf 115 := by rw [D1 _ _ (by omega)]; exact R.pc.p114_1
  have ez : ((2 ^ K : Nat) : Int) - 1 = ((2 ^ K - 1 : Nat) : Int) := by omega
  have eb : ((2 ^ K : Nat) : Int) ≤ 65536 ∧ 1 ≤ ((2 ^ K : Nat) : Int) := by omega
  clear A3 A4 D1 D2 D3 D4 D03 F F3 hS z2 a1 R R3 hm2
  generalize hq : (((2 ^ K - 1) / 16 + 1 : Nat) : Int) = Q at *
  generalize ((2 ^ K - 1 : Nat) : Int) = E at *
  generalize ((2 ^ K : Nat) : Int) = TK_ at *
  simp -implicitDefEqProofs (disch := omega) [fX5_prepare, bX5_prepare, kX5_prepare_0, kX5_prepare_1, v_cop, v_c1, v_c2, v_c3, v_c4, v_c5, v_bin, v_bn, v_bn2, v_div, v_dv, v_dv2, v_une, v_un, v_loc, v_num, v_get, v_gt, v_ald, v_al, v_al2, v_len, v_ln, v_rl0, v_rl1, v_rl2, v_rl3, v_rl4, v_rl5, v_cmp, v_cp, v_cp2, v_zC, v_zc, v_con, v_kc, v_and, v_an1, v_an0, v_or, v_or1, v_or0, v_not, v_nt, v_boo, v_bo, v_cnd, v_cd1, v_cd0, v_cnc, v_cc1, v_cc0, v_ev0, v_ev, v_e1, v_e2, v_cve, v_cv, v_cse, v_cs, v_skip, v_seq, v_sq0, v_sq1, v_sqr, v_sts, v_st, v_inc, v_put, v_pt, v_pt2, v_fop, v_fo, v_fo2, v_ast, v_as, v_as2, v_as3, v_aop, v_ao, v_ao2, v_ao3, v_exs, v_ex, v_ifs, v_if1, v_if0, v_ret, v_rt, v_rez, v_rz, v_rev, v_brk, v_sws, v_sw, v_sw2, v_run, v_rb, v_turn, v_tu1, v_tu0, v_tu2, v_tu3, fst1, snd1, Option.map_some, Option.getD_some, enA, en, stE, okb, narV, rf_toNat, rf_nn, List.getElem?_cons_zero, List.getElem?_cons_succ, w32_id, w64_id, ite_t, ite_f, Int.toNat_add, Int.toNat_mul, dec_t, dec_f, sC_110, sC_114, f1, e1, ez, hm1, q1, ff, l0, l1]
/-- the first place that is best -/
def fpN (F : Nat → Nat) (v : Nat) : Nat → Int
  | 0 => -1
  | j + 1 => if fpN F v j = -1 ∧ F j = v then (j : Int) else fpN F v j
set_option maxRecDepth 100000 in theorem c_first {μ : Mem} {S : Nat → Nat} {n K : Nat} {G : Nat → Nat} (C : ClkG μ S n K G) (hr : 2 ^ K - 1 < 2 ^ K) (a0 : μ 114 0 = ((2 ^ K - 1 : Nat) : Int)) {m : Mem} (L : ClkS μ S n K m) (hp : 2 ≤ pcN 16 (2 ^ K - 1)) : ∃ m', fX5_firstPlace shC [(2, rf 114)] m = some (fpN (clV S n K G (2 ^ K - 1)) (lkM S n K (2 ^ K - 1)) 16, m') ∧ ClkS μ S n K m' := by
  have D := C.1
  have r16 := K16 D.1 hr
  have q0 : ∀ k, ClkS μ S n K k → k 114 0 = ((2 ^ K - 1 : Nat) : Int) := fun k Lk => by rw [Lk.1 _ _ (by omega)]; exact a0
  have lk := lk_15 D hr
  have lk1 := (lkm_b D 16 _ hr (pc_le 16 _)).2 hp
  generalize hE : 2 ^ K - 1 = E at *
  have pl := pc_le 16 E
  obtain ⟨m1, f1, L1⟩ := c_cf C 16 7 E 0 m hr (by omega) (by omega) L
  rw [show 2 * 16 + 1 + 7 = 40 from rfl, show ((0 : Nat) : Int) = 0 from rfl] at f1
  have f1' : fX5_fewest shC [(2, rf 114), (0, (E : Int)), (0, 0)] m = some (((lkM S n K E : Nat) : Int), m1) := f1
  have af : ∀ j k, j < 16 → ClkS μ S n K k → E &&& G j ≠ 0 → andn E (G j) ≠ 0 → ∃ k', fX5_afterLook shC [(2, rf 114), (0, (j : Int)), (0, (E : Int)), (0, 0)] k = some (((clV S n K G E j : Nat) : Int), k') ∧ ClkS μ S n K k' := fun j k hj Lk t0 t1 => by
    have := c_after (o := 0) C (c_cf C 16 6) hr hj (by omega) (by omega) t0 t1 Lk
    exact this
  obtain ⟨r, lp, hq⟩ := loop_up (kb := 2) (kc := 3) (c := kX5_firstPlace_0c) (body := kX5_firstPlace_0b) (upd := kX5_firstPlace_0u) (sh := shC) (n := 16) (fun j env k => env = [(2, rf 114), (0, ((lkM S n K E : Nat) : Int)), (0, (j : Int))] ∧ ClkS μ S n K k ∧ fpN (clV S n K G E) (lkM S n K E) j = -1) (fun r => (∃ e k, r = (0, 0, e, k) ∧ ClkS μ S n K k ∧ fpN (clV S n K G E) (lkM S n K E) 16 = -1) ∨ (∃ e k v, r = (1, v, e, k) ∧ ClkS μ S n K k ∧ fpN (clV S n K G E) (lkM S n K E) 16 = v)) (by
    rintro j env k hj ⟨rfl, Lk, hv⟩
    by_cases c : j < 16
    · have et := c_tells (r := E) C Lk c r16
      have q := q0 k Lk
      have fs : fpN (clV S n K G E) (lkM S n K E) (j + 1) = if fpN (clV S n K G E) (lkM S n K E) j = -1 ∧ clV S n K G E j = lkM S n K E then (j : Int) else fpN (clV S n K G E) (lkM S n K E) j := rfl
      by_cases t : E &&& G j ≠ 0 ∧ andn E (G j) ≠ 0
      · rw [if_pos t] at et
        obtain ⟨k', e1, Lk'⟩ := af j k c Lk t.1 t.2
        by_cases c2 : clV S n K G E j = lkM S n K E
        · have stay : ∀ i, fpN (clV S n K G E) (lkM S n K E) (j + 1 + i) = (j : Int) := by
            intro i
            induction i with
            | zero => rw [Nat.add_zero, fs, if_pos ⟨hv, c2⟩]
            | succ i ih =>
              show (if fpN (clV S n K G E) (lkM S n K E) (j + 1 + i) = -1 ∧ _ then _ else fpN (clV S n K G E) (lkM S n K E) (j + 1 + i)) = (j : Int)
              rw [if_neg (fun z => by have := z.1; omega)]
              exact ih
          have s16 := stay (16 - (j + 1))
          rw [show j + 1 + (16 - (j + 1)) = 16 by omega] at s16
          refine .inr ⟨(1, (j : Int), [(2, rf 114), (0, ((lkM S n K E : Nat) : Int)), (0, (j : Int))], k'), ?_, .inr ⟨_, k', (j : Int), rfl, Lk', s16⟩⟩
          rw [c2] at e1
          clear af q0 stay s16 fs hv f1 f1'
          generalize lkM S n K E = V at *
          simp -implicitDefEqProofs (disch := omega) [kX5_firstPlace_0c, kX5_firstPlace_0b, v_cop, v_c1, v_c2, v_c3, v_c4, v_c5, v_bin, v_bn, v_bn2, v_div, v_dv, v_dv2, v_une, v_un, v_loc, v_num, v_get, v_gt, v_ald, v_al, v_al2, v_len, v_ln, v_rl0, v_rl1, v_rl2, v_rl3, v_rl4, v_rl5, v_cmp, v_cp, v_cp2, v_zC, v_zc, v_con, v_kc, v_and, v_an1, v_an0, v_or, v_or1, v_or0, v_not, v_nt, v_boo, v_bo, v_cnd, v_cd1, v_cd0, v_cnc, v_cc1, v_cc0, v_ev0, v_ev, v_e1, v_e2, v_cve, v_cv, v_cse, v_cs, v_skip, v_seq, v_sq0, v_sq1, v_sqr, v_sts, v_st, v_inc, v_put, v_pt, v_pt2, v_fop, v_fo, v_fo2, v_ast, v_as, v_as2, v_as3, v_aop, v_ao, v_ao2, v_ao3, v_exs, v_ex, v_ifs, v_if1, v_if0, v_ret, v_rt, v_rez, v_rz, v_rev, v_brk, v_sws, v_sw, v_sw2, v_run, v_rb, v_turn, v_tu1, v_tu0, v_tu2, v_tu3, fst1, snd1, Option.map_some, Option.getD_some, enA, en, stE, okb, narV, rf_toNat, rf_nn, List.getElem?_cons_zero, List.getElem?_cons_succ, w32_id, w64_id, ite_t, ite_f, Int.toNat_add, Int.toNat_mul, dec_t, dec_f, sC_114, q, et, e1]
        · refine .inl ⟨c, [(2, rf 114), (0, ((lkM S n K E : Nat) : Int)), (0, ((j + 1 : Nat) : Int))], k', ?_, rfl, Lk', by rw [fs, if_neg (fun z => c2 z.2)]; exact hv⟩
          clear af q0 fs hv f1 f1'
          generalize lkM S n K E = V at *
          generalize clV S n K G E j = W at *
          simp -implicitDefEqProofs (disch := omega) [kX5_firstPlace_0c, kX5_firstPlace_0b, kX5_firstPlace_0u, v_cop, v_c1, v_c2, v_c3, v_c4, v_c5, v_bin, v_bn, v_bn2, v_div, v_dv, v_dv2, v_une, v_un, v_loc, v_num, v_get, v_gt, v_ald, v_al, v_al2, v_len, v_ln, v_rl0, v_rl1, v_rl2, v_rl3, v_rl4, v_rl5, v_cmp, v_cp, v_cp2, v_zC, v_zc, v_con, v_kc, v_and, v_an1, v_an0, v_or, v_or1, v_or0, v_not, v_nt, v_boo, v_bo, v_cnd, v_cd1, v_cd0, v_cnc, v_cc1, v_cc0, v_ev0, v_ev, v_e1, v_e2, v_cve, v_cv, v_cse, v_cs, v_skip, v_seq, v_sq0, v_sq1, v_sqr, v_sts, v_st, v_inc, v_put, v_pt, v_pt2, v_fop, v_fo, v_fo2, v_ast, v_as, v_as2, v_as3, v_aop, v_ao, v_ao2, v_ao3, v_exs, v_ex, v_ifs, v_if1, v_if0, v_ret, v_rt, v_rez, v_rz, v_rev, v_brk, v_sws, v_sw, v_sw2, v_run, v_rb, v_turn, v_tu1, v_tu0, v_tu2, v_tu3, fst1, snd1, Option.map_some, Option.getD_some, enA, en, stE, okb, narV, rf_toNat, rf_nn, List.getElem?_cons_zero, List.getElem?_cons_succ, w32_id, w64_id, ite_t, ite_f, Int.toNat_add, Int.toNat_mul, dec_t, dec_f, sC_114, q, et, e1, c2]
      · rw [if_neg t] at et
        have cv : clV S n K G E j = 99 := by unfold clV; rw [if_neg t]
        refine .inl ⟨c, [(2, rf 114), (0, ((lkM S n K E : Nat) : Int)), (0, ((j + 1 : Nat) : Int))], k, ?_, rfl, Lk, by rw [fs, if_neg (fun z => by have := z.2; omega)]; exact hv⟩
        clear af q0 fs hv f1 f1'
        generalize lkM S n K E = V at *
        simp -implicitDefEqProofs (disch := omega) [kX5_firstPlace_0c, kX5_firstPlace_0b, kX5_firstPlace_0u, v_cop, v_c1, v_c2, v_c3, v_c4, v_c5, v_bin, v_bn, v_bn2, v_div, v_dv, v_dv2, v_une, v_un, v_loc, v_num, v_get, v_gt, v_ald, v_al, v_al2, v_len, v_ln, v_rl0, v_rl1, v_rl2, v_rl3, v_rl4, v_rl5, v_cmp, v_cp, v_cp2, v_zC, v_zc, v_con, v_kc, v_and, v_an1, v_an0, v_or, v_or1, v_or0, v_not, v_nt, v_boo, v_bo, v_cnd, v_cd1, v_cd0, v_cnc, v_cc1, v_cc0, v_ev0, v_ev, v_e1, v_e2, v_cve, v_cv, v_cse, v_cs, v_skip, v_seq, v_sq0, v_sq1, v_sqr, v_sts, v_st, v_inc, v_put, v_pt, v_pt2, v_fop, v_fo, v_fo2, v_ast, v_as, v_as2, v_as3, v_aop, v_ao, v_ao2, v_ao3, v_exs, v_ex, v_ifs, v_if1, v_if0, v_ret, v_rt, v_rez, v_rz, v_rev, v_brk, v_sws, v_sw, v_sw2, v_run, v_rb, v_turn, v_tu1, v_tu0, v_tu2, v_tu3, fst1, snd1, Option.map_some, Option.getD_some, enA, en, stE, okb, narV, rf_toNat, rf_nn, List.getElem?_cons_zero, List.getElem?_cons_succ, w32_id, w64_id, ite_t, ite_f, Int.toNat_add, Int.toNat_mul, dec_t, dec_f, sC_114, q, et]
    · have cj : j = 16 := by omega
      subst cj
      refine .inr ⟨(0, 0, [(2, rf 114), (0, ((lkM S n K E : Nat) : Int)), (0, ((16 : Nat) : Int))], k), ?_, .inl ⟨_, k, rfl, Lk, hv⟩⟩
      simp -implicitDefEqProofs (disch := omega) [kX5_firstPlace_0c, v_cop, v_c1, v_c2, v_c3, v_c4, v_c5, v_bin, v_bn, v_bn2, v_div, v_dv, v_dv2, v_une, v_un, v_loc, v_num, v_get, v_gt, v_ald, v_al, v_al2, v_len, v_ln, v_rl0, v_rl1, v_rl2, v_rl3, v_rl4, v_rl5, v_cmp, v_cp, v_cp2, v_zC, v_zc, v_con, v_kc, v_and, v_an1, v_an0, v_or, v_or1, v_or0, v_not, v_nt, v_boo, v_bo, v_cnd, v_cd1, v_cd0, v_cnc, v_cc1, v_cc0, v_ev0, v_ev, v_e1, v_e2, v_cve, v_cv, v_cse, v_cs, v_skip, v_seq, v_sq0, v_sq1, v_sqr, v_sts, v_st, v_inc, v_put, v_pt, v_pt2, v_fop, v_fo, v_fo2, v_ast, v_as, v_as2, v_as3, v_aop, v_ao, v_ao2, v_ao3, v_exs, v_ex, v_ifs, v_if1, v_if0, v_ret, v_rt, v_rez, v_rz, v_rev, v_brk, v_sws, v_sw, v_sw2, v_run, v_rb, v_turn, v_tu1, v_tu0, v_tu2, v_tu3, fst1, snd1, Option.map_some, Option.getD_some, enA, en, stE, okb, narV, rf_toNat, rf_nn, List.getElem?_cons_zero, List.getElem?_cons_succ, w32_id, w64_id, ite_t, ite_f, Int.toNat_add, Int.toNat_mul, dec_t, dec_f]) (env := [(2, rf 114), (0, ((lkM S n K E : Nat) : Int)), (0, 0)]) (μ := m1) ⟨rfl, L1, rfl⟩
  have q := q0 m L
  rcases hq with ⟨e, k, rfl, Lk, hv⟩ | ⟨e, k, v, rfl, Lk, hv⟩
  · refine ⟨k, ?_, Lk⟩
    rw [hv]
    generalize ((lkM S n K E : Nat) : Int) = V at *
    simp -implicitDefEqProofs (disch := omega) [fX5_firstPlace, bX5_firstPlace, kX5_firstPlace_0, v_cop, v_c1, v_c2, v_c3, v_c4, v_c5, v_bin, v_bn, v_bn2, v_div, v_dv, v_dv2, v_une, v_un, v_loc, v_num, v_get, v_gt, v_ald, v_al, v_al2, v_len, v_ln, v_rl0, v_rl1, v_rl2, v_rl3, v_rl4, v_rl5, v_cmp, v_cp, v_cp2, v_zC, v_zc, v_con, v_kc, v_and, v_an1, v_an0, v_or, v_or1, v_or0, v_not, v_nt, v_boo, v_bo, v_cnd, v_cd1, v_cd0, v_cnc, v_cc1, v_cc0, v_ev0, v_ev, v_e1, v_e2, v_cve, v_cv, v_cse, v_cs, v_skip, v_seq, v_sq0, v_sq1, v_sqr, v_sts, v_st, v_inc, v_put, v_pt, v_pt2, v_fop, v_fo, v_fo2, v_ast, v_as, v_as2, v_as3, v_aop, v_ao, v_ao2, v_ao3, v_exs, v_ex, v_ifs, v_if1, v_if0, v_ret, v_rt, v_rez, v_rz, v_rev, v_brk, v_sws, v_sw, v_sw2, v_run, v_rb, v_turn, v_tu1, v_tu0, v_tu2, v_tu3, fst1, snd1, Option.map_some, Option.getD_some, enA, en, stE, okb, narV, rf_toNat, rf_nn, List.getElem?_cons_zero, List.getElem?_cons_succ, w32_id, w64_id, ite_t, ite_f, Int.toNat_add, Int.toNat_mul, dec_t, dec_f, sC_114, q, f1', lp]
  · refine ⟨k, ?_, Lk⟩
    rw [hv]
    generalize ((lkM S n K E : Nat) : Int) = V at *
    simp -implicitDefEqProofs (disch := omega) [fX5_firstPlace, bX5_firstPlace, kX5_firstPlace_0, v_cop, v_c1, v_c2, v_c3, v_c4, v_c5, v_bin, v_bn, v_bn2, v_div, v_dv, v_dv2, v_une, v_un, v_loc, v_num, v_get, v_gt, v_ald, v_al, v_al2, v_len, v_ln, v_rl0, v_rl1, v_rl2, v_rl3, v_rl4, v_rl5, v_cmp, v_cp, v_cp2, v_zC, v_zc, v_con, v_kc, v_and, v_an1, v_an0, v_or, v_or1, v_or0, v_not, v_nt, v_boo, v_bo, v_cnd, v_cd1, v_cd0, v_cnc, v_cc1, v_cc0, v_ev0, v_ev, v_e1, v_e2, v_cve, v_cv, v_cse, v_cs, v_skip, v_seq, v_sq0, v_sq1, v_sqr, v_sts, v_st, v_inc, v_put, v_pt, v_pt2, v_fop, v_fo, v_fo2, v_ast, v_as, v_as2, v_as3, v_aop, v_ao, v_ao2, v_ao3, v_exs, v_ex, v_ifs, v_if1, v_if0, v_ret, v_rt, v_rez, v_rz, v_rev, v_brk, v_sws, v_sw, v_sw2, v_run, v_rb, v_turn, v_tu1, v_tu0, v_tu2, v_tu3, fst1, snd1, Option.map_some, Option.getD_some, enA, en, stE, okb, narV, rf_toNat, rf_nn, List.getElem?_cons_zero, List.getElem?_cons_succ, w32_id, w64_id, ite_t, ite_f, Int.toNat_add, Int.toNat_mul, dec_t, dec_f, sC_114, q, f1', lp]
