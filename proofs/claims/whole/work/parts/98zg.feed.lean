/-! feed -/
set_option maxRecDepth 100000 in theorem by_eq (v : Int) {k : Nat} (hk : k < 57) : o_iand (w32 (o_lushr v (k : Int))) 255 = o_iand (w32 (o_lshr v (k : Int))) 255 := by
  unfold o_iand o_lushr o_lshr
  simp only [opq_eq]
  rw [i32_w, i32_w]
  refine congrArg Int32.toInt (Int32.toBitVec_inj.mp ?_)
  rw [Int32.toBitVec_and, Int32.toBitVec_and]
  apply BitVec.eq_of_getLsbD_eq
  intro i hi
  rw [BitVec.getLsbD_and, BitVec.getLsbD_and]
  by_cases c : i < 8
  · have e : ∀ y : Int64, (Int32.ofInt y.toInt).toBitVec.getLsbD i = y.toBitVec.getLsbD i := fun y => by
      show (y.toBitVec.signExtend 32).getLsbD i = _
      rw [BitVec.getLsbD_signExtend, decide_eq_true (by omega), if_pos (by omega), Bool.true_and]
    rw [e, e]
    have s1 : (((Int32.ofInt (k : Int)).toInt64.toUInt64 &&& Int64.toUInt64 63).toBitVec % 64).toNat = k := by
      have h : ∀ b : Fin 57, (((Int32.ofInt ((b : Nat) : Int)).toInt64.toUInt64 &&& Int64.toUInt64 63).toBitVec % 64).toNat = (b : Nat) := by decide +kernel
      exact h ⟨k, hk⟩
    have s2 : (((Int32.ofInt (k : Int)).toInt64 &&& 63).toBitVec.smod 64).toNat = k := by
      have h : ∀ b : Fin 57, (((Int32.ofInt ((b : Nat) : Int)).toInt64 &&& 63).toBitVec.smod 64).toNat = (b : Nat) := by decide +kernel
      exact h ⟨k, hk⟩
    have l1 : ((Int64.ofInt v).toUInt64 >>> ((Int32.ofInt (k : Int)).toInt64.toUInt64 &&& Int64.toUInt64 63)).toInt64.toBitVec.getLsbD i = (Int64.ofInt v).toBitVec.getLsbD (k + i) := by
      show ((Int64.ofInt v).toUInt64 >>> ((Int32.ofInt (k : Int)).toInt64.toUInt64 &&& Int64.toUInt64 63)).toBitVec.getLsbD i = _
      rw [UInt64.toBitVec_shiftRight, BitVec.ushiftRight_eq', BitVec.getLsbD_ushiftRight, s1]
      rfl
    have l2 : (Int64.ofInt v >>> ((Int32.ofInt (k : Int)).toInt64 &&& 63)).toBitVec.getLsbD i = (Int64.ofInt v).toBitVec.getLsbD (k + i) := by
      rw [Int64.toBitVec_shiftRight, BitVec.getLsbD_sshiftRight', s2, decide_eq_false (by omega), if_pos (by omega)]
      rfl
    rw [l1, l2]
  · have h : ∀ j : Fin 32, 8 ≤ (j : Nat) → (Int32.ofInt 255).toBitVec.getLsbD (j : Nat) = false := by decide
    have h2 : (Int32.ofInt 255).toBitVec.getLsbD i = false := h ⟨i, hi⟩ (show 8 ≤ i by omega)
    rw [h2, Bool.and_false, Bool.and_false]
set_option maxRecDepth 100000 in theorem nar_c : ∀ c : Int, 0 ≤ c → c ≤ 126 → narV 102 (o_i2c c) = c := by
  intro c h1 h2
  obtain ⟨n, rfl⟩ := Int.eq_ofNat_of_zero_le h1
  unfold o_i2c
  rw [opq_eq]
  have h : ∀ b : Fin 127, narV 102 ((((Int32.ofInt ((b : Nat) : Int)).toUInt32 % 65536).toInt32).toInt) = ((b : Nat) : Int) := by decide +kernel
  exact h ⟨n, by omega⟩
noncomputable def byS_ (v : Int) (j : Nat) : Int := o_iand (w32 (o_lushr v ((56 - 8 * j : Nat) : Int))) 255
def okS (c : Int) : Prop := c = 10 ∨ 32 ≤ c ∧ c ≤ 126
def fd1 (c : Int) (s : Nat × (Nat → Int)) : Nat × (Nat → Int) := if (c = 10 ∨ 32 ≤ c ∧ c ≤ 126) ∧ s.1 < 1000 then (s.1 + 1, upf s.2 s.1 c) else s
def fdJ (b : Nat → Int) : Nat → (Nat × (Nat → Int)) → (Nat × (Nat → Int))
  | 0, s => s
  | j + 1, s => fd1 (b j) (fdJ b j s)
def FT (s : Nat × (Nat → Int)) : Prop := s.1 ≤ 1000 ∧ ∀ i, i < s.1 → s.2 i = 10 ∨ 32 ≤ s.2 i ∧ s.2 i ≤ 126
set_option maxRecDepth 100000 in theorem FT.s1 {s : Nat × (Nat → Int)} {c : Int} (h : FT s) : FT (fd1 c s) := by
  unfold fd1
  by_cases q : (c = 10 ∨ 32 ≤ c ∧ c ≤ 126) ∧ s.1 < 1000
  · rw [if_pos q]
    refine ⟨by show s.1 + 1 ≤ 1000; omega, fun i hi => ?_⟩
    have hi : i < s.1 + 1 := hi
    show upf s.2 s.1 c i = 10 ∨ 32 ≤ upf s.2 s.1 c i ∧ upf s.2 s.1 c i ≤ 126
    by_cases e : i = s.1
    · rw [e, upf_s]; exact q.1
    · rw [upf_n e]; exact h.2 i (by omega)
  · rw [if_neg q]; exact h
set_option maxRecDepth 100000 in theorem FT.sJ {s : Nat × (Nat → Int)} {b : Nat → Int} (h : FT s) : ∀ j, FT (fdJ b j s)
  | 0 => h
  | j + 1 => (FT.sJ h j).s1
set_option maxRecDepth 100000 in theorem c_add {μ : Mem} {v : Int} {s : Nat × (Nat → Int)} (q0 : μ 1 0 = rf 2) (hs : FT s) (h1 : μ 1 1 = (s.1 : Int)) (h2 : ∀ i, i < s.1 → μ 2 i = s.2 i) : ∃ μ', fX10_addBytes shC [(2, rf 1), (1, v)] μ = some (0, μ') ∧ μ' 1 1 = ((fdJ (byS_ v) 8 s).1 : Int) ∧ (∀ i, i < (fdJ (byS_ v) 8 s).1 → μ' 2 i = (fdJ (byS_ v) 8 s).2 i) ∧ ∀ a b, a ≠ 2 → ¬ (a = 1 ∧ b = 1) → μ' a b = μ a b := by
  obtain ⟨env', m, lp, ⟨tk, tv, h3, h4, h5, h6, D⟩⟩ := loop_n (kb := 2) (kc := 3) (c := kX10_addBytes_0c) (body := kX10_addBytes_0b) (upd := kX10_addBytes_0u) (sh := shC) (n := 8) (fun j env m => ∃ (tk : Nat) (tv : Int), tk ≠ 1 ∧ env = [(2, rf 1), (1, v), (3, 0), (0, 56 - 8 * (j : Int)), (tk, tv)] ∧ m 1 1 = ((fdJ (byS_ v) j s).1 : Int) ∧ (∀ i, i < (fdJ (byS_ v) j s).1 → m 2 i = (fdJ (byS_ v) j s).2 i) ∧ ∀ a b, a ≠ 2 → ¬ (a = 1 ∧ b = 1) → m a b = μ a b) (by
    rintro j env m hj ⟨tk, tv, h3, rfl, h5, h6, D⟩
    have h3' : ¬ tk = 1 := h3
    have q0' : m 1 0 = rf 2 := by rw [D _ _ (by omega) (by omega)]; exact q0
    have ft := (hs.sJ (b := byS_ v) j).1
    have fs : fdJ (byS_ v) (j + 1) s = fd1 (byS_ v j) (fdJ (byS_ v) j s) := rfl
    rw [fs]
    generalize fdJ (byS_ v) j s = t at *
    obtain ⟨len, tp⟩ := t
    dsimp only at h5 h6 ft
    have bc : byS_ v j = o_iand (w32 (o_lushr v (56 - 8 * (j : Int)))) 255 := by unfold byS_; rw [show ((56 - 8 * j : Nat) : Int) = 56 - 8 * (j : Int) by omega]
    have x4 : binE o_iand (unE w32 (binE o_lushr (locE 1 1) (locE 0 3))) (numE 255) shC [(2, rf 1), (1, v), (3, 0), (0, 56 - 8 * (j : Int)), (tk, tv)] m = some (byS_ v j, m) := by
      rw [bc]
      simp -implicitDefEqProofs [-w32_id, v_cop, v_c1, v_c2, v_c3, v_c4, v_c5, v_bin, v_bn, v_bn2, v_div, v_dv, v_dv2, v_une, v_un, v_loc, v_num, v_get, v_gt, v_ald, v_al, v_al2, v_len, v_ln, v_rl0, v_rl1, v_rl2, v_rl3, v_rl4, v_rl5, v_cmp, v_cp, v_cp2, v_zC, v_zc, v_con, v_kc, v_and, v_an1, v_an0, v_or, v_or1, v_or0, v_not, v_nt, v_boo, v_bo, v_cnd, v_cd1, v_cd0, v_cnc, v_cc1, v_cc0, v_ev0, v_ev, v_e1, v_e2, v_cve, v_cv, v_cse, v_cs, v_skip, v_seq, v_sq0, v_sq1, v_sqr, v_sts, v_st, v_inc, v_put, v_pt, v_pt2, v_fop, v_fo, v_fo2, v_ast, v_as, v_as2, v_as3, v_aop, v_ao, v_ao2, v_ao3, v_exs, v_ex, v_ifs, v_if1, v_if0, v_ret, v_rt, v_rez, v_rz, v_rev, v_brk, v_sws, v_sw, v_sw2, v_run, v_rb, v_turn, v_tu1, v_tu0, v_tu2, v_tu3, fst1, snd1, Option.map_some, Option.getD_some, enA, en, stE, okb, narV, rf_toNat, rf_nn, List.getElem?_cons_zero, List.getElem?_cons_succ, w32_id, w64_id, ite_t, ite_f, Int.toNat_add, Int.toNat_mul, dec_t, dec_f]
    generalize byS_ v j = c at *
    have e1 : w32 (56 - 8 * (j : Int) + -8) = 56 - 8 * ((j + 1 : Nat) : Int) := by rw [w32_id ⟨by omega, by omega⟩]; omega
    have e2 : (56 : Int) - 8 * (j : Int) + -8 = 56 - 8 * ((j : Int) + 1) := by omega
    unfold fd1
    have first : ∀ m' : Mem, (ifS (andC (orC (cmpC 0 (locE 0 4) (numE 10)) (andC (cmpC 3 (locE 0 4) (numE 32)) (cmpC 5 (locE 0 4) (numE 126)))) (cmpC 2 (getE 10 1 0 (locE 2 0)) (numE 1000))) (seqS (astS 102 (getE 10 0 2 (locE 2 0)) (getE 10 1 0 (locE 2 0)) (unE o_i2c (locE 0 4))) (fopS 10 1 (fun x y => w32 (x + y)) (locE 2 0) (numE 1))) skipS) shC [(2, rf 1), (1, v), (3, 0), (0, 56 - 8 * (j : Int)), (0, c)] m = some (0, 0, [(2, rf 1), (1, v), (3, 0), (0, 56 - 8 * (j : Int)), (0, c)], m') → turnS 2 3 kX10_addBytes_0c kX10_addBytes_0b kX10_addBytes_0u shC [(2, rf 1), (1, v), (3, 0), (0, 56 - 8 * (j : Int)), (tk, tv)] m = some (.inl ([(2, rf 1), (1, v), (3, 0), (0, 56 - 8 * ((j + 1 : Nat) : Int)), (0, c)], m')) := by
      intro m' hm'
      have body : kX10_addBytes_0b shC [(2, rf 1), (1, v), (3, 0), (0, 56 - 8 * (j : Int)), (tk, tv)] m = some (0, 0, [(2, rf 1), (1, v), (3, 0), (0, 56 - 8 * (j : Int)), (0, c)], m') := by
        unfold kX10_addBytes_0b
        rw [go_st x4 (by simp), show stE [(2, rf 1), (1, v), (3, 0), (0, 56 - 8 * (j : Int)), (tk, tv)] 4 0 c = [(2, rf 1), (1, v), (3, 0), (0, 56 - 8 * (j : Int)), (0, c)] by simp [stE]]
        exact hm'
      simp -implicitDefEqProofs (disch := omega) [kX10_addBytes_0c, kX10_addBytes_0u, v_cop, v_c1, v_c2, v_c3, v_c4, v_c5, v_bin, v_bn, v_bn2, v_div, v_dv, v_dv2, v_une, v_un, v_loc, v_num, v_get, v_gt, v_ald, v_al, v_al2, v_len, v_ln, v_rl0, v_rl1, v_rl2, v_rl3, v_rl4, v_rl5, v_cmp, v_cp, v_cp2, v_zC, v_zc, v_con, v_kc, v_and, v_an1, v_an0, v_or, v_or1, v_or0, v_not, v_nt, v_boo, v_bo, v_cnd, v_cd1, v_cd0, v_cnc, v_cc1, v_cc0, v_ev0, v_ev, v_e1, v_e2, v_cve, v_cv, v_cse, v_cs, v_skip, v_seq, v_sq0, v_sq1, v_sqr, v_sts, v_st, v_inc, v_put, v_pt, v_pt2, v_fop, v_fo, v_fo2, v_ast, v_as, v_as2, v_as3, v_aop, v_ao, v_ao2, v_ao3, v_exs, v_ex, v_ifs, v_if1, v_if0, v_ret, v_rt, v_rez, v_rz, v_rev, v_brk, v_sws, v_sw, v_sw2, v_run, v_rb, v_turn, v_tu1, v_tu0, v_tu2, v_tu3, fst1, snd1, Option.map_some, Option.getD_some, enA, en, stE, okb, narV, rf_toNat, rf_nn, List.getElem?_cons_zero, List.getElem?_cons_succ, w32_id, w64_id, ite_t, ite_f, Int.toNat_add, Int.toNat_mul, dec_t, dec_f, body, e2]
    by_cases ok : (c = 10 ∨ 32 ≤ c ∧ c ≤ 126) ∧ len < 1000
    · rw [if_pos ok]
      have nc := nar_c c (by omega) (by omega)
      refine ⟨_, ud (ud m 2 len c) 1 1 ((len : Int) + 1), first _ ?_, 0, c, by decide, rfl, ud_s, fun i hi => ?_, fun a b h1 h2 => by rw [ud_n h2, ud_c h1]; exact D a b h1 h2⟩
      · have r1 : ud m 2 len c 1 1 = (len : Int) := by rw [ud_c (by omega)]; exact h5
        have wd : (vp_nar .char (Int32.ofInt (o_i2c c))).toInt = c := nc
        by_cases c10 : c = 10
        · subst c10
          simp -implicitDefEqProofs (disch := omega) [v_cop, v_c1, v_c2, v_c3, v_c4, v_c5, v_bin, v_bn, v_bn2, v_div, v_dv, v_dv2, v_une, v_un, v_loc, v_num, v_get, v_gt, v_ald, v_al, v_al2, v_len, v_ln, v_rl0, v_rl1, v_rl2, v_rl3, v_rl4, v_rl5, v_cmp, v_cp, v_cp2, v_zC, v_zc, v_con, v_kc, v_and, v_an1, v_an0, v_or, v_or1, v_or0, v_not, v_nt, v_boo, v_bo, v_cnd, v_cd1, v_cd0, v_cnc, v_cc1, v_cc0, v_ev0, v_ev, v_e1, v_e2, v_cve, v_cv, v_cse, v_cs, v_skip, v_seq, v_sq0, v_sq1, v_sqr, v_sts, v_st, v_inc, v_put, v_pt, v_pt2, v_fop, v_fo, v_fo2, v_ast, v_as, v_as2, v_as3, v_aop, v_ao, v_ao2, v_ao3, v_exs, v_ex, v_ifs, v_if1, v_if0, v_ret, v_rt, v_rez, v_rz, v_rev, v_brk, v_sws, v_sw, v_sw2, v_run, v_rb, v_turn, v_tu1, v_tu0, v_tu2, v_tu3, fst1, snd1, Option.map_some, Option.getD_some, enA, en, stE, okb, narV, rf_toNat, rf_nn, List.getElem?_cons_zero, List.getElem?_cons_succ, w32_id, w64_id, ite_t, ite_f, Int.toNat_add, Int.toNat_mul, dec_t, dec_f, sC_1, sC_2, q0', h5, wd, r1]
        · simp -implicitDefEqProofs (disch := omega) [v_cop, v_c1, v_c2, v_c3, v_c4, v_c5, v_bin, v_bn, v_bn2, v_div, v_dv, v_dv2, v_une, v_un, v_loc, v_num, v_get, v_gt, v_ald, v_al, v_al2, v_len, v_ln, v_rl0, v_rl1, v_rl2, v_rl3, v_rl4, v_rl5, v_cmp, v_cp, v_cp2, v_zC, v_zc, v_con, v_kc, v_and, v_an1, v_an0, v_or, v_or1, v_or0, v_not, v_nt, v_boo, v_bo, v_cnd, v_cd1, v_cd0, v_cnc, v_cc1, v_cc0, v_ev0, v_ev, v_e1, v_e2, v_cve, v_cv, v_cse, v_cs, v_skip, v_seq, v_sq0, v_sq1, v_sqr, v_sts, v_st, v_inc, v_put, v_pt, v_pt2, v_fop, v_fo, v_fo2, v_ast, v_as, v_as2, v_as3, v_aop, v_ao, v_ao2, v_ao3, v_exs, v_ex, v_ifs, v_if1, v_if0, v_ret, v_rt, v_rez, v_rz, v_rev, v_brk, v_sws, v_sw, v_sw2, v_run, v_rb, v_turn, v_tu1, v_tu0, v_tu2, v_tu3, fst1, snd1, Option.map_some, Option.getD_some, enA, en, stE, okb, narV, rf_toNat, rf_nn, List.getElem?_cons_zero, List.getElem?_cons_succ, w32_id, w64_id, ite_t, ite_f, Int.toNat_add, Int.toNat_mul, dec_t, dec_f, sC_1, sC_2, q0', h5, wd, r1, c10]
      · have hi : i < len + 1 := hi
        show ud (ud m 2 len c) 1 1 ((len : Int) + 1) 2 i = upf tp len c i
        rw [ud_c (by omega)]
        by_cases e : i = len
        · rw [e, ud_s, upf_s]
        · rw [ud_j e, upf_n e]; exact h6 i (by omega)
    · rw [if_neg ok]
      refine ⟨_, m, first _ ?_, 0, c, by decide, rfl, h5, h6, D⟩
      by_cases c10 : c = 10
      · subst c10
        simp -implicitDefEqProofs (disch := omega) [v_cop, v_c1, v_c2, v_c3, v_c4, v_c5, v_bin, v_bn, v_bn2, v_div, v_dv, v_dv2, v_une, v_un, v_loc, v_num, v_get, v_gt, v_ald, v_al, v_al2, v_len, v_ln, v_rl0, v_rl1, v_rl2, v_rl3, v_rl4, v_rl5, v_cmp, v_cp, v_cp2, v_zC, v_zc, v_con, v_kc, v_and, v_an1, v_an0, v_or, v_or1, v_or0, v_not, v_nt, v_boo, v_bo, v_cnd, v_cd1, v_cd0, v_cnc, v_cc1, v_cc0, v_ev0, v_ev, v_e1, v_e2, v_cve, v_cv, v_cse, v_cs, v_skip, v_seq, v_sq0, v_sq1, v_sqr, v_sts, v_st, v_inc, v_put, v_pt, v_pt2, v_fop, v_fo, v_fo2, v_ast, v_as, v_as2, v_as3, v_aop, v_ao, v_ao2, v_ao3, v_exs, v_ex, v_ifs, v_if1, v_if0, v_ret, v_rt, v_rez, v_rz, v_rev, v_brk, v_sws, v_sw, v_sw2, v_run, v_rb, v_turn, v_tu1, v_tu0, v_tu2, v_tu3, fst1, snd1, Option.map_some, Option.getD_some, enA, en, stE, okb, narV, rf_toNat, rf_nn, List.getElem?_cons_zero, List.getElem?_cons_succ, w32_id, w64_id, ite_t, ite_f, Int.toNat_add, Int.toNat_mul, dec_t, dec_f, sC_1, h5]
      · by_cases c32 : 32 ≤ c
        · by_cases c126 : c ≤ 126
          · simp -implicitDefEqProofs (disch := omega) [v_cop, v_c1, v_c2, v_c3, v_c4, v_c5, v_bin, v_bn, v_bn2, v_div, v_dv, v_dv2, v_une, v_un, v_loc, v_num, v_get, v_gt, v_ald, v_al, v_al2, v_len, v_ln, v_rl0, v_rl1, v_rl2, v_rl3, v_rl4, v_rl5, v_cmp, v_cp, v_cp2, v_zC, v_zc, v_con, v_kc, v_and, v_an1, v_an0, v_or, v_or1, v_or0, v_not, v_nt, v_boo, v_bo, v_cnd, v_cd1, v_cd0, v_cnc, v_cc1, v_cc0, v_ev0, v_ev, v_e1, v_e2, v_cve, v_cv, v_cse, v_cs, v_skip, v_seq, v_sq0, v_sq1, v_sqr, v_sts, v_st, v_inc, v_put, v_pt, v_pt2, v_fop, v_fo, v_fo2, v_ast, v_as, v_as2, v_as3, v_aop, v_ao, v_ao2, v_ao3, v_exs, v_ex, v_ifs, v_if1, v_if0, v_ret, v_rt, v_rez, v_rz, v_rev, v_brk, v_sws, v_sw, v_sw2, v_run, v_rb, v_turn, v_tu1, v_tu0, v_tu2, v_tu3, fst1, snd1, Option.map_some, Option.getD_some, enA, en, stE, okb, narV, rf_toNat, rf_nn, List.getElem?_cons_zero, List.getElem?_cons_succ, w32_id, w64_id, ite_t, ite_f, Int.toNat_add, Int.toNat_mul, dec_t, dec_f, sC_1, h5, c10]
          · simp -implicitDefEqProofs (disch := omega) [v_cop, v_c1, v_c2, v_c3, v_c4, v_c5, v_bin, v_bn, v_bn2, v_div, v_dv, v_dv2, v_une, v_un, v_loc, v_num, v_get, v_gt, v_ald, v_al, v_al2, v_len, v_ln, v_rl0, v_rl1, v_rl2, v_rl3, v_rl4, v_rl5, v_cmp, v_cp, v_cp2, v_zC, v_zc, v_con, v_kc, v_and, v_an1, v_an0, v_or, v_or1, v_or0, v_not, v_nt, v_boo, v_bo, v_cnd, v_cd1, v_cd0, v_cnc, v_cc1, v_cc0, v_ev0, v_ev, v_e1, v_e2, v_cve, v_cv, v_cse, v_cs, v_skip, v_seq, v_sq0, v_sq1, v_sqr, v_sts, v_st, v_inc, v_put, v_pt, v_pt2, v_fop, v_fo, v_fo2, v_ast, v_as, v_as2, v_as3, v_aop, v_ao, v_ao2, v_ao3, v_exs, v_ex, v_ifs, v_if1, v_if0, v_ret, v_rt, v_rez, v_rz, v_rev, v_brk, v_sws, v_sw, v_sw2, v_run, v_rb, v_turn, v_tu1, v_tu0, v_tu2, v_tu3, fst1, snd1, Option.map_some, Option.getD_some, enA, en, stE, okb, narV, rf_toNat, rf_nn, List.getElem?_cons_zero, List.getElem?_cons_succ, w32_id, w64_id, ite_t, ite_f, Int.toNat_add, Int.toNat_mul, dec_t, dec_f, c10]
        · simp -implicitDefEqProofs (disch := omega) [v_cop, v_c1, v_c2, v_c3, v_c4, v_c5, v_bin, v_bn, v_bn2, v_div, v_dv, v_dv2, v_une, v_un, v_loc, v_num, v_get, v_gt, v_ald, v_al, v_al2, v_len, v_ln, v_rl0, v_rl1, v_rl2, v_rl3, v_rl4, v_rl5, v_cmp, v_cp, v_cp2, v_zC, v_zc, v_con, v_kc, v_and, v_an1, v_an0, v_or, v_or1, v_or0, v_not, v_nt, v_boo, v_bo, v_cnd, v_cd1, v_cd0, v_cnc, v_cc1, v_cc0, v_ev0, v_ev, v_e1, v_e2, v_cve, v_cv, v_cse, v_cs, v_skip, v_seq, v_sq0, v_sq1, v_sqr, v_sts, v_st, v_inc, v_put, v_pt, v_pt2, v_fop, v_fo, v_fo2, v_ast, v_as, v_as2, v_as3, v_aop, v_ao, v_ao2, v_ao3, v_exs, v_ex, v_ifs, v_if1, v_if0, v_ret, v_rt, v_rez, v_rz, v_rev, v_brk, v_sws, v_sw, v_sw2, v_run, v_rb, v_turn, v_tu1, v_tu0, v_tu2, v_tu3, fst1, snd1, Option.map_some, Option.getD_some, enA, en, stE, okb, narV, rf_toNat, rf_nn, List.getElem?_cons_zero, List.getElem?_cons_succ, w32_id, w64_id, ite_t, ite_f, Int.toNat_add, Int.toNat_mul, dec_t, dec_f, c10]) (by
    rintro env m ⟨tk, tv, h3, rfl, -⟩
    simp -implicitDefEqProofs (disch := omega) [kX10_addBytes_0c, v_cop, v_c1, v_c2, v_c3, v_c4, v_c5, v_bin, v_bn, v_bn2, v_div, v_dv, v_dv2, v_une, v_un, v_loc, v_num, v_get, v_gt, v_ald, v_al, v_al2, v_len, v_ln, v_rl0, v_rl1, v_rl2, v_rl3, v_rl4, v_rl5, v_cmp, v_cp, v_cp2, v_zC, v_zc, v_con, v_kc, v_and, v_an1, v_an0, v_or, v_or1, v_or0, v_not, v_nt, v_boo, v_bo, v_cnd, v_cd1, v_cd0, v_cnc, v_cc1, v_cc0, v_ev0, v_ev, v_e1, v_e2, v_cve, v_cv, v_cse, v_cs, v_skip, v_seq, v_sq0, v_sq1, v_sqr, v_sts, v_st, v_inc, v_put, v_pt, v_pt2, v_fop, v_fo, v_fo2, v_ast, v_as, v_as2, v_as3, v_aop, v_ao, v_ao2, v_ao3, v_exs, v_ex, v_ifs, v_if1, v_if0, v_ret, v_rt, v_rez, v_rz, v_rev, v_brk, v_sws, v_sw, v_sw2, v_run, v_rb, v_turn, v_tu1, v_tu0, v_tu2, v_tu3, fst1, snd1, Option.map_some, Option.getD_some, enA, en, stE, okb, narV, rf_toNat, rf_nn, List.getElem?_cons_zero, List.getElem?_cons_succ, w32_id, w64_id, ite_t, ite_f, Int.toNat_add, Int.toNat_mul, dec_t, dec_f]) (env := [(2, rf 1), (1, v), (3, 0), (0, 56), (3, 0)]) (μ := μ) ⟨3, 0, by decide, rfl, h1, h2, fun _ _ _ _ => rfl⟩
  subst h4
  refine ⟨m, ?_, h5, h6, D⟩
  simp -implicitDefEqProofs (disch := omega) [fX10_addBytes, bX10_addBytes, kX10_addBytes_0, v_cop, v_c1, v_c2, v_c3, v_c4, v_c5, v_bin, v_bn, v_bn2, v_div, v_dv, v_dv2, v_une, v_un, v_loc, v_num, v_get, v_gt, v_ald, v_al, v_al2, v_len, v_ln, v_rl0, v_rl1, v_rl2, v_rl3, v_rl4, v_rl5, v_cmp, v_cp, v_cp2, v_zC, v_zc, v_con, v_kc, v_and, v_an1, v_an0, v_or, v_or1, v_or0, v_not, v_nt, v_boo, v_bo, v_cnd, v_cd1, v_cd0, v_cnc, v_cc1, v_cc0, v_ev0, v_ev, v_e1, v_e2, v_cve, v_cv, v_cse, v_cs, v_skip, v_seq, v_sq0, v_sq1, v_sqr, v_sts, v_st, v_inc, v_put, v_pt, v_pt2, v_fop, v_fo, v_fo2, v_ast, v_as, v_as2, v_as3, v_aop, v_ao, v_ao2, v_ao3, v_exs, v_ex, v_ifs, v_if1, v_if0, v_ret, v_rt, v_rez, v_rz, v_rev, v_brk, v_sws, v_sw, v_sw2, v_run, v_rb, v_turn, v_tu1, v_tu0, v_tu2, v_tu3, fst1, snd1, Option.map_some, Option.getD_some, enA, en, stE, okb, narV, rf_toNat, rf_nn, List.getElem?_cons_zero, List.getElem?_cons_succ, w32_id, w64_id, ite_t, ite_f, Int.toNat_add, Int.toNat_mul, dec_t, dec_f, lp]
set_option maxRecDepth 100000 in theorem r_add {μ : Mem} {v : Int} {s : Nat × (Nat → Int)} (p : PM μ) (hs : FT s) (h1 : μ 0 2 = (s.1 : Int)) (h2 : ∀ i, i < s.1 → μ 1 i = s.2 i) : ∃ μ', fX12_lay shM [(2, rf 0), (1, v)] μ = some (0, μ') ∧ μ' 0 2 = ((fdJ (byS_ v) 8 s).1 : Int) ∧ (∀ i, i < (fdJ (byS_ v) 8 s).1 → μ' 1 i = (fdJ (byS_ v) 8 s).2 i) ∧ ∀ a b, a ≠ 1 → ¬ (a = 0 ∧ b = 2) → μ' a b = μ a b := by
  obtain ⟨env', m, lp, ⟨tk, tv, h3, h4, h5, h6, D⟩⟩ := loop_n (kb := 2) (kc := 3) (c := kX12_lay_0c) (body := kX12_lay_0b) (upd := kX12_lay_0u) (sh := shM) (n := 8) (fun j env m => ∃ (tk : Nat) (tv : Int), tk ≠ 1 ∧ env = [(2, rf 0), (1, v), (3, 0), (0, 56 - 8 * (j : Int)), (tk, tv)] ∧ m 0 2 = ((fdJ (byS_ v) j s).1 : Int) ∧ (∀ i, i < (fdJ (byS_ v) j s).1 → m 1 i = (fdJ (byS_ v) j s).2 i) ∧ ∀ a b, a ≠ 1 → ¬ (a = 0 ∧ b = 2) → m a b = μ a b) (by
    rintro j env m hj ⟨tk, tv, h3, rfl, h5, h6, D⟩
    have h3' : ¬ tk = 1 := h3
    have q0' : m 0 1 = rf 1 := by rw [D _ _ (by omega) (by omega)]; exact p.p1
    have ft := (hs.sJ (b := byS_ v) j).1
    have fs : fdJ (byS_ v) (j + 1) s = fd1 (byS_ v j) (fdJ (byS_ v) j s) := rfl
    rw [fs]
    generalize fdJ (byS_ v) j s = t at *
    obtain ⟨len, tp⟩ := t
    dsimp only at h5 h6 ft
    have bc : byS_ v j = o_iand (w32 (o_lshr v (56 - 8 * (j : Int)))) 255 := by
      unfold byS_
      rw [by_eq v (by omega), show ((56 - 8 * j : Nat) : Int) = 56 - 8 * (j : Int) by omega]
    have x4 : binE o_iand (unE w32 (binE o_lshr (locE 1 1) (locE 0 3))) (numE 255) shM [(2, rf 0), (1, v), (3, 0), (0, 56 - 8 * (j : Int)), (tk, tv)] m = some (byS_ v j, m) := by
      rw [bc]
      simp -implicitDefEqProofs [-w32_id, v_cop, v_c1, v_c2, v_c3, v_c4, v_c5, v_bin, v_bn, v_bn2, v_div, v_dv, v_dv2, v_une, v_un, v_loc, v_num, v_get, v_gt, v_ald, v_al, v_al2, v_len, v_ln, v_rl0, v_rl1, v_rl2, v_rl3, v_rl4, v_rl5, v_cmp, v_cp, v_cp2, v_zC, v_zc, v_con, v_kc, v_and, v_an1, v_an0, v_or, v_or1, v_or0, v_not, v_nt, v_boo, v_bo, v_cnd, v_cd1, v_cd0, v_cnc, v_cc1, v_cc0, v_ev0, v_ev, v_e1, v_e2, v_cve, v_cv, v_cse, v_cs, v_skip, v_seq, v_sq0, v_sq1, v_sqr, v_sts, v_st, v_inc, v_put, v_pt, v_pt2, v_fop, v_fo, v_fo2, v_ast, v_as, v_as2, v_as3, v_aop, v_ao, v_ao2, v_ao3, v_exs, v_ex, v_ifs, v_if1, v_if0, v_ret, v_rt, v_rez, v_rz, v_rev, v_brk, v_sws, v_sw, v_sw2, v_run, v_rb, v_turn, v_tu1, v_tu0, v_tu2, v_tu3, fst1, snd1, Option.map_some, Option.getD_some, enA, en, stE, okb, narV, rf_toNat, rf_nn, List.getElem?_cons_zero, List.getElem?_cons_succ, w32_id, w64_id, ite_t, ite_f, Int.toNat_add, Int.toNat_mul, dec_t, dec_f]
    generalize byS_ v j = c at *
    have e2 : (56 : Int) - 8 * (j : Int) + -8 = 56 - 8 * ((j : Int) + 1) := by omega
    unfold fd1
    have first : ∀ m' : Mem, (ifS (andC (orC (cmpC 0 (locE 0 4) (numE 10)) (andC (cmpC 3 (locE 0 4) (numE 32)) (cmpC 5 (locE 0 4) (numE 126)))) (cmpC 2 (getE 12 2 0 (locE 2 0)) (numE 1000))) (seqS (astS 100 (getE 12 1 2 (locE 2 0)) (getE 12 2 0 (locE 2 0)) (locE 0 4)) (fopS 12 2 (fun x y => w32 (x + y)) (locE 2 0) (numE 1))) skipS) shM [(2, rf 0), (1, v), (3, 0), (0, 56 - 8 * (j : Int)), (0, c)] m = some (0, 0, [(2, rf 0), (1, v), (3, 0), (0, 56 - 8 * (j : Int)), (0, c)], m') → turnS 2 3 kX12_lay_0c kX12_lay_0b kX12_lay_0u shM [(2, rf 0), (1, v), (3, 0), (0, 56 - 8 * (j : Int)), (tk, tv)] m = some (.inl ([(2, rf 0), (1, v), (3, 0), (0, 56 - 8 * ((j + 1 : Nat) : Int)), (0, c)], m')) := by
      intro m' hm'
      have body : kX12_lay_0b shM [(2, rf 0), (1, v), (3, 0), (0, 56 - 8 * (j : Int)), (tk, tv)] m = some (0, 0, [(2, rf 0), (1, v), (3, 0), (0, 56 - 8 * (j : Int)), (0, c)], m') := by
        unfold kX12_lay_0b
        rw [go_st x4 (by simp), show stE [(2, rf 0), (1, v), (3, 0), (0, 56 - 8 * (j : Int)), (tk, tv)] 4 0 c = [(2, rf 0), (1, v), (3, 0), (0, 56 - 8 * (j : Int)), (0, c)] by simp [stE]]
        exact hm'
      simp -implicitDefEqProofs (disch := omega) [kX12_lay_0c, kX12_lay_0u, v_cop, v_c1, v_c2, v_c3, v_c4, v_c5, v_bin, v_bn, v_bn2, v_div, v_dv, v_dv2, v_une, v_un, v_loc, v_num, v_get, v_gt, v_ald, v_al, v_al2, v_len, v_ln, v_rl0, v_rl1, v_rl2, v_rl3, v_rl4, v_rl5, v_cmp, v_cp, v_cp2, v_zC, v_zc, v_con, v_kc, v_and, v_an1, v_an0, v_or, v_or1, v_or0, v_not, v_nt, v_boo, v_bo, v_cnd, v_cd1, v_cd0, v_cnc, v_cc1, v_cc0, v_ev0, v_ev, v_e1, v_e2, v_cve, v_cv, v_cse, v_cs, v_skip, v_seq, v_sq0, v_sq1, v_sqr, v_sts, v_st, v_inc, v_put, v_pt, v_pt2, v_fop, v_fo, v_fo2, v_ast, v_as, v_as2, v_as3, v_aop, v_ao, v_ao2, v_ao3, v_exs, v_ex, v_ifs, v_if1, v_if0, v_ret, v_rt, v_rez, v_rz, v_rev, v_brk, v_sws, v_sw, v_sw2, v_run, v_rb, v_turn, v_tu1, v_tu0, v_tu2, v_tu3, fst1, snd1, Option.map_some, Option.getD_some, enA, en, stE, okb, narV, rf_toNat, rf_nn, List.getElem?_cons_zero, List.getElem?_cons_succ, w32_id, w64_id, ite_t, ite_f, Int.toNat_add, Int.toNat_mul, dec_t, dec_f, body, e2]
    by_cases ok : (c = 10 ∨ 32 ≤ c ∧ c ≤ 126) ∧ len < 1000
    · rw [if_pos ok]
      refine ⟨_, ud (ud m 1 len c) 0 2 ((len : Int) + 1), first _ ?_, 0, c, by decide, rfl, ud_s, fun i hi => ?_, fun a b h1 h2 => by rw [ud_n h2, ud_c h1]; exact D a b h1 h2⟩
      · have r1 : ud m 1 len c 0 2 = (len : Int) := by rw [ud_c (by omega)]; exact h5
        by_cases c10 : c = 10
        · subst c10
          simp -implicitDefEqProofs (disch := omega) [v_cop, v_c1, v_c2, v_c3, v_c4, v_c5, v_bin, v_bn, v_bn2, v_div, v_dv, v_dv2, v_une, v_un, v_loc, v_num, v_get, v_gt, v_ald, v_al, v_al2, v_len, v_ln, v_rl0, v_rl1, v_rl2, v_rl3, v_rl4, v_rl5, v_cmp, v_cp, v_cp2, v_zC, v_zc, v_con, v_kc, v_and, v_an1, v_an0, v_or, v_or1, v_or0, v_not, v_nt, v_boo, v_bo, v_cnd, v_cd1, v_cd0, v_cnc, v_cc1, v_cc0, v_ev0, v_ev, v_e1, v_e2, v_cve, v_cv, v_cse, v_cs, v_skip, v_seq, v_sq0, v_sq1, v_sqr, v_sts, v_st, v_inc, v_put, v_pt, v_pt2, v_fop, v_fo, v_fo2, v_ast, v_as, v_as2, v_as3, v_aop, v_ao, v_ao2, v_ao3, v_exs, v_ex, v_ifs, v_if1, v_if0, v_ret, v_rt, v_rez, v_rz, v_rev, v_brk, v_sws, v_sw, v_sw2, v_run, v_rb, v_turn, v_tu1, v_tu0, v_tu2, v_tu3, fst1, snd1, Option.map_some, Option.getD_some, enA, en, stE, okb, narV, rf_toNat, rf_nn, List.getElem?_cons_zero, List.getElem?_cons_succ, w32_id, w64_id, ite_t, ite_f, Int.toNat_add, Int.toNat_mul, dec_t, dec_f, sM_0, sM_1, q0', h5, r1]
        · simp -implicitDefEqProofs (disch := omega) [v_cop, v_c1, v_c2, v_c3, v_c4, v_c5, v_bin, v_bn, v_bn2, v_div, v_dv, v_dv2, v_une, v_un, v_loc, v_num, v_get, v_gt, v_ald, v_al, v_al2, v_len, v_ln, v_rl0, v_rl1, v_rl2, v_rl3, v_rl4, v_rl5, v_cmp, v_cp, v_cp2, v_zC, v_zc, v_con, v_kc, v_and, v_an1, v_an0, v_or, v_or1, v_or0, v_not, v_nt, v_boo, v_bo, v_cnd, v_cd1, v_cd0, v_cnc, v_cc1, v_cc0, v_ev0, v_ev, v_e1, v_e2, v_cve, v_cv, v_cse, v_cs, v_skip, v_seq, v_sq0, v_sq1, v_sqr, v_sts, v_st, v_inc, v_put, v_pt, v_pt2, v_fop, v_fo, v_fo2, v_ast, v_as, v_as2, v_as3, v_aop, v_ao, v_ao2, v_ao3, v_exs, v_ex, v_ifs, v_if1, v_if0, v_ret, v_rt, v_rez, v_rz, v_rev, v_brk, v_sws, v_sw, v_sw2, v_run, v_rb, v_turn, v_tu1, v_tu0, v_tu2, v_tu3, fst1, snd1, Option.map_some, Option.getD_some, enA, en, stE, okb, narV, rf_toNat, rf_nn, List.getElem?_cons_zero, List.getElem?_cons_succ, w32_id, w64_id, ite_t, ite_f, Int.toNat_add, Int.toNat_mul, dec_t, dec_f, sM_0, sM_1, q0', h5, r1, c10]
      · have hi : i < len + 1 := hi
        show ud (ud m 1 len c) 0 2 ((len : Int) + 1) 1 i = upf tp len c i
        rw [ud_c (by omega)]
        by_cases e : i = len
        · rw [e, ud_s, upf_s]
        · rw [ud_j e, upf_n e]; exact h6 i (by omega)
    · rw [if_neg ok]
      refine ⟨_, m, first _ ?_, 0, c, by decide, rfl, h5, h6, D⟩
      by_cases c10 : c = 10
      · subst c10
        simp -implicitDefEqProofs (disch := omega) [v_cop, v_c1, v_c2, v_c3, v_c4, v_c5, v_bin, v_bn, v_bn2, v_div, v_dv, v_dv2, v_une, v_un, v_loc, v_num, v_get, v_gt, v_ald, v_al, v_al2, v_len, v_ln, v_rl0, v_rl1, v_rl2, v_rl3, v_rl4, v_rl5, v_cmp, v_cp, v_cp2, v_zC, v_zc, v_con, v_kc, v_and, v_an1, v_an0, v_or, v_or1, v_or0, v_not, v_nt, v_boo, v_bo, v_cnd, v_cd1, v_cd0, v_cnc, v_cc1, v_cc0, v_ev0, v_ev, v_e1, v_e2, v_cve, v_cv, v_cse, v_cs, v_skip, v_seq, v_sq0, v_sq1, v_sqr, v_sts, v_st, v_inc, v_put, v_pt, v_pt2, v_fop, v_fo, v_fo2, v_ast, v_as, v_as2, v_as3, v_aop, v_ao, v_ao2, v_ao3, v_exs, v_ex, v_ifs, v_if1, v_if0, v_ret, v_rt, v_rez, v_rz, v_rev, v_brk, v_sws, v_sw, v_sw2, v_run, v_rb, v_turn, v_tu1, v_tu0, v_tu2, v_tu3, fst1, snd1, Option.map_some, Option.getD_some, enA, en, stE, okb, narV, rf_toNat, rf_nn, List.getElem?_cons_zero, List.getElem?_cons_succ, w32_id, w64_id, ite_t, ite_f, Int.toNat_add, Int.toNat_mul, dec_t, dec_f, sM_0, h5]
      · by_cases c32 : 32 ≤ c
        · by_cases c126 : c ≤ 126
          · simp -implicitDefEqProofs (disch := omega) [v_cop, v_c1, v_c2, v_c3, v_c4, v_c5, v_bin, v_bn, v_bn2, v_div, v_dv, v_dv2, v_une, v_un, v_loc, v_num, v_get, v_gt, v_ald, v_al, v_al2, v_len, v_ln, v_rl0, v_rl1, v_rl2, v_rl3, v_rl4, v_rl5, v_cmp, v_cp, v_cp2, v_zC, v_zc, v_con, v_kc, v_and, v_an1, v_an0, v_or, v_or1, v_or0, v_not, v_nt, v_boo, v_bo, v_cnd, v_cd1, v_cd0, v_cnc, v_cc1, v_cc0, v_ev0, v_ev, v_e1, v_e2, v_cve, v_cv, v_cse, v_cs, v_skip, v_seq, v_sq0, v_sq1, v_sqr, v_sts, v_st, v_inc, v_put, v_pt, v_pt2, v_fop, v_fo, v_fo2, v_ast, v_as, v_as2, v_as3, v_aop, v_ao, v_ao2, v_ao3, v_exs, v_ex, v_ifs, v_if1, v_if0, v_ret, v_rt, v_rez, v_rz, v_rev, v_brk, v_sws, v_sw, v_sw2, v_run, v_rb, v_turn, v_tu1, v_tu0, v_tu2, v_tu3, fst1, snd1, Option.map_some, Option.getD_some, enA, en, stE, okb, narV, rf_toNat, rf_nn, List.getElem?_cons_zero, List.getElem?_cons_succ, w32_id, w64_id, ite_t, ite_f, Int.toNat_add, Int.toNat_mul, dec_t, dec_f, sM_0, h5, c10]
          · simp -implicitDefEqProofs (disch := omega) [v_cop, v_c1, v_c2, v_c3, v_c4, v_c5, v_bin, v_bn, v_bn2, v_div, v_dv, v_dv2, v_une, v_un, v_loc, v_num, v_get, v_gt, v_ald, v_al, v_al2, v_len, v_ln, v_rl0, v_rl1, v_rl2, v_rl3, v_rl4, v_rl5, v_cmp, v_cp, v_cp2, v_zC, v_zc, v_con, v_kc, v_and, v_an1, v_an0, v_or, v_or1, v_or0, v_not, v_nt, v_boo, v_bo, v_cnd, v_cd1, v_cd0, v_cnc, v_cc1, v_cc0, v_ev0, v_ev, v_e1, v_e2, v_cve, v_cv, v_cse, v_cs, v_skip, v_seq, v_sq0, v_sq1, v_sqr, v_sts, v_st, v_inc, v_put, v_pt, v_pt2, v_fop, v_fo, v_fo2, v_ast, v_as, v_as2, v_as3, v_aop, v_ao, v_ao2, v_ao3, v_exs, v_ex, v_ifs, v_if1, v_if0, v_ret, v_rt, v_rez, v_rz, v_rev, v_brk, v_sws, v_sw, v_sw2, v_run, v_rb, v_turn, v_tu1, v_tu0, v_tu2, v_tu3, fst1, snd1, Option.map_some, Option.getD_some, enA, en, stE, okb, narV, rf_toNat, rf_nn, List.getElem?_cons_zero, List.getElem?_cons_succ, w32_id, w64_id, ite_t, ite_f, Int.toNat_add, Int.toNat_mul, dec_t, dec_f, c10]
        · simp -implicitDefEqProofs (disch := omega) [v_cop, v_c1, v_c2, v_c3, v_c4, v_c5, v_bin, v_bn, v_bn2, v_div, v_dv, v_dv2, v_une, v_un, v_loc, v_num, v_get, v_gt, v_ald, v_al, v_al2, v_len, v_ln, v_rl0, v_rl1, v_rl2, v_rl3, v_rl4, v_rl5, v_cmp, v_cp, v_cp2, v_zC, v_zc, v_con, v_kc, v_and, v_an1, v_an0, v_or, v_or1, v_or0, v_not, v_nt, v_boo, v_bo, v_cnd, v_cd1, v_cd0, v_cnc, v_cc1, v_cc0, v_ev0, v_ev, v_e1, v_e2, v_cve, v_cv, v_cse, v_cs, v_skip, v_seq, v_sq0, v_sq1, v_sqr, v_sts, v_st, v_inc, v_put, v_pt, v_pt2, v_fop, v_fo, v_fo2, v_ast, v_as, v_as2, v_as3, v_aop, v_ao, v_ao2, v_ao3, v_exs, v_ex, v_ifs, v_if1, v_if0, v_ret, v_rt, v_rez, v_rz, v_rev, v_brk, v_sws, v_sw, v_sw2, v_run, v_rb, v_turn, v_tu1, v_tu0, v_tu2, v_tu3, fst1, snd1, Option.map_some, Option.getD_some, enA, en, stE, okb, narV, rf_toNat, rf_nn, List.getElem?_cons_zero, List.getElem?_cons_succ, w32_id, w64_id, ite_t, ite_f, Int.toNat_add, Int.toNat_mul, dec_t, dec_f, c10]) (by
    rintro env m ⟨tk, tv, h3, rfl, -⟩
    simp -implicitDefEqProofs (disch := omega) [kX12_lay_0c, v_cop, v_c1, v_c2, v_c3, v_c4, v_c5, v_bin, v_bn, v_bn2, v_div, v_dv, v_dv2, v_une, v_un, v_loc, v_num, v_get, v_gt, v_ald, v_al, v_al2, v_len, v_ln, v_rl0, v_rl1, v_rl2, v_rl3, v_rl4, v_rl5, v_cmp, v_cp, v_cp2, v_zC, v_zc, v_con, v_kc, v_and, v_an1, v_an0, v_or, v_or1, v_or0, v_not, v_nt, v_boo, v_bo, v_cnd, v_cd1, v_cd0, v_cnc, v_cc1, v_cc0, v_ev0, v_ev, v_e1, v_e2, v_cve, v_cv, v_cse, v_cs, v_skip, v_seq, v_sq0, v_sq1, v_sqr, v_sts, v_st, v_inc, v_put, v_pt, v_pt2, v_fop, v_fo, v_fo2, v_ast, v_as, v_as2, v_as3, v_aop, v_ao, v_ao2, v_ao3, v_exs, v_ex, v_ifs, v_if1, v_if0, v_ret, v_rt, v_rez, v_rz, v_rev, v_brk, v_sws, v_sw, v_sw2, v_run, v_rb, v_turn, v_tu1, v_tu0, v_tu2, v_tu3, fst1, snd1, Option.map_some, Option.getD_some, enA, en, stE, okb, narV, rf_toNat, rf_nn, List.getElem?_cons_zero, List.getElem?_cons_succ, w32_id, w64_id, ite_t, ite_f, Int.toNat_add, Int.toNat_mul, dec_t, dec_f]) (env := [(2, rf 0), (1, v), (3, 0), (0, 56), (3, 0)]) (μ := μ) ⟨3, 0, by decide, rfl, h1, h2, fun _ _ _ _ => rfl⟩
  subst h4
  refine ⟨m, ?_, h5, h6, D⟩
  simp -implicitDefEqProofs (disch := omega) [fX12_lay, bX12_lay, kX12_lay_0, v_cop, v_c1, v_c2, v_c3, v_c4, v_c5, v_bin, v_bn, v_bn2, v_div, v_dv, v_dv2, v_une, v_un, v_loc, v_num, v_get, v_gt, v_ald, v_al, v_al2, v_len, v_ln, v_rl0, v_rl1, v_rl2, v_rl3, v_rl4, v_rl5, v_cmp, v_cp, v_cp2, v_zC, v_zc, v_con, v_kc, v_and, v_an1, v_an0, v_or, v_or1, v_or0, v_not, v_nt, v_boo, v_bo, v_cnd, v_cd1, v_cd0, v_cnc, v_cc1, v_cc0, v_ev0, v_ev, v_e1, v_e2, v_cve, v_cv, v_cse, v_cs, v_skip, v_seq, v_sq0, v_sq1, v_sqr, v_sts, v_st, v_inc, v_put, v_pt, v_pt2, v_fop, v_fo, v_fo2, v_ast, v_as, v_as2, v_as3, v_aop, v_ao, v_ao2, v_ao3, v_exs, v_ex, v_ifs, v_if1, v_if0, v_ret, v_rt, v_rez, v_rz, v_rev, v_brk, v_sws, v_sw, v_sw2, v_run, v_rb, v_turn, v_tu1, v_tu0, v_tu2, v_tu3, fst1, snd1, Option.map_some, Option.getD_some, enA, en, stE, okb, narV, rf_toNat, rf_nn, List.getElem?_cons_zero, List.getElem?_cons_succ, w32_id, w64_id, ite_t, ite_f, Int.toNat_add, Int.toNat_mul, dec_t, dec_f, lp]
set_option maxRecDepth 100000 in theorem st_feed (a b c : Int) : STP RR fX11_feed fX12_feed [(1, a), (1, b), (1, c)] := by
  rintro μC μM ⟨h, d, n, P, M, R⟩
  have th := ud_same R.th
  have hh := R.hd.1
  obtain ⟨l, hl⟩ := Int.eq_ofNat_of_zero_le R.tr.l0
  try simp only [Int.ofNat_eq_natCast] at hl
  have hl1 := R.tr.l1
  have s0 : FT (l, μM 1) := ⟨by show l ≤ 1000; omega, fun i hi => by
    have hi : i < l := hi
    exact R.tr.rg i (by omega)⟩
  obtain ⟨m1, e1, a1, a2, D1⟩ := c_add (v := a) (s := (l, μM 1)) R.pc.p1_0 s0 (R.tr.le.trans hl) (fun i hi => R.tr.si i (by have hi : i < l := hi; omega))
  obtain ⟨k1, f1, b1, b2, E1⟩ := r_add (v := a) (s := (l, μM 1)) R.pm s0 hl (fun i hi => rfl)
  have s1 := s0.sJ (b := byS_ a) 8
  generalize fdJ (byS_ a) 8 (l, μM 1) = t1 at *
  have q1 : PM k1 := R.pm.keep (S := fun x y => x = 1 ∨ x = 0 ∧ y = 2) (fun x y hs => E1 x y (by omega) (by omega)) (by decide)
  obtain ⟨m2, e2, a3, a4, D2⟩ := c_add (v := b) (s := t1) (by rw [D1 _ _ (by omega) (by omega)]; exact R.pc.p1_0) s1 a1 a2
  obtain ⟨k2, f2, b3, b4, E2⟩ := r_add (v := b) (s := t1) q1 s1 b1 b2
  have s2 := s1.sJ (b := byS_ b) 8
  generalize fdJ (byS_ b) 8 t1 = t2 at *
  have q2 : PM k2 := q1.keep (S := fun x y => x = 1 ∨ x = 0 ∧ y = 2) (fun x y hs => E2 x y (by omega) (by omega)) (by decide)
  obtain ⟨m3, e3, a5, a6, D3⟩ := c_add (v := c) (s := t2) (by rw [D2 _ _ (by omega) (by omega), D1 _ _ (by omega) (by omega)]; exact R.pc.p1_0) s2 a3 a4
  obtain ⟨k3, f3, b5, b6, E3⟩ := r_add (v := c) (s := t2) q2 s2 b3 b4
  have s3 := s2.sJ (b := byS_ c) 8
  generalize fdJ (byS_ c) 8 t2 = t3 at *
  have DC : ∀ x y, x ≠ 2 → ¬ (x = 1 ∧ y = 1) → m3 x y = μC x y := fun x y h1 h2 => by rw [D3 x y h1 h2, D2 x y h1 h2, D1 x y h1 h2]
  have DM : ∀ x y, x ≠ 1 → ¬ (x = 0 ∧ y = 2) → k3 x y = μM x y := fun x y h1 h2 => by rw [E3 x y h1 h2, E2 x y h1 h2, E1 x y h1 h2]
  have g1 : m1 0 0 = rf 1 := by rw [D1 _ _ (by omega) (by omega)]; exact R.pc.p0_0
  have g2 : m2 0 0 = rf 1 := by rw [D2 _ _ (by omega) (by omega)]; exact g1
  have g3 : m3 0 0 = rf 1 := by rw [D3 _ _ (by omega) (by omega)]; exact g2
  have e15 : k3 15 = μM 15 := by funext y; exact DM 15 y (by omega) (by omega)
  have e6 : k3 6 = μM 6 := by funext y; exact DM 6 y (by omega) (by omega)
  have e7 : k3 7 = μM 7 := by funext y; exact DM 7 y (by omega) (by omega)
  have e8 : k3 8 = μM 8 := by funext y; exact DM 8 y (by omega) (by omega)
  refine ⟨(t3.1 : Int), m3, k3, ?_, ?_, h, d, n, P, M, ⟨R.pc.keep (S := fun x y => x = 2 ∨ x = 1 ∧ y = 1) (fun x y hs => DC x y (by omega) (by omega)) (by decide), ⟨hh, by rw [DC _ _ (by omega) (by omega)]; exact R.hd.2.1, by rw [DC _ _ (by omega) (by omega)]; exact R.hd.2.2⟩, R.pm.keep (S := fun x y => x = 1 ∨ x = 0 ∧ y = 2) (fun x y hs => DM x y (by omega) (by omega)) (by decide), by rw [DM _ _ (by omega) (by omega)]; exact R.th, by rw [e6]; exact R.fb, by rw [e6]; exact R.fr.of (fun x y _ _ => DC x y (by omega) (by omega)), by rw [e6, e7, e8]; exact R.lw.of (fun x y _ => DC x y (by omega) (by omega)), by rw [e6, e7, e8]; exact R.sw.of (fun x y _ => DC x y (by omega) (by omega)), ⟨by rw [a5, b5], by rw [b5]; omega, by rw [b5]; have := s3.1; omega, fun i hi => ?_, fun i hi => ?_⟩, by rw [e15]; exact R.lr.of (fun x y _ _ => DC x y (by omega) (by omega)) (fun _ _ => rfl), by rw [e15]; exact R.gr.of R.sg.f1 (fun x y _ _ => DC x y (by omega) (by omega)) (fun _ _ _ => rfl), by rw [e15]; exact R.sl, by rw [e15]; exact R.sg, R.pr.of (fun x y _ _ => DC x y (by omega) (by omega)) (DM _ _ (by omega) (by omega)) (fun i _ _ => DM _ _ (by omega) (by omega)), R.mr.of R.fb.n1 (DC _ _ (by omega) (by omega)) (fun x y _ _ => DC x y (by omega) (by omega)) (fun i _ => DM _ _ (by omega) (by omega)) (fun i _ _ => DM _ _ (by omega) (by omega))⟩⟩
  · simp -implicitDefEqProofs (disch := omega) [fX11_feed, bX11_feed, v_cop, v_c1, v_c2, v_c3, v_c4, v_c5, v_bin, v_bn, v_bn2, v_div, v_dv, v_dv2, v_une, v_un, v_loc, v_num, v_get, v_gt, v_ald, v_al, v_al2, v_len, v_ln, v_rl0, v_rl1, v_rl2, v_rl3, v_rl4, v_rl5, v_cmp, v_cp, v_cp2, v_zC, v_zc, v_con, v_kc, v_and, v_an1, v_an0, v_or, v_or1, v_or0, v_not, v_nt, v_boo, v_bo, v_cnd, v_cd1, v_cd0, v_cnc, v_cc1, v_cc0, v_ev0, v_ev, v_e1, v_e2, v_cve, v_cv, v_cse, v_cs, v_skip, v_seq, v_sq0, v_sq1, v_sqr, v_sts, v_st, v_inc, v_put, v_pt, v_pt2, v_fop, v_fo, v_fo2, v_ast, v_as, v_as2, v_as3, v_aop, v_ao, v_ao2, v_ao3, v_exs, v_ex, v_ifs, v_if1, v_if0, v_ret, v_rt, v_rez, v_rz, v_rev, v_brk, v_sws, v_sw, v_sw2, v_run, v_rb, v_turn, v_tu1, v_tu0, v_tu2, v_tu3, fst1, snd1, Option.map_some, Option.getD_some, enA, en, stE, okb, narV, rf_toNat, rf_nn, List.getElem?_cons_zero, List.getElem?_cons_succ, w32_id, w64_id, ite_t, ite_f, Int.toNat_add, Int.toNat_mul, dec_t, dec_f, sC_0, sC_1, R.pc.p0_0, g1, g2, g3, e1, e2, e3, a5]
  · simp -implicitDefEqProofs (disch := omega) [fX12_feed, bX12_feed, v_cop, v_c1, v_c2, v_c3, v_c4, v_c5, v_bin, v_bn, v_bn2, v_div, v_dv, v_dv2, v_une, v_un, v_loc, v_num, v_get, v_gt, v_ald, v_al, v_al2, v_len, v_ln, v_rl0, v_rl1, v_rl2, v_rl3, v_rl4, v_rl5, v_cmp, v_cp, v_cp2, v_zC, v_zc, v_con, v_kc, v_and, v_an1, v_an0, v_or, v_or1, v_or0, v_not, v_nt, v_boo, v_bo, v_cnd, v_cd1, v_cd0, v_cnc, v_cc1, v_cc0, v_ev0, v_ev, v_e1, v_e2, v_cve, v_cv, v_cse, v_cs, v_skip, v_seq, v_sq0, v_sq1, v_sqr, v_sts, v_st, v_inc, v_put, v_pt, v_pt2, v_fop, v_fo, v_fo2, v_ast, v_as, v_as2, v_as3, v_aop, v_ao, v_ao2, v_ao3, v_exs, v_ex, v_ifs, v_if1, v_if0, v_ret, v_rt, v_rez, v_rz, v_rev, v_brk, v_sws, v_sw, v_sw2, v_run, v_rb, v_turn, v_tu1, v_tu0, v_tu2, v_tu3, fst1, snd1, Option.map_some, Option.getD_some, enA, en, stE, okb, narV, rf_toNat, rf_nn, List.getElem?_cons_zero, List.getElem?_cons_succ, w32_id, w64_id, ite_t, ite_f, Int.toNat_add, Int.toNat_mul, dec_t, dec_f, sM_0, th, f1, f2, f3, b5]
  · rw [b5] at hi
    rw [a6 i (by omega), b6 i (by omega)]
  · rw [b5] at hi
    rw [b6 i (by omega)]
    exact s3.2 i (by omega)
