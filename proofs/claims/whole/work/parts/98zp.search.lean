/-! the dog's way: both -/
set_option maxRecDepth 100000 in theorem c_minutes {μ : Mem} {h M : Nat} {f w : Nat → Int} (Q : AQ μ h M f w) {L : List Nat} (hL : L.length = M) (hlt : ∀ x ∈ L, x < M) (A : ∀ i (hi : i < L.length), μ 119 i = (L[i] : Int)) : fX9_minutes shC [(2, rf 117), (2, rf h)] μ = some (cst f w 0 L, μ) := by
  obtain ⟨h1, h2, h3, h4, h5, h6, h7, h8, h9, h10, hf, hw⟩ := Q
  have lp := loop_run (kb := 2) (kc := 3) (c := kX9_minutes_0c) (body := kX9_minutes_0b) (upd := kX9_minutes_0u) (sh := shC) (fun j => [(2, rf 117), (2, rf h), (1, cst f w 0 (L.take j)), (3, 0), (0, ((L.take j).map f).sum), (0, (j : Int))]) (fun _ => μ) (r := (0, 0, [(2, rf 117), (2, rf h), (1, cst f w 0 (L.take M)), (3, 0), (0, ((L.take M).map f).sum), (0, (M : Int))], μ)) M (by
    intro j hj
    have hjA : j < L.length := by omega
    have hx := hlt L[j] (List.getElem_mem hjA)
    have r1 := A j hjA
    have r2 := h9 L[j] hx
    have r3 := h10 L[j] hx
    have tk : L.take (j + 1) = L.take j ++ [L[j]] := List.take_succ_eq_append_getElem hjA
    have len : (L.take j).length = j := by rw [List.length_take]; omega
    have b1 := sum_f hf (L.take j)
    have b2 := cst_le hf hw (L.take j) 0 (by omega) (by omega)
    rw [len] at b1 b2
    have fx := hf L[j]
    have wx := hw L[j]
    have sm : ((L.take (j + 1)).map f).sum = ((L.take j).map f).sum + f L[j] := by rw [tk]; exact sum_app1 _ _
    have cm : cst f w 0 (L.take (j + 1)) = cst f w 0 (L.take j) + (((L.take j).map f).sum + f L[j]) * w L[j] := by
      rw [tk, cst_app]
      simp [cst]
    rw [sm, cm]
    generalize ((L.take j).map f).sum = S1 at *
    generalize cst f w 0 (L.take j) = S2 at *
    generalize L[j] = a at *
    generalize f a = fa at *
    generalize w a = wa at *
    have m1 : 0 ≤ (S1 + fa) * wa := Int.mul_nonneg (by omega) (by omega)
    have m2 : (S1 + fa) * wa ≤ 594 * 9999 := Int.mul_le_mul (by omega) wx.2 wx.1 (by omega)
    have z1 : w64 ((S1 + fa) * wa) = (S1 + fa) * wa := w64_id ⟨by omega, by omega⟩
    generalize hPR : (S1 + fa) * wa = PR at *
    clear hf hw h9 h10 A hlt sm cm tk
    simp -implicitDefEqProofs (disch := omega) [kX9_minutes_0c, kX9_minutes_0b, kX9_minutes_0u, v_cop, v_c1, v_c2, v_c3, v_c4, v_c5, v_bin, v_bn, v_bn2, v_div, v_dv, v_dv2, v_une, v_un, v_loc, v_num, v_get, v_gt, v_ald, v_al, v_al2, v_len, v_ln, v_rl0, v_rl1, v_rl2, v_rl3, v_rl4, v_rl5, v_cmp, v_cp, v_cp2, v_zC, v_zc, v_con, v_kc, v_and, v_an1, v_an0, v_or, v_or1, v_or0, v_not, v_nt, v_boo, v_bo, v_cnd, v_cd1, v_cd0, v_cnc, v_cc1, v_cc0, v_ev0, v_ev, v_e1, v_e2, v_cve, v_cv, v_cse, v_cs, v_skip, v_seq, v_sq0, v_sq1, v_sqr, v_sts, v_st, v_inc, v_put, v_pt, v_pt2, v_fop, v_fo, v_fo2, v_ast, v_as, v_as2, v_as3, v_aop, v_ao, v_ao2, v_ao3, v_exs, v_ex, v_ifs, v_if1, v_if0, v_ret, v_rt, v_rez, v_rz, v_rev, v_brk, v_sws, v_sw, v_sw2, v_run, v_rb, v_turn, v_tu1, v_tu0, v_tu2, v_tu3, fst1, snd1, Option.map_some, Option.getD_some, enA, en, stE, okb, narV, rf_toNat, rf_nn, List.getElem?_cons_zero, List.getElem?_cons_succ, w32_id, w64_id, ite_t, ite_f, Int.toNat_add, Int.toNat_mul, dec_t, dec_f, sC_117, sC_118, sC_119, h2, h3, h4, h5, h7, h8, r1, r2, r3, hPR]) (by
    simp -implicitDefEqProofs (disch := omega) [kX9_minutes_0c, v_cop, v_c1, v_c2, v_c3, v_c4, v_c5, v_bin, v_bn, v_bn2, v_div, v_dv, v_dv2, v_une, v_un, v_loc, v_num, v_get, v_gt, v_ald, v_al, v_al2, v_len, v_ln, v_rl0, v_rl1, v_rl2, v_rl3, v_rl4, v_rl5, v_cmp, v_cp, v_cp2, v_zC, v_zc, v_con, v_kc, v_and, v_an1, v_an0, v_or, v_or1, v_or0, v_not, v_nt, v_boo, v_bo, v_cnd, v_cd1, v_cd0, v_cnc, v_cc1, v_cc0, v_ev0, v_ev, v_e1, v_e2, v_cve, v_cv, v_cse, v_cs, v_skip, v_seq, v_sq0, v_sq1, v_sqr, v_sts, v_st, v_inc, v_put, v_pt, v_pt2, v_fop, v_fo, v_fo2, v_ast, v_as, v_as2, v_as3, v_aop, v_ao, v_ao2, v_ao3, v_exs, v_ex, v_ifs, v_if1, v_if0, v_ret, v_rt, v_rez, v_rz, v_rev, v_brk, v_sws, v_sw, v_sw2, v_run, v_rb, v_turn, v_tu1, v_tu0, v_tu2, v_tu3, fst1, snd1, Option.map_some, Option.getD_some, enA, en, stE, okb, narV, rf_toNat, rf_nn, List.getElem?_cons_zero, List.getElem?_cons_succ, w32_id, w64_id, ite_t, ite_f, Int.toNat_add, Int.toNat_mul, dec_t, dec_f, h2, h5])
  have ta : L.take M = L := List.take_of_length_le (by omega)
  rw [ta] at lp
  have t0 : L.take 0 = [] := rfl
  rw [t0, show ((0 : Nat) : Int) = 0 from rfl, show (([] : List Nat).map f).sum = 0 from rfl, show cst f w 0 [] = 0 from rfl] at lp
  generalize cst f w 0 L = CC at *
  generalize (L.map f).sum = SS at *
  simp -implicitDefEqProofs (disch := omega) [fX9_minutes, bX9_minutes, kX9_minutes_0, v_cop, v_c1, v_c2, v_c3, v_c4, v_c5, v_bin, v_bn, v_bn2, v_div, v_dv, v_dv2, v_une, v_un, v_loc, v_num, v_get, v_gt, v_ald, v_al, v_al2, v_len, v_ln, v_rl0, v_rl1, v_rl2, v_rl3, v_rl4, v_rl5, v_cmp, v_cp, v_cp2, v_zC, v_zc, v_con, v_kc, v_and, v_an1, v_an0, v_or, v_or1, v_or0, v_not, v_nt, v_boo, v_bo, v_cnd, v_cd1, v_cd0, v_cnc, v_cc1, v_cc0, v_ev0, v_ev, v_e1, v_e2, v_cve, v_cv, v_cse, v_cs, v_skip, v_seq, v_sq0, v_sq1, v_sqr, v_sts, v_st, v_inc, v_put, v_pt, v_pt2, v_fop, v_fo, v_fo2, v_ast, v_as, v_as2, v_as3, v_aop, v_ao, v_ao2, v_ao3, v_exs, v_ex, v_ifs, v_if1, v_if0, v_ret, v_rt, v_rez, v_rz, v_rev, v_brk, v_sws, v_sw, v_sw2, v_run, v_rb, v_turn, v_tu1, v_tu0, v_tu2, v_tu3, fst1, snd1, Option.map_some, Option.getD_some, enA, en, stE, okb, narV, rf_toNat, rf_nn, List.getElem?_cons_zero, List.getElem?_cons_succ, w32_id, w64_id, ite_t, ite_f, Int.toNat_add, Int.toNat_mul, dec_t, dec_f, lp]
set_option maxRecDepth 100000 in theorem rem_zero (s : List Nat) : rem s 0 = s := by
  unfold rem
  rw [List.filter_eq_self]
  intro a _
  simp
set_option maxRecDepth 100000 in theorem st_search (b e : Int) (he : r32 e) : STP RR fX11_search fX12_search [(0, b), (0, e)] := by
  rintro μC μM ⟨h, d, n, P, M, R⟩
  have th := ud_same R.th
  have hh := R.hd.1
  have M1 := R.fb.M1
  have n1 := R.fb.n1
  have o := (R.pc.fl R.hd).1
  have hme : μC h 3 = (M : Int) := R.fr.me.trans R.fb.M0
  have em0 := r_meadows R.pm
  rw [R.fb.M0] at em0
  have ew := r_within shM μM e 0 (1 + (M : Int))
  by_cases g : 0 ≤ e ∧ e ≤ 1 + (M : Int)
  · rw [if_pos g] at ew
    rcases weighed_both R b with ⟨μM', e1, e2, D2⟩ | ⟨q, N, w, v, μC', μM', rfl, hq, hw, hw2, L, hv, hv1, e1, e2, A1, A2, D1, D2⟩
    · refine ⟨-1, μC, μM', ?_, ?_, h, d, n, P, M, R.ref (fun x y h1 h2 _ _ => D2 x y h1 h2)⟩
      · simp -implicitDefEqProofs (disch := omega) [fX11_search, bX11_search, v_cop, v_c1, v_c2, v_c3, v_c4, v_c5, v_bin, v_bn, v_bn2, v_div, v_dv, v_dv2, v_une, v_un, v_loc, v_num, v_get, v_gt, v_ald, v_al, v_al2, v_len, v_ln, v_rl0, v_rl1, v_rl2, v_rl3, v_rl4, v_rl5, v_cmp, v_cp, v_cp2, v_zC, v_zc, v_con, v_kc, v_and, v_an1, v_an0, v_or, v_or1, v_or0, v_not, v_nt, v_boo, v_bo, v_cnd, v_cd1, v_cd0, v_cnc, v_cc1, v_cc0, v_ev0, v_ev, v_e1, v_e2, v_cve, v_cv, v_cse, v_cs, v_skip, v_seq, v_sq0, v_sq1, v_sqr, v_sts, v_st, v_inc, v_put, v_pt, v_pt2, v_fop, v_fo, v_fo2, v_ast, v_as, v_as2, v_as3, v_aop, v_ao, v_ao2, v_ao3, v_exs, v_ex, v_ifs, v_if1, v_if0, v_ret, v_rt, v_rez, v_rz, v_rev, v_brk, v_sws, v_sw, v_sw2, v_run, v_rb, v_turn, v_tu1, v_tu0, v_tu2, v_tu3, fst1, snd1, Option.map_some, Option.getD_some, enA, en, stE, okb, narV, rf_toNat, rf_nn, List.getElem?_cons_zero, List.getElem?_cons_succ, w32_id, w64_id, ite_t, ite_f, Int.toNat_add, Int.toNat_mul, dec_t, dec_f, sC_0, R.hd.2.1, o, hme, e1]
      · simp -implicitDefEqProofs (disch := omega) [fX12_search, bX12_search, v_cop, v_c1, v_c2, v_c3, v_c4, v_c5, v_bin, v_bn, v_bn2, v_div, v_dv, v_dv2, v_une, v_un, v_loc, v_num, v_get, v_gt, v_ald, v_al, v_al2, v_len, v_ln, v_rl0, v_rl1, v_rl2, v_rl3, v_rl4, v_rl5, v_cmp, v_cp, v_cp2, v_zC, v_zc, v_con, v_kc, v_and, v_an1, v_an0, v_or, v_or1, v_or0, v_not, v_nt, v_boo, v_bo, v_cnd, v_cd1, v_cd0, v_cnc, v_cc1, v_cc0, v_ev0, v_ev, v_e1, v_e2, v_cve, v_cv, v_cse, v_cs, v_skip, v_seq, v_sq0, v_sq1, v_sqr, v_sts, v_st, v_inc, v_put, v_pt, v_pt2, v_fop, v_fo, v_fo2, v_ast, v_as, v_as2, v_as3, v_aop, v_ao, v_ao2, v_ao3, v_exs, v_ex, v_ifs, v_if1, v_if0, v_ret, v_rt, v_rez, v_rz, v_rev, v_brk, v_sws, v_sw, v_sw2, v_run, v_rb, v_turn, v_tu1, v_tu0, v_tu2, v_tu3, fst1, snd1, Option.map_some, Option.getD_some, enA, en, stE, okb, narV, rf_toNat, rf_nn, List.getElem?_cons_zero, List.getElem?_cons_succ, w32_id, w64_id, ite_t, ite_f, Int.toNat_add, Int.toNat_mul, dec_t, dec_f, sM_0, th, em0, ew, e2]
    · have RC : R0 μC' μM h d n P M := R.cls (fun x y h1 h2 h3 h4 h5 h6 h7 h8 h9 h10 => D1 x y (by omega) (by omega) h9 h6)
      rcases hv with rfl | rfl
      · refine ⟨-1, μC', μM', ?_, ?_, h, d, n, P, M, RC.ref (fun x y h1 h2 _ _ => D2 x y h1 h2)⟩
        · simp -implicitDefEqProofs (disch := omega) [fX11_search, bX11_search, v_cop, v_c1, v_c2, v_c3, v_c4, v_c5, v_bin, v_bn, v_bn2, v_div, v_dv, v_dv2, v_une, v_un, v_loc, v_num, v_get, v_gt, v_ald, v_al, v_al2, v_len, v_ln, v_rl0, v_rl1, v_rl2, v_rl3, v_rl4, v_rl5, v_cmp, v_cp, v_cp2, v_zC, v_zc, v_con, v_kc, v_and, v_an1, v_an0, v_or, v_or1, v_or0, v_not, v_nt, v_boo, v_bo, v_cnd, v_cd1, v_cd0, v_cnc, v_cc1, v_cc0, v_ev0, v_ev, v_e1, v_e2, v_cve, v_cv, v_cse, v_cs, v_skip, v_seq, v_sq0, v_sq1, v_sqr, v_sts, v_st, v_inc, v_put, v_pt, v_pt2, v_fop, v_fo, v_fo2, v_ast, v_as, v_as2, v_as3, v_aop, v_ao, v_ao2, v_ao3, v_exs, v_ex, v_ifs, v_if1, v_if0, v_ret, v_rt, v_rez, v_rz, v_rev, v_brk, v_sws, v_sw, v_sw2, v_run, v_rb, v_turn, v_tu1, v_tu0, v_tu2, v_tu3, fst1, snd1, Option.map_some, Option.getD_some, enA, en, stE, okb, narV, rf_toNat, rf_nn, List.getElem?_cons_zero, List.getElem?_cons_succ, w32_id, w64_id, ite_t, ite_f, Int.toNat_add, Int.toNat_mul, dec_t, dec_f, sC_0, R.hd.2.1, o, hme, e1]
        · simp -implicitDefEqProofs (disch := omega) [fX12_search, bX12_search, v_cop, v_c1, v_c2, v_c3, v_c4, v_c5, v_bin, v_bn, v_bn2, v_div, v_dv, v_dv2, v_une, v_un, v_loc, v_num, v_get, v_gt, v_ald, v_al, v_al2, v_len, v_ln, v_rl0, v_rl1, v_rl2, v_rl3, v_rl4, v_rl5, v_cmp, v_cp, v_cp2, v_zC, v_zc, v_con, v_kc, v_and, v_an1, v_an0, v_or, v_or1, v_or0, v_not, v_nt, v_boo, v_bo, v_cnd, v_cd1, v_cd0, v_cnc, v_cc1, v_cc0, v_ev0, v_ev, v_e1, v_e2, v_cve, v_cv, v_cse, v_cs, v_skip, v_seq, v_sq0, v_sq1, v_sqr, v_sts, v_st, v_inc, v_put, v_pt, v_pt2, v_fop, v_fo, v_fo2, v_ast, v_as, v_as2, v_as3, v_aop, v_ao, v_ao2, v_ao3, v_exs, v_ex, v_ifs, v_if1, v_if0, v_ret, v_rt, v_rez, v_rz, v_rev, v_brk, v_sws, v_sw, v_sw2, v_run, v_rb, v_turn, v_tu1, v_tu0, v_tu2, v_tu3, fst1, snd1, Option.map_some, Option.getD_some, enA, en, stE, okb, narV, rf_toNat, rf_nn, List.getElem?_cons_zero, List.getElem?_cons_succ, w32_id, w64_id, ite_t, ite_f, Int.toNat_add, Int.toNat_mul, dec_t, dec_f, sM_0, th, em0, ew, e2]
      · have tp := hv1.mp rfl
        -- the class
        have fo := R.pc.fl R.hd
        have foC := RC.pc.fl RC.hd
        obtain ⟨f0, -, -, -, -, f5, -, -, -, -, -, -, -, -, -, -, g5, -⟩ := foC
        have hme' : μC' h 3 = (M : Int) := RC.fr.me.trans RC.fb.M0
        have AQ0 : AQ μC' h M (faM (μM 6) M) (woM (μM 6) (μM 15) (LV (μM 7) (μM 8) (μM 6 184) N) n q M) := by
          refine ⟨by omega, f0, f5, g5, hme', M1, RC.pc.p117_0, RC.pc.p117_1, fun m hm => ?_, fun m hm => ?_, faM_b R.fb, fun m => woM_b m⟩
          · unfold faM
            rw [if_pos hm]
            exact RC.fr.fa m hm
          · unfold woM
            rw [if_pos hm]
            exact A2 m hm
        obtain ⟨s, k1, ea, sl, spw, snd, slt, sall, sat, D3⟩ := c_arrange AQ0
        have AQ1 := AQ0.of D3
        have emin := c_minutes AQ1 sl slt sat
        -- the reference
        have q6 : μM' 6 = μM 6 := by funext y; exact D2 6 y (by omega) (by omega)
        have q7 : μM' 7 = μM 7 := by funext y; exact D2 7 y (by omega) (by omega)
        have q8 : μM' 8 = μM 8 := by funext y; exact D2 8 y (by omega) (by omega)
        have q15 : μM' 15 = μM 15 := by funext y; exact D2 15 y (by omega) (by omega)
        have hf := faM_b R.fb
        have hwb : ∀ m, 0 ≤ woM (μM 6) (μM 15) (LV (μM 7) (μM 8) (μM 6 184) N) n q M m ∧ woM (μM 6) (μM 15) (LV (μM 7) (μM 8) (μM 6 184) N) n q M m ≤ 9999 := fun m => woM_b m
        have TF0 : TF μM (ud μM' 0 32 (-1)) := fun x y h1 h2 h3 h4 h5 => by rw [ud_n h5]; exact D2 x y h1 h2
        obtain ⟨k2, et, TF2, -, U⟩ := r_tries (N := N) R.pm R.fb L hw hw2 hq hf hwb (fun m hm => by unfold faM; rw [if_pos hm]) (fun m hm => by unfold woM; rw [if_pos hm]) spw snd slt sall 40 0 (ud μM' 0 32 (-1)) 0 [] (by omega) (by omega) rfl (fun x hx => absurd hx (by simp)) (by rw [rem_zero]; omega) (by omega) TF0 (fun i hi => absurd hi (by simp))
        rw [rem_zero, List.nil_append] at U
        have cb := cst_le hf hwb s 0 (by omega) (by omega)
        have U' : k2 0 32 = cst (faM (μM 6) M) (woM (μM 6) (μM 15) (LV (μM 7) (μM 8) (μM 6 184) N) n q M) 0 s ∧ ∀ i (hi : i < s.length), k2 21 i = (s[i] : Int) := by
          rcases U with ⟨-, u1, u2⟩ | ⟨u1, -⟩
          · exact ⟨u1, u2⟩
          · exact absurd (.inl (by rw [ud_s]; decide)) u1
        obtain ⟨u1, u2⟩ := U'
        have al1 : ∀ k : Mem, TF μM k → ∃ k', fX12_allStray shM [(2, rf 0), (0, (q : Int))] k = some (sumN (stS_ (μM 6) (μM 15) (LV (μM 7) (μM 8) (μM 6 184) N) n q) M, k') ∧ (∀ x y, x ≠ 13 → x ≠ 14 → k' x y = k x y) := fun k hk => by
          have z1 : PM k := R.pm.keep (S := fun x y => x = 13 ∨ x = 14 ∨ x = 20 ∨ x = 21 ∨ (x = 0 ∧ y = 32)) (fun x y hs => hk x y (by omega) (by omega) (by omega) (by omega) (by omega)) (by decide)
          have z2 : k 6 = μM 6 := by funext y; exact hk 6 y (by omega) (by omega) (by omega) (by omega) (by omega)
          have z3 : k 7 = μM 7 := by funext y; exact hk 7 y (by omega) (by omega) (by omega) (by omega) (by omega)
          have z4 : k 8 = μM 8 := by funext y; exact hk 8 y (by omega) (by omega) (by omega) (by omega) (by omega)
          have z5 : k 15 = μM 15 := by funext y; exact hk 15 y (by omega) (by omega) (by omega) (by omega) (by omega)
          obtain ⟨k', y1, y2⟩ := r_allStray (N := N) z1 (by rw [z2]; exact R.fb) (by unfold LQs at L ⊢; rw [z2, z3, z4]; exact L) (by rw [z5]; exact hw) hw2 (b := q) hq
          rw [z2, z3, z4, z5] at y1
          exact ⟨k', y1, y2⟩
        have tb := tot_b (fl := μM 6) (st := μM 15) (V := LV (μM 7) (μM 8) (μM 6 184) N) (n := n) (b := q) M M1
        rw [sl] at cb
        have cb2 : 0 ≤ cst (faM (μM 6) M) (woM (μM 6) (μM 15) (LV (μM 7) (μM 8) (μM 6 184) N) n q M) 0 s ∧ cst (faM (μM 6) M) (woM (μM 6) (μM 15) (LV (μM 7) (μM 8) (μM 6 184) N) n q M) 0 s < 2147483648 := by omega
        have p11 : μC' 0 11 = rf 117 := RC.pc.p0_11
        have p11' : k1 0 11 = rf 117 := by rw [D3 _ _ (by omega)]; exact p11
        have p1 : μC' 0 1 = rf h := RC.hd.2.1
        have p1' : k1 0 1 = rf h := by rw [D3 _ _ (by omega)]; exact p1
        have pa' : k1 117 1 = rf 119 := by rw [D3 _ _ (by omega)]; exact RC.pc.p117_1
        have pt' : k1 117 3 = sumN (stS_ (μM 6) (μM 15) (LV (μM 7) (μM 8) (μM 6 184) N) n q) M := by rw [D3 _ _ (by omega)]; exact A1
        have RCk : R0 k1 μM h d n P M := RC.cls (fun x y h1 h2 h3 h4 h5 h6 h7 h8 h9 h10 => D3 x y (by omega))
        have RCm : ∀ k : Mem, (∀ x y, x ≠ 13 → x ≠ 14 → k x y = k2 x y) → R0 k1 k h d n P M := fun k hk => RCk.ref (fun x y h1 h2 h3 h4 => by rw [hk x y h1 h2]; exact TF2 x y h1 h2 (by omega) (by omega) (by omega))
        obtain ⟨k3, s3, d3⟩ := al1 k2 TF2
        have TF3 : TF μM k3 := fun x y h1 h2 h3 h4 h5 => by rw [d3 x y h1 h2]; exact TF2 x y h1 h2 h3 h4 h5
        obtain ⟨k4, s4, d4⟩ := al1 k3 TF3
        have pm3 : PM k3 := R.pm.keep (S := fun x y => x = 13 ∨ x = 14 ∨ x = 20 ∨ x = 21 ∨ (x = 0 ∧ y = 32)) (fun x y hs => TF3 x y (by omega) (by omega) (by omega) (by omega) (by omega)) (by decide)
        have u1' : k3 0 32 = cst (faM (μM 6) M) (woM (μM 6) (μM 15) (LV (μM 7) (μM 8) (μM 6 184) N) n q M) 0 s := by rw [d3 _ _ (by omega) (by omega)]; exact u1
        have et' : fX12_tries shM [(2, rf 0), (0, (q : Int)), (0, 0), (0, 0)] (ud μM' 0 32 (-1)) = some (0, k2) := et
        clear et U hf hwb AQ0 AQ1 hv1 A2 sall spw snd al1 TF0
        generalize cst (faM (μM 6) M) (woM (μM 6) (μM 15) (LV (μM 7) (μM 8) (μM 6 184) N) n q M) 0 s = X at *
        generalize sumN (stS_ (μM 6) (μM 15) (LV (μM 7) (μM 8) (μM 6 184) N) n q) M = T at *
        obtain ⟨x, rfl⟩ := Int.eq_ofNat_of_zero_le cb2.1
        obtain ⟨t, rfl⟩ := Int.eq_ofNat_of_zero_le tb.1
        try simp only [Int.ofNat_eq_natCast] at *
        have ec := r_common (sh := shM) (μ := k3) (a := x) (b := t) (by omega) (by omega)
        have gp : 0 < Nat.gcd x t := Nat.gcd_pos_of_pos_right x (by omega)
        have gn : ¬ Nat.gcd x t = 0 := by omega
        by_cases c2 : 2 ≤ e
        · obtain ⟨i, hi⟩ := Int.eq_ofNat_of_zero_le (show 0 ≤ e - 2 by omega)
          have hi : e = (i : Int) + 2 := by
            try simp only [Int.ofNat_eq_natCast] at hi
            omega
          subst hi
          have hi2 : i < s.length := by omega
          have y1 := sat i hi2
          have y2 := u2 i hi2
          have y2' : k3 21 i = (s[i] : Int) := by rw [d3 _ _ (by omega) (by omega)]; exact y2
          have c0 : ¬ (i : Int) + 2 = 0 := by omega
          have c1 : ¬ (i : Int) + 2 = 1 := by omega
          have z2 : (i : Int) + 2 - 2 = (i : Int) := by omega
          have i6 : (i : Int) < 6 := by omega
          refine ⟨(s[i] : Int), k1, k3, ?_, ?_, h, d, n, P, M, RCm k3 d3⟩
          · generalize (s[i] : Int) = Y at *
            clear tp tb cb cb2 slt
            simp -implicitDefEqProofs (disch := omega) [fX11_search, bX11_search, v_cop, v_c1, v_c2, v_c3, v_c4, v_c5, v_bin, v_bn, v_bn2, v_div, v_dv, v_dv2, v_une, v_un, v_loc, v_num, v_get, v_gt, v_ald, v_al, v_al2, v_len, v_ln, v_rl0, v_rl1, v_rl2, v_rl3, v_rl4, v_rl5, v_cmp, v_cp, v_cp2, v_zC, v_zc, v_con, v_kc, v_and, v_an1, v_an0, v_or, v_or1, v_or0, v_not, v_nt, v_boo, v_bo, v_cnd, v_cd1, v_cd0, v_cnc, v_cc1, v_cc0, v_ev0, v_ev, v_e1, v_e2, v_cve, v_cv, v_cse, v_cs, v_skip, v_seq, v_sq0, v_sq1, v_sqr, v_sts, v_st, v_inc, v_put, v_pt, v_pt2, v_fop, v_fo, v_fo2, v_ast, v_as, v_as2, v_as3, v_aop, v_ao, v_ao2, v_ao3, v_exs, v_ex, v_ifs, v_if1, v_if0, v_ret, v_rt, v_rez, v_rz, v_rev, v_brk, v_sws, v_sw, v_sw2, v_run, v_rb, v_turn, v_tu1, v_tu0, v_tu2, v_tu3, fst1, snd1, Option.map_some, Option.getD_some, enA, en, stE, okb, narV, rf_toNat, rf_nn, List.getElem?_cons_zero, List.getElem?_cons_succ, w32_id, w64_id, ite_t, ite_f, Int.toNat_add, Int.toNat_mul, dec_t, dec_f, sC_0, sC_117, sC_119, R.hd.2.1, o, hme, e1, p11, p1, ea, p11', pa', z2, y1]
          · generalize (s[i] : Int) = Y at *
            generalize Nat.gcd x t = G at *
            clear tb cb slt
            simp -implicitDefEqProofs (disch := omega) [fX12_search, bX12_search, v_cop, v_c1, v_c2, v_c3, v_c4, v_c5, v_bin, v_bn, v_bn2, v_div, v_dv, v_dv2, v_une, v_un, v_loc, v_num, v_get, v_gt, v_ald, v_al, v_al2, v_len, v_ln, v_rl0, v_rl1, v_rl2, v_rl3, v_rl4, v_rl5, v_cmp, v_cp, v_cp2, v_zC, v_zc, v_con, v_kc, v_and, v_an1, v_an0, v_or, v_or1, v_or0, v_not, v_nt, v_boo, v_bo, v_cnd, v_cd1, v_cd0, v_cnc, v_cc1, v_cc0, v_ev0, v_ev, v_e1, v_e2, v_cve, v_cv, v_cse, v_cs, v_skip, v_seq, v_sq0, v_sq1, v_sqr, v_sts, v_st, v_inc, v_put, v_pt, v_pt2, v_fop, v_fo, v_fo2, v_ast, v_as, v_as2, v_as3, v_aop, v_ao, v_ao2, v_ao3, v_exs, v_ex, v_ifs, v_if1, v_if0, v_ret, v_rt, v_rez, v_rz, v_rev, v_brk, v_sws, v_sw, v_sw2, v_run, v_rb, v_turn, v_tu1, v_tu0, v_tu2, v_tu3, fst1, snd1, Option.map_some, Option.getD_some, enA, en, stE, okb, narV, rf_toNat, rf_nn, List.getElem?_cons_zero, List.getElem?_cons_succ, w32_id, w64_id, ite_t, ite_f, Int.toNat_add, Int.toNat_mul, dec_t, dec_f, sM_0, sM_21, th, em0, ew, e2, et', u1, s3, ec, c0, c1, z2, pm3.p31, y2']
        · have e01 : e = 0 ∨ e = 1 := by omega
          rcases e01 with rfl | rfl
          · have lo := c_lowest (sh := shC) (μ := k1) (s := x) (a := x) (b := t) (by omega) (by omega) (by omega) (by omega)
            have td := tdiv_nat x (Nat.gcd x t)
            have le : x / Nat.gcd x t ≤ x := Nat.div_le_self _ _
            generalize Nat.gcd x t = G at *
            generalize x / G = Z at *
            refine ⟨(Z : Int), k1, k3, ?_, ?_, h, d, n, P, M, RCm k3 d3⟩
            · clear cb slt
              simp -implicitDefEqProofs (disch := omega) [fX11_search, bX11_search, v_cop, v_c1, v_c2, v_c3, v_c4, v_c5, v_bin, v_bn, v_bn2, v_div, v_dv, v_dv2, v_une, v_un, v_loc, v_num, v_get, v_gt, v_ald, v_al, v_al2, v_len, v_ln, v_rl0, v_rl1, v_rl2, v_rl3, v_rl4, v_rl5, v_cmp, v_cp, v_cp2, v_zC, v_zc, v_con, v_kc, v_and, v_an1, v_an0, v_or, v_or1, v_or0, v_not, v_nt, v_boo, v_bo, v_cnd, v_cd1, v_cd0, v_cnc, v_cc1, v_cc0, v_ev0, v_ev, v_e1, v_e2, v_cve, v_cv, v_cse, v_cs, v_skip, v_seq, v_sq0, v_sq1, v_sqr, v_sts, v_st, v_inc, v_put, v_pt, v_pt2, v_fop, v_fo, v_fo2, v_ast, v_as, v_as2, v_as3, v_aop, v_ao, v_ao2, v_ao3, v_exs, v_ex, v_ifs, v_if1, v_if0, v_ret, v_rt, v_rez, v_rz, v_rev, v_brk, v_sws, v_sw, v_sw2, v_run, v_rb, v_turn, v_tu1, v_tu0, v_tu2, v_tu3, fst1, snd1, Option.map_some, Option.getD_some, enA, en, stE, okb, narV, rf_toNat, rf_nn, List.getElem?_cons_zero, List.getElem?_cons_succ, w32_id, w64_id, ite_t, ite_f, Int.toNat_add, Int.toNat_mul, dec_t, dec_f, sC_0, sC_117, R.hd.2.1, o, hme, e1, p11, p1, ea, p11', p1', emin, pt', lo]
            · clear cb slt
              simp -implicitDefEqProofs (disch := omega) [fX12_search, bX12_search, v_cop, v_c1, v_c2, v_c3, v_c4, v_c5, v_bin, v_bn, v_bn2, v_div, v_dv, v_dv2, v_une, v_un, v_loc, v_num, v_get, v_gt, v_ald, v_al, v_al2, v_len, v_ln, v_rl0, v_rl1, v_rl2, v_rl3, v_rl4, v_rl5, v_cmp, v_cp, v_cp2, v_zC, v_zc, v_con, v_kc, v_and, v_an1, v_an0, v_or, v_or1, v_or0, v_not, v_nt, v_boo, v_bo, v_cnd, v_cd1, v_cd0, v_cnc, v_cc1, v_cc0, v_ev0, v_ev, v_e1, v_e2, v_cve, v_cv, v_cse, v_cs, v_skip, v_seq, v_sq0, v_sq1, v_sqr, v_sts, v_st, v_inc, v_put, v_pt, v_pt2, v_fop, v_fo, v_fo2, v_ast, v_as, v_as2, v_as3, v_aop, v_ao, v_ao2, v_ao3, v_exs, v_ex, v_ifs, v_if1, v_if0, v_ret, v_rt, v_rez, v_rz, v_rev, v_brk, v_sws, v_sw, v_sw2, v_run, v_rb, v_turn, v_tu1, v_tu0, v_tu2, v_tu3, fst1, snd1, Option.map_some, Option.getD_some, enA, en, stE, okb, narV, rf_toNat, rf_nn, List.getElem?_cons_zero, List.getElem?_cons_succ, w32_id, w64_id, ite_t, ite_f, Int.toNat_add, Int.toNat_mul, dec_t, dec_f, sM_0, th, em0, ew, e2, et', u1, u1', s3, ec, gn, td]
          · have lo := c_lowest (sh := shC) (μ := k1) (s := t) (a := x) (b := t) (by omega) (by omega) (by omega) (by omega)
            have td := tdiv_nat t (Nat.gcd x t)
            have le : t / Nat.gcd x t ≤ t := Nat.div_le_self _ _
            generalize Nat.gcd x t = G at *
            generalize t / G = Z at *
            refine ⟨(Z : Int), k1, k4, ?_, ?_, h, d, n, P, M, RCm k4 (fun x y h1 h2 => by rw [d4 x y h1 h2]; exact d3 x y h1 h2)⟩
            · clear cb slt
              simp -implicitDefEqProofs (disch := omega) [fX11_search, bX11_search, v_cop, v_c1, v_c2, v_c3, v_c4, v_c5, v_bin, v_bn, v_bn2, v_div, v_dv, v_dv2, v_une, v_un, v_loc, v_num, v_get, v_gt, v_ald, v_al, v_al2, v_len, v_ln, v_rl0, v_rl1, v_rl2, v_rl3, v_rl4, v_rl5, v_cmp, v_cp, v_cp2, v_zC, v_zc, v_con, v_kc, v_and, v_an1, v_an0, v_or, v_or1, v_or0, v_not, v_nt, v_boo, v_bo, v_cnd, v_cd1, v_cd0, v_cnc, v_cc1, v_cc0, v_ev0, v_ev, v_e1, v_e2, v_cve, v_cv, v_cse, v_cs, v_skip, v_seq, v_sq0, v_sq1, v_sqr, v_sts, v_st, v_inc, v_put, v_pt, v_pt2, v_fop, v_fo, v_fo2, v_ast, v_as, v_as2, v_as3, v_aop, v_ao, v_ao2, v_ao3, v_exs, v_ex, v_ifs, v_if1, v_if0, v_ret, v_rt, v_rez, v_rz, v_rev, v_brk, v_sws, v_sw, v_sw2, v_run, v_rb, v_turn, v_tu1, v_tu0, v_tu2, v_tu3, fst1, snd1, Option.map_some, Option.getD_some, enA, en, stE, okb, narV, rf_toNat, rf_nn, List.getElem?_cons_zero, List.getElem?_cons_succ, w32_id, w64_id, ite_t, ite_f, Int.toNat_add, Int.toNat_mul, dec_t, dec_f, sC_0, sC_117, R.hd.2.1, o, hme, e1, p11, p1, ea, p11', p1', emin, pt', lo]
            · clear cb slt
              simp -implicitDefEqProofs (disch := omega) [fX12_search, bX12_search, v_cop, v_c1, v_c2, v_c3, v_c4, v_c5, v_bin, v_bn, v_bn2, v_div, v_dv, v_dv2, v_une, v_un, v_loc, v_num, v_get, v_gt, v_ald, v_al, v_al2, v_len, v_ln, v_rl0, v_rl1, v_rl2, v_rl3, v_rl4, v_rl5, v_cmp, v_cp, v_cp2, v_zC, v_zc, v_con, v_kc, v_and, v_an1, v_an0, v_or, v_or1, v_or0, v_not, v_nt, v_boo, v_bo, v_cnd, v_cd1, v_cd0, v_cnc, v_cc1, v_cc0, v_ev0, v_ev, v_e1, v_e2, v_cve, v_cv, v_cse, v_cs, v_skip, v_seq, v_sq0, v_sq1, v_sqr, v_sts, v_st, v_inc, v_put, v_pt, v_pt2, v_fop, v_fo, v_fo2, v_ast, v_as, v_as2, v_as3, v_aop, v_ao, v_ao2, v_ao3, v_exs, v_ex, v_ifs, v_if1, v_if0, v_ret, v_rt, v_rez, v_rz, v_rev, v_brk, v_sws, v_sw, v_sw2, v_run, v_rb, v_turn, v_tu1, v_tu0, v_tu2, v_tu3, fst1, snd1, Option.map_some, Option.getD_some, enA, en, stE, okb, narV, rf_toNat, rf_nn, List.getElem?_cons_zero, List.getElem?_cons_succ, w32_id, w64_id, ite_t, ite_f, Int.toNat_add, Int.toNat_mul, dec_t, dec_f, sM_0, th, em0, ew, e2, et', u1, u1', s3, s4, ec, gn, td]
  · rw [if_neg g] at ew
    refine ⟨-1, μC, μM, ?_, ?_, h, d, n, P, M, R⟩
    · by_cases c1 : e < 0
      · simp -implicitDefEqProofs (disch := omega) [fX11_search, bX11_search, v_cop, v_c1, v_c2, v_c3, v_c4, v_c5, v_bin, v_bn, v_bn2, v_div, v_dv, v_dv2, v_une, v_un, v_loc, v_num, v_get, v_gt, v_ald, v_al, v_al2, v_len, v_ln, v_rl0, v_rl1, v_rl2, v_rl3, v_rl4, v_rl5, v_cmp, v_cp, v_cp2, v_zC, v_zc, v_con, v_kc, v_and, v_an1, v_an0, v_or, v_or1, v_or0, v_not, v_nt, v_boo, v_bo, v_cnd, v_cd1, v_cd0, v_cnc, v_cc1, v_cc0, v_ev0, v_ev, v_e1, v_e2, v_cve, v_cv, v_cse, v_cs, v_skip, v_seq, v_sq0, v_sq1, v_sqr, v_sts, v_st, v_inc, v_put, v_pt, v_pt2, v_fop, v_fo, v_fo2, v_ast, v_as, v_as2, v_as3, v_aop, v_ao, v_ao2, v_ao3, v_exs, v_ex, v_ifs, v_if1, v_if0, v_ret, v_rt, v_rez, v_rz, v_rev, v_brk, v_sws, v_sw, v_sw2, v_run, v_rb, v_turn, v_tu1, v_tu0, v_tu2, v_tu3, fst1, snd1, Option.map_some, Option.getD_some, enA, en, stE, okb, narV, rf_toNat, rf_nn, List.getElem?_cons_zero, List.getElem?_cons_succ, w32_id, w64_id, ite_t, ite_f, Int.toNat_add, Int.toNat_mul, dec_t, dec_f]
      · simp -implicitDefEqProofs (disch := omega) [fX11_search, bX11_search, v_cop, v_c1, v_c2, v_c3, v_c4, v_c5, v_bin, v_bn, v_bn2, v_div, v_dv, v_dv2, v_une, v_un, v_loc, v_num, v_get, v_gt, v_ald, v_al, v_al2, v_len, v_ln, v_rl0, v_rl1, v_rl2, v_rl3, v_rl4, v_rl5, v_cmp, v_cp, v_cp2, v_zC, v_zc, v_con, v_kc, v_and, v_an1, v_an0, v_or, v_or1, v_or0, v_not, v_nt, v_boo, v_bo, v_cnd, v_cd1, v_cd0, v_cnc, v_cc1, v_cc0, v_ev0, v_ev, v_e1, v_e2, v_cve, v_cv, v_cse, v_cs, v_skip, v_seq, v_sq0, v_sq1, v_sqr, v_sts, v_st, v_inc, v_put, v_pt, v_pt2, v_fop, v_fo, v_fo2, v_ast, v_as, v_as2, v_as3, v_aop, v_ao, v_ao2, v_ao3, v_exs, v_ex, v_ifs, v_if1, v_if0, v_ret, v_rt, v_rez, v_rz, v_rev, v_brk, v_sws, v_sw, v_sw2, v_run, v_rb, v_turn, v_tu1, v_tu0, v_tu2, v_tu3, fst1, snd1, Option.map_some, Option.getD_some, enA, en, stE, okb, narV, rf_toNat, rf_nn, List.getElem?_cons_zero, List.getElem?_cons_succ, w32_id, w64_id, ite_t, ite_f, Int.toNat_add, Int.toNat_mul, dec_t, dec_f, sC_0, R.hd.2.1, o, hme]
    · simp -implicitDefEqProofs (disch := omega) [fX12_search, bX12_search, v_cop, v_c1, v_c2, v_c3, v_c4, v_c5, v_bin, v_bn, v_bn2, v_div, v_dv, v_dv2, v_une, v_un, v_loc, v_num, v_get, v_gt, v_ald, v_al, v_al2, v_len, v_ln, v_rl0, v_rl1, v_rl2, v_rl3, v_rl4, v_rl5, v_cmp, v_cp, v_cp2, v_zC, v_zc, v_con, v_kc, v_and, v_an1, v_an0, v_or, v_or1, v_or0, v_not, v_nt, v_boo, v_bo, v_cnd, v_cd1, v_cd0, v_cnc, v_cc1, v_cc0, v_ev0, v_ev, v_e1, v_e2, v_cve, v_cv, v_cse, v_cs, v_skip, v_seq, v_sq0, v_sq1, v_sqr, v_sts, v_st, v_inc, v_put, v_pt, v_pt2, v_fop, v_fo, v_fo2, v_ast, v_as, v_as2, v_as3, v_aop, v_ao, v_ao2, v_ao3, v_exs, v_ex, v_ifs, v_if1, v_if0, v_ret, v_rt, v_rez, v_rz, v_rev, v_brk, v_sws, v_sw, v_sw2, v_run, v_rb, v_turn, v_tu1, v_tu0, v_tu2, v_tu3, fst1, snd1, Option.map_some, Option.getD_some, enA, en, stE, okb, narV, rf_toNat, rf_nn, List.getElem?_cons_zero, List.getElem?_cons_succ, w32_id, w64_id, ite_t, ite_f, Int.toNat_add, Int.toNat_mul, dec_t, dec_f, sM_0, th, em0, ew]
