/-! an evening: the class's loops -/
section DV
variable {fl st : Nat → Int} {V : (Nat → Int) → Int} {n P : Nat}
set_option maxRecDepth 100000 in theorem du_0 : duS fl st V n P 0 = st 0 := by unfold duS; rw [if_neg (by omega), if_neg (by omega), if_neg (by omega), if_neg (by omega), if_neg (by omega)]
set_option maxRecDepth 100000 in theorem du_1 : duS fl st V n P 1 = w32 (st 1 + 1) := by unfold duS; rw [if_pos rfl]
set_option maxRecDepth 100000 in theorem du_n {b : Nat} (hb : b < 12) : duS fl st V n P (2 + b) = dkT fl st V n P 3 b := by unfold duS; rw [if_neg (by omega), if_pos (by omega), show 2 + b - 2 = b by omega]
set_option maxRecDepth 100000 in theorem du_l {b : Nat} (hb : b < 12) : duS fl st V n P (14 + b) = dkT fl st V n P 3 b := by unfold duS; rw [if_neg (by omega), if_neg (by omega), if_pos (by omega), show 14 + b - 14 = b by omega]
set_option maxRecDepth 100000 in theorem du_a {b : Nat} (hb : b < 12) : duS fl st V n P (26 + b) = if 0 ≤ dkT fl st V n P 3 b then w32 (st (26 + b) + 1) else st (26 + b) := by unfold duS; rw [if_neg (by omega), if_neg (by omega), if_neg (by omega), if_pos (by omega), show 26 + b - 26 = b by omega]
set_option maxRecDepth 100000 in theorem du_b {i : Nat} (hi : i < 144) : duS fl st V n P (38 + i) = w32 (st (38 + i) + adj1 (dkT fl st V n P 3) (i / 12) (i % 12)) := by unfold duS; rw [if_neg (by omega), if_neg (by omega), if_neg (by omega), if_neg (by omega), if_pos (by omega), show 38 + i - 38 = i by omega]
end DV
set_option maxRecDepth 100000 in theorem du_SL {fl st : Nat → Int} {V : (Nat → Int) → Int} {n P : Nat} (h : SL st n P) (hP : P ≤ 16) : SL (duS fl st V n P) n P := by
  have W := NW.dT_ (fl := fl) (st := st) (V := V) (n := n) (P := P) 3
  refine ⟨by rw [du_0]; exact h.aw, fun b hb => by rw [du_n hb]; exact W.rg b, fun b h1 h2 => by rw [du_n h2]; exact W.out h1, fun a b h1 h2 h3 h4 => ?_, fun b hb => by rw [du_l hb]; exact W.rg b, fun b h1 h2 => by rw [du_l h2]; exact W.out h1, fun a b h1 h2 h3 h4 => ?_, fun i hi => ?_⟩
  · rw [du_n h1, du_n h2] at h3
    rw [du_n h1] at h4
    exact W.inj h3 h4
  · rw [du_l h1, du_l h2] at h3
    rw [du_l h1] at h4
    exact W.inj h3 h4
  · have q := h.rn i hi
    have rg' : ∀ v, -2147483648 ≤ w32 v ∧ w32 v < 2147483648 := fun v => w32_rg v 0
    unfold duS
    have w1 := W.rg (i - 2)
    have w2 := W.rg (i - 14)
    split
    · exact rg' _
    · split
      · omega
      · split
        · omega
        · split
          · split
            · exact rg' _
            · exact q
          · split
            · exact rg' _
            · exact q
set_option maxRecDepth 100000 in theorem c_turnOf {sh : Shp} {μ : Mem} (x : Int) : fX0_turnOf sh [(0, x)] μ = some (if x = 1 then 0 else if x = 4 then 2 else 1, μ) := by
  by_cases c1 : x = 1
  · simp -implicitDefEqProofs [fX0_turnOf, bX0_turnOf, v_cop, v_c1, v_c2, v_c3, v_c4, v_c5, v_bin, v_bn, v_bn2, v_div, v_dv, v_dv2, v_une, v_un, v_loc, v_num, v_get, v_gt, v_ald, v_al, v_al2, v_len, v_ln, v_rl0, v_rl1, v_rl2, v_rl3, v_rl4, v_rl5, v_cmp, v_cp, v_cp2, v_zC, v_zc, v_con, v_kc, v_and, v_an1, v_an0, v_or, v_or1, v_or0, v_not, v_nt, v_boo, v_bo, v_cnd, v_cd1, v_cd0, v_cnc, v_cc1, v_cc0, v_ev0, v_ev, v_e1, v_e2, v_cve, v_cv, v_cse, v_cs, v_skip, v_seq, v_sq0, v_sq1, v_sqr, v_sts, v_st, v_inc, v_put, v_pt, v_pt2, v_fop, v_fo, v_fo2, v_ast, v_as, v_as2, v_as3, v_aop, v_ao, v_ao2, v_ao3, v_exs, v_ex, v_ifs, v_if1, v_if0, v_ret, v_rt, v_rez, v_rz, v_rev, v_brk, v_sws, v_sw, v_sw2, v_run, v_rb, v_turn, v_tu1, v_tu0, v_tu2, v_tu3, fst1, snd1, Option.map_some, Option.getD_some, enA, en, stE, okb, narV, rf_toNat, rf_nn, List.getElem?_cons_zero, List.getElem?_cons_succ, w32_id, w64_id, ite_t, ite_f, Int.toNat_add, Int.toNat_mul, dec_t, dec_f, c1]
  · by_cases c2 : x = 4 <;> simp -implicitDefEqProofs [fX0_turnOf, bX0_turnOf, v_cop, v_c1, v_c2, v_c3, v_c4, v_c5, v_bin, v_bn, v_bn2, v_div, v_dv, v_dv2, v_une, v_un, v_loc, v_num, v_get, v_gt, v_ald, v_al, v_al2, v_len, v_ln, v_rl0, v_rl1, v_rl2, v_rl3, v_rl4, v_rl5, v_cmp, v_cp, v_cp2, v_zC, v_zc, v_con, v_kc, v_and, v_an1, v_an0, v_or, v_or1, v_or0, v_not, v_nt, v_boo, v_bo, v_cnd, v_cd1, v_cd0, v_cnc, v_cc1, v_cc0, v_ev0, v_ev, v_e1, v_e2, v_cve, v_cv, v_cse, v_cs, v_skip, v_seq, v_sq0, v_sq1, v_sqr, v_sts, v_st, v_inc, v_put, v_pt, v_pt2, v_fop, v_fo, v_fo2, v_ast, v_as, v_as2, v_as3, v_aop, v_ao, v_ao2, v_ao3, v_exs, v_ex, v_ifs, v_if1, v_if0, v_ret, v_rt, v_rez, v_rz, v_rev, v_brk, v_sws, v_sw, v_sw2, v_run, v_rb, v_turn, v_tu1, v_tu0, v_tu2, v_tu3, fst1, snd1, Option.map_some, Option.getD_some, enA, en, stE, okb, narV, rf_toNat, rf_nn, List.getElem?_cons_zero, List.getElem?_cons_succ, w32_id, w64_id, ite_t, ite_f, Int.toNat_add, Int.toNat_mul, dec_t, dec_f, c1, c2]
set_option maxRecDepth 100000 in theorem c_fall1 {μ : Mem} {h k n P M N w : Nat} {fl st op arg : Nat → Int} {s : Int} (Q : DQ μ h k n P M fl st) (hw : st 0 = (w : Int)) (hw2 : w < 4096) (L : LWN μ (h + 6) lieW (-19) op arg s N) {t : Nat} (ht : t < 3) (C : CD μ k n (dkT fl st (LV op arg s N) n P t)) : ∃ μ', loopS 4 5 kX0_fall_1c kX0_fall_1b kX0_fall_1u shC [(2, rf 106), (2, rf h), (2, rf k), (0, (t : Int)), (0, 0)] μ = some (0, 0, [(2, rf 106), (2, rf h), (2, rf k), (0, (t : Int)), (0, (n : Int))], μ') ∧ CD μ' k n (dkT fl st (LV op arg s N) n P (t + 1)) ∧ ∀ x y, x ≠ 107 → x ≠ 109 → x ≠ h + 8 → x ≠ k + 1 → μ' x y = μ x y := by
  have B := Q.2.2.2.2.1
  have n1 := B.n1
  have hh := Q.1
  have hk := Q.2.1
  generalize hV : LV op arg s N = V at *
  obtain ⟨env', m, lp, ⟨h3, C', D⟩⟩ := loop_n (kb := 4) (kc := 5) (c := kX0_fall_1c) (body := kX0_fall_1b) (upd := kX0_fall_1u) (sh := shC) (n := n) (fun j env m => env = [(2, rf 106), (2, rf h), (2, rf k), (0, (t : Int)), (0, (j : Int))] ∧ CD m k n (dkB fl st V n P (t : Int) (dkT fl st V n P t) j) ∧ ∀ x y, x ≠ 107 → x ≠ 109 → x ≠ h + 8 → x ≠ k + 1 → m x y = μ x y) (by
    rintro j env m hj ⟨rfl, C1, D⟩
    have Q1 := Q.of (μ' := m) (fun x y h1 _ h3 h4 h5 => D x y h1 h3 h5 h4)
    have L1 := L.of (μ' := m) (fun x y hx => D x y (by omega) (by omega) (by omega) (by omega))
    have W1 := (NW.dT_ (fl := fl) (st := st) (V := V) (n := n) (P := P) t).dB_ (fl := fl) (st := st) (V := V) (t := (t : Int)) j (by omega)
    have bs : dkB fl st V n P (t : Int) (dkT fl st V n P t) (j + 1) = dk1 fl st V n P (t : Int) j (dkB fl st V n P (t : Int) (dkT fl st V n P t) j) := rfl
    have Q1' := Q1
    obtain ⟨-, -, ⟨f0, f1, -, -, -, -, -, -, -, -, -, -, g1, -⟩, o, -, FR, ⟨p0, -⟩, -, -, a0⟩ := Q1'
    have hki := FR.ki j hj
    have hbe := FR.be
    rw [B.n0] at hbe
    have ea := c_isAway o (a0.trans hw) hw2 (show j < 12 by omega)
    have et := c_turnOf (sh := shC) (μ := m) (fl (3 + 2 * j))
    have k0 := o.1
    have hj12 : j < 12 := by omega
    rw [bs]
    unfold dk1
    have gw : (st 0).toNat = w := by rw [hw, Int.toNat_natCast]
    by_cases g : goS fl st (t : Int) j
    · rw [if_pos g]
      obtain ⟨m', e', C', D'⟩ := c_lieDown Q1 C1 W1 hj (dk_before g) L1
      rw [hV] at C'
      refine ⟨_, m', ?_, rfl, C', fun x y h1 h2 h3 h4 => by rw [D' x y h1 h2 h3 h4]; exact D x y h1 h2 h3 h4⟩
      have g1' := g.1
      have g2' := g.2
      rw [gw] at g2'
      rw [g1'] at et
      rw [g2'] at ea
      simp -implicitDefEqProofs (disch := omega) [kX0_fall_1c, kX0_fall_1b, kX0_fall_1u, v_cop, v_c1, v_c2, v_c3, v_c4, v_c5, v_bin, v_bn, v_bn2, v_div, v_dv, v_dv2, v_une, v_un, v_loc, v_num, v_get, v_gt, v_ald, v_al, v_al2, v_len, v_ln, v_rl0, v_rl1, v_rl2, v_rl3, v_rl4, v_rl5, v_cmp, v_cp, v_cp2, v_zC, v_zc, v_con, v_kc, v_and, v_an1, v_an0, v_or, v_or1, v_or0, v_not, v_nt, v_boo, v_bo, v_cnd, v_cd1, v_cd0, v_cnc, v_cc1, v_cc0, v_ev0, v_ev, v_e1, v_e2, v_cve, v_cv, v_cse, v_cs, v_skip, v_seq, v_sq0, v_sq1, v_sqr, v_sts, v_st, v_inc, v_put, v_pt, v_pt2, v_fop, v_fo, v_fo2, v_ast, v_as, v_as2, v_as3, v_aop, v_ao, v_ao2, v_ao3, v_exs, v_ex, v_ifs, v_if1, v_if0, v_ret, v_rt, v_rez, v_rz, v_rev, v_brk, v_sws, v_sw, v_sw2, v_run, v_rb, v_turn, v_tu1, v_tu0, v_tu2, v_tu3, fst1, snd1, Option.map_some, Option.getD_some, enA, en, stE, okb, narV, rf_toNat, rf_nn, List.getElem?_cons_zero, List.getElem?_cons_succ, w32_id, w64_id, ite_t, ite_f, Int.toNat_add, Int.toNat_mul, dec_t, dec_f, f0, f1, g1, hki, hbe, hj, hj12, k0, sC_106, et, ea, e']
    · rw [if_neg g]
      refine ⟨_, m, ?_, rfl, C1, D⟩
      by_cases g1' : (if fl (3 + 2 * j) = 1 then 0 else if fl (3 + 2 * j) = 4 then 2 else (1 : Int)) = (t : Int)
      · have g2' : w.testBit j = true := by
          cases hz : w.testBit j with
          | true => rfl
          | false => exact absurd ⟨g1', by rw [gw]; exact hz⟩ g
        rw [g1'] at et
        rw [g2'] at ea
        simp -implicitDefEqProofs (disch := omega) [kX0_fall_1c, kX0_fall_1b, kX0_fall_1u, v_cop, v_c1, v_c2, v_c3, v_c4, v_c5, v_bin, v_bn, v_bn2, v_div, v_dv, v_dv2, v_une, v_un, v_loc, v_num, v_get, v_gt, v_ald, v_al, v_al2, v_len, v_ln, v_rl0, v_rl1, v_rl2, v_rl3, v_rl4, v_rl5, v_cmp, v_cp, v_cp2, v_zC, v_zc, v_con, v_kc, v_and, v_an1, v_an0, v_or, v_or1, v_or0, v_not, v_nt, v_boo, v_bo, v_cnd, v_cd1, v_cd0, v_cnc, v_cc1, v_cc0, v_ev0, v_ev, v_e1, v_e2, v_cve, v_cv, v_cse, v_cs, v_skip, v_seq, v_sq0, v_sq1, v_sqr, v_sts, v_st, v_inc, v_put, v_pt, v_pt2, v_fop, v_fo, v_fo2, v_ast, v_as, v_as2, v_as3, v_aop, v_ao, v_ao2, v_ao3, v_exs, v_ex, v_ifs, v_if1, v_if0, v_ret, v_rt, v_rez, v_rz, v_rev, v_brk, v_sws, v_sw, v_sw2, v_run, v_rb, v_turn, v_tu1, v_tu0, v_tu2, v_tu3, fst1, snd1, Option.map_some, Option.getD_some, enA, en, stE, okb, narV, rf_toNat, rf_nn, List.getElem?_cons_zero, List.getElem?_cons_succ, w32_id, w64_id, ite_t, ite_f, Int.toNat_add, Int.toNat_mul, dec_t, dec_f, f0, f1, g1, hki, hbe, hj, hj12, k0, et, ea]
      · generalize (if fl (3 + 2 * j) = 1 then 0 else if fl (3 + 2 * j) = 4 then 2 else (1 : Int)) = T at et g1'
        simp -implicitDefEqProofs (disch := omega) [kX0_fall_1c, kX0_fall_1b, kX0_fall_1u, v_cop, v_c1, v_c2, v_c3, v_c4, v_c5, v_bin, v_bn, v_bn2, v_div, v_dv, v_dv2, v_une, v_un, v_loc, v_num, v_get, v_gt, v_ald, v_al, v_al2, v_len, v_ln, v_rl0, v_rl1, v_rl2, v_rl3, v_rl4, v_rl5, v_cmp, v_cp, v_cp2, v_zC, v_zc, v_con, v_kc, v_and, v_an1, v_an0, v_or, v_or1, v_or0, v_not, v_nt, v_boo, v_bo, v_cnd, v_cd1, v_cd0, v_cnc, v_cc1, v_cc0, v_ev0, v_ev, v_e1, v_e2, v_cve, v_cv, v_cse, v_cs, v_skip, v_seq, v_sq0, v_sq1, v_sqr, v_sts, v_st, v_inc, v_put, v_pt, v_pt2, v_fop, v_fo, v_fo2, v_ast, v_as, v_as2, v_as3, v_aop, v_ao, v_ao2, v_ao3, v_exs, v_ex, v_ifs, v_if1, v_if0, v_ret, v_rt, v_rez, v_rz, v_rev, v_brk, v_sws, v_sw, v_sw2, v_run, v_rb, v_turn, v_tu1, v_tu0, v_tu2, v_tu3, fst1, snd1, Option.map_some, Option.getD_some, enA, en, stE, okb, narV, rf_toNat, rf_nn, List.getElem?_cons_zero, List.getElem?_cons_succ, w32_id, w64_id, ite_t, ite_f, Int.toNat_add, Int.toNat_mul, dec_t, dec_f, f0, f1, g1, hki, hbe, hj, hj12, k0, et, g1']) (by
    rintro env m ⟨rfl, C1, D⟩
    have Q1 := Q.of (μ' := m) (fun x y h1 _ h3 h4 h5 => D x y h1 h3 h5 h4)
    obtain ⟨-, -, ⟨f0, -⟩, -, -, FR, -⟩ := Q1
    have hbe := FR.be
    rw [B.n0] at hbe
    simp -implicitDefEqProofs (disch := omega) [kX0_fall_1c, v_cop, v_c1, v_c2, v_c3, v_c4, v_c5, v_bin, v_bn, v_bn2, v_div, v_dv, v_dv2, v_une, v_un, v_loc, v_num, v_get, v_gt, v_ald, v_al, v_al2, v_len, v_ln, v_rl0, v_rl1, v_rl2, v_rl3, v_rl4, v_rl5, v_cmp, v_cp, v_cp2, v_zC, v_zc, v_con, v_kc, v_and, v_an1, v_an0, v_or, v_or1, v_or0, v_not, v_nt, v_boo, v_bo, v_cnd, v_cd1, v_cd0, v_cnc, v_cc1, v_cc0, v_ev0, v_ev, v_e1, v_e2, v_cve, v_cv, v_cse, v_cs, v_skip, v_seq, v_sq0, v_sq1, v_sqr, v_sts, v_st, v_inc, v_put, v_pt, v_pt2, v_fop, v_fo, v_fo2, v_ast, v_as, v_as2, v_as3, v_aop, v_ao, v_ao2, v_ao3, v_exs, v_ex, v_ifs, v_if1, v_if0, v_ret, v_rt, v_rez, v_rz, v_rev, v_brk, v_sws, v_sw, v_sw2, v_run, v_rb, v_turn, v_tu1, v_tu0, v_tu2, v_tu3, fst1, snd1, Option.map_some, Option.getD_some, enA, en, stE, okb, narV, rf_toNat, rf_nn, List.getElem?_cons_zero, List.getElem?_cons_succ, w32_id, w64_id, ite_t, ite_f, Int.toNat_add, Int.toNat_mul, dec_t, dec_f, f0, hbe]) (env := [(2, rf 106), (2, rf h), (2, rf k), (0, (t : Int)), (0, 0)]) (μ := μ) ⟨rfl, C, fun _ _ _ _ _ _ => rfl⟩
  subst h3
  exact ⟨m, lp, C', D⟩
set_option maxRecDepth 100000 in theorem c_fall0 {μ : Mem} {h k n P M N w : Nat} {fl st op arg : Nat → Int} {s : Int} (Q : DQ μ h k n P M fl st) (hw : st 0 = (w : Int)) (hw2 : w < 4096) (L : LWN μ (h + 6) lieW (-19) op arg s N) (C : CD μ k n (fun _ => -1)) : ∃ μ', loopS 2 3 kX0_fall_0c kX0_fall_0b kX0_fall_0u shC [(2, rf 106), (2, rf h), (2, rf k), (0, 0), (3, 0)] μ = some (0, 0, [(2, rf 106), (2, rf h), (2, rf k), (0, 3), (0, (n : Int))], μ') ∧ CD μ' k n (dkT fl st (LV op arg s N) n P 3) ∧ ∀ x y, x ≠ 107 → x ≠ 109 → x ≠ h + 8 → x ≠ k + 1 → μ' x y = μ x y := by
  have hh := Q.1
  have hk := Q.2.1
  generalize hV : LV op arg s N = V at *
  obtain ⟨env', m, lp, ⟨a4, v4, h4, h3, h5, C', D⟩⟩ := loop_n (kb := 2) (kc := 3) (c := kX0_fall_0c) (body := kX0_fall_0b) (upd := kX0_fall_0u) (sh := shC) (n := 3) (fun j env m => ∃ (a4 : Nat) (v4 : Int), a4 ≠ 1 ∧ env = [(2, rf 106), (2, rf h), (2, rf k), (0, (j : Int)), (a4, v4)] ∧ (0 < j → (a4, v4) = (0, (n : Int))) ∧ CD m k n (dkT fl st V n P j) ∧ ∀ x y, x ≠ 107 → x ≠ 109 → x ≠ h + 8 → x ≠ k + 1 → m x y = μ x y) (by
    rintro j env m hj ⟨a4, v4, h4, rfl, -, C1, D⟩
    have Q1 := Q.of (μ' := m) (fun x y h1 _ h3 h4 h5 => D x y h1 h3 h5 h4)
    have L1 := L.of (μ' := m) (fun x y hx => D x y (by omega) (by omega) (by omega) (by omega))
    rw [← hV] at C1
    obtain ⟨m', e', C', D'⟩ := c_fall1 Q1 hw hw2 L1 hj C1
    rw [hV] at C'
    have h4' : ¬ a4 = 1 := h4
    have hj3 : (j : Int) < 3 := by omega
    refine ⟨[(2, rf 106), (2, rf h), (2, rf k), (0, ((j + 1 : Nat) : Int)), (0, (n : Int))], m', ?_, 0, _, by decide, rfl, fun _ => rfl, C', fun x y h1 h2 h3 h4 => by rw [D' x y h1 h2 h3 h4]; exact D x y h1 h2 h3 h4⟩
    simp -implicitDefEqProofs (disch := omega) [kX0_fall_0c, kX0_fall_0b, kX0_fall_0u, kX0_fall_1, v_cop, v_c1, v_c2, v_c3, v_c4, v_c5, v_bin, v_bn, v_bn2, v_div, v_dv, v_dv2, v_une, v_un, v_loc, v_num, v_get, v_gt, v_ald, v_al, v_al2, v_len, v_ln, v_rl0, v_rl1, v_rl2, v_rl3, v_rl4, v_rl5, v_cmp, v_cp, v_cp2, v_zC, v_zc, v_con, v_kc, v_and, v_an1, v_an0, v_or, v_or1, v_or0, v_not, v_nt, v_boo, v_bo, v_cnd, v_cd1, v_cd0, v_cnc, v_cc1, v_cc0, v_ev0, v_ev, v_e1, v_e2, v_cve, v_cv, v_cse, v_cs, v_skip, v_seq, v_sq0, v_sq1, v_sqr, v_sts, v_st, v_inc, v_put, v_pt, v_pt2, v_fop, v_fo, v_fo2, v_ast, v_as, v_as2, v_as3, v_aop, v_ao, v_ao2, v_ao3, v_exs, v_ex, v_ifs, v_if1, v_if0, v_ret, v_rt, v_rez, v_rz, v_rev, v_brk, v_sws, v_sw, v_sw2, v_run, v_rb, v_turn, v_tu1, v_tu0, v_tu2, v_tu3, fst1, snd1, Option.map_some, Option.getD_some, enA, en, stE, okb, narV, rf_toNat, rf_nn, List.getElem?_cons_zero, List.getElem?_cons_succ, w32_id, w64_id, ite_t, ite_f, Int.toNat_add, Int.toNat_mul, dec_t, dec_f, h4', hj, hj3, e']) (by
    rintro env m ⟨a4, v4, h4, rfl, -⟩
    simp -implicitDefEqProofs (disch := omega) [kX0_fall_0c, v_cop, v_c1, v_c2, v_c3, v_c4, v_c5, v_bin, v_bn, v_bn2, v_div, v_dv, v_dv2, v_une, v_un, v_loc, v_num, v_get, v_gt, v_ald, v_al, v_al2, v_len, v_ln, v_rl0, v_rl1, v_rl2, v_rl3, v_rl4, v_rl5, v_cmp, v_cp, v_cp2, v_zC, v_zc, v_con, v_kc, v_and, v_an1, v_an0, v_or, v_or1, v_or0, v_not, v_nt, v_boo, v_bo, v_cnd, v_cd1, v_cd0, v_cnc, v_cc1, v_cc0, v_ev0, v_ev, v_e1, v_e2, v_cve, v_cv, v_cse, v_cs, v_skip, v_seq, v_sq0, v_sq1, v_sqr, v_sts, v_st, v_inc, v_put, v_pt, v_pt2, v_fop, v_fo, v_fo2, v_ast, v_as, v_as2, v_as3, v_aop, v_ao, v_ao2, v_ao3, v_exs, v_ex, v_ifs, v_if1, v_if0, v_ret, v_rt, v_rez, v_rz, v_rev, v_brk, v_sws, v_sw, v_sw2, v_run, v_rb, v_turn, v_tu1, v_tu0, v_tu2, v_tu3, fst1, snd1, Option.map_some, Option.getD_some, enA, en, stE, okb, narV, rf_toNat, rf_nn, List.getElem?_cons_zero, List.getElem?_cons_succ, w32_id, w64_id, ite_t, ite_f, Int.toNat_add, Int.toNat_mul, dec_t, dec_f]) (env := [(2, rf 106), (2, rf h), (2, rf k), (0, 0), (3, 0)]) (μ := μ) ⟨3, 0, by decide, rfl, fun z => by omega, C, fun _ _ _ _ _ _ => rfl⟩
  have h6 := h5 (by omega)
  cases h6
  subst h3
  exact ⟨m, lp, C', D⟩
set_option maxRecDepth 100000 in theorem c_closed {μ : Mem} {h k n P M : Nat} {fl st nw old : Nat → Int} (Q : DQ μ h k n P M fl st) (C : CD μ k n nw) (W : NW nw n P) (bf : ∀ b, b < 12 → μ 108 b = old b) (bs : ∀ i, i < 144 → μ (k + 4) i = st (38 + i)) (hev : μ k 1 = st 1) (rn : ∀ i, i < 182 → -2147483648 ≤ st i ∧ st i < 2147483648) : ∃ μ', fX0_closed shC [(2, rf 106), (2, rf k)] μ = some (samS nw old 12, μ') ∧ μ' k 1 = w32 (st 1 + 1) ∧ (∀ b, b < 12 → μ' (k + 2) b = nw b) ∧ (∀ b, b < 12 → μ' (k + 3) b = if 0 ≤ nw b then w32 (st (26 + b) + 1) else st (26 + b)) ∧ (∀ i, i < 144 → μ' (k + 4) i = w32 (st (38 + i) + adj1 nw (i / 12) (i % 12))) ∧ ∀ x y, x ≠ k + 2 → x ≠ k + 3 → x ≠ k + 4 → ¬ (x = k ∧ y = 1) → μ' x y = μ x y := by
  obtain ⟨hh, hk, -, o, B, -, ⟨p0, p1, p2⟩, -, ln, -⟩ := Q
  have o' := o
  obtain ⟨k0, k1, k2, k3, k4, k5, k6, k7, k8⟩ := o'
  obtain ⟨m, lp, A1, A2, D⟩ := c_closed0 (st := st) (nw := nw) (old := old) o hk p1 C.1 bf ln (fun b => (W.rg b).1)
  have om : ObLy shC m k := ⟨k0, k1, k2, k3, k4, by rw [D _ _ (by omega) (by omega)]; exact k5, by rw [D _ _ (by omega) (by omega)]; exact k6, by rw [D _ _ (by omega) (by omega)]; exact k7, by rw [D _ _ (by omega) (by omega)]; exact k8⟩
  obtain ⟨m', ⟨a4, a5, v4, v5, lp'⟩, A3, D'⟩ := c_closed1 (st := st) om hk W B.n1 B.P2 (by rw [D _ _ (by omega) (by omega)]; exact p0) (fun p hp => by rw [D _ _ (by omega) (by omega)]; exact C.2 p hp) (fun i hi => by rw [D _ _ (by omega) (by omega)]; exact bs i hi) rn (samS nw old 12)
  have ev : m' k 1 = st 1 := by rw [D' _ _ (by omega), D _ _ (by omega) (by omega)]; exact hev
  refine ⟨ud m' k 1 (w32 (st 1 + 1)), ?_, ud_s, fun b hb => ?_, fun b hb => ?_, fun i hi => ?_, fun x y h1 h2 h3 h4 => ?_⟩
  · have s01 := sam_01 nw old 12
    generalize samS nw old 12 = S at *
    rcases s01 with rfl | rfl <;> simp -implicitDefEqProofs (disch := omega) [fX0_closed, bX0_closed, kX0_closed_0, kX0_closed_1, v_cop, v_c1, v_c2, v_c3, v_c4, v_c5, v_bin, v_bn, v_bn2, v_div, v_dv, v_dv2, v_une, v_un, v_loc, v_num, v_get, v_gt, v_ald, v_al, v_al2, v_len, v_ln, v_rl0, v_rl1, v_rl2, v_rl3, v_rl4, v_rl5, v_cmp, v_cp, v_cp2, v_zC, v_zc, v_con, v_kc, v_and, v_an1, v_an0, v_or, v_or1, v_or0, v_not, v_nt, v_boo, v_bo, v_cnd, v_cd1, v_cd0, v_cnc, v_cc1, v_cc0, v_ev0, v_ev, v_e1, v_e2, v_cve, v_cv, v_cse, v_cs, v_skip, v_seq, v_sq0, v_sq1, v_sqr, v_sts, v_st, v_inc, v_put, v_pt, v_pt2, v_fop, v_fo, v_fo2, v_ast, v_as, v_as2, v_as3, v_aop, v_ao, v_ao2, v_ao3, v_exs, v_ex, v_ifs, v_if1, v_if0, v_ret, v_rt, v_rez, v_rz, v_rev, v_brk, v_sws, v_sw, v_sw2, v_run, v_rb, v_turn, v_tu1, v_tu0, v_tu2, v_tu3, fst1, snd1, Option.map_some, Option.getD_some, enA, en, stE, okb, narV, rf_toNat, rf_nn, List.getElem?_cons_zero, List.getElem?_cons_succ, w32_id, w64_id, ite_t, ite_f, Int.toNat_add, Int.toNat_mul, dec_t, dec_f, lp, lp', k0, ev]
  · rw [ud_c (by omega), D' _ _ (by omega)]; exact A1 b hb
  · rw [ud_c (by omega), D' _ _ (by omega)]; exact A2 b hb
  · rw [ud_c (by omega)]; exact A3 i hi
  · rw [ud_n h4, D' _ _ h3]; exact D x y h1 h2
