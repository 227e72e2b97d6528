/-! an evening: the reference, whole -/
def duJ (st nw : Nat → Int) (n j : Nat) : Nat → Int := fun i => if 14 ≤ i ∧ i < 26 then (if i - 14 < j then nw (i - 14) else st i) else st i
def RJ (m : Mem) (st nw : Nat → Int) (n j : Nat) : Prop := (∀ b, b < j → m 15 (14 + b) = nw b) ∧ (∀ b, j ≤ b → b < 12 → m 15 (14 + b) = st (14 + b)) ∧ (∀ b, b < j → m 15 (26 + b) = if 0 ≤ nw b then w32 (st (26 + b) + 1) else st (26 + b)) ∧ (∀ b, j ≤ b → b < 12 → m 15 (26 + b) = st (26 + b)) ∧ (∀ a b, a < j → b < n → m 15 (38 + 12 * a + b) = w32 (st (38 + 12 * a + b) + adj1 nw a b)) ∧ (∀ a b, a < 12 → b < 12 → (j ≤ a ∨ n ≤ b) → m 15 (38 + 12 * a + b) = st (38 + 12 * a + b))
set_option maxRecDepth 100000 in theorem r_goes3 {μ : Mem} {n : Nat} {st nw : Nat → Int} (h : PM μ) (hn : μ 6 1 = (n : Int)) (n1 : n ≤ 12) (C : RD μ nw) (J : RJ μ st nw n 0) (hw : ∀ b, -1 ≤ nw b ∧ nw b < 16) (rn : ∀ i, i < 182 → -2147483648 ≤ st i ∧ st i < 2147483648) {a2 a3 : Nat} {v2 v3 : Int} (ha2 : a2 ≠ 1) (ha3 : a3 ≠ 1) : ∃ μ', (∃ env', loopS 8 9 kX12_goesOn_3c kX12_goesOn_3b kX12_goesOn_3u shM [(2, rf 0), (0, 0), (a2, v2), (a3, v3), (3, 0)] μ = some (0, 0, (2, rf 0) :: env', μ')) ∧ RJ μ' st nw n n ∧ ∀ x y, ¬ (x = 15 ∧ 14 ≤ y ∧ y < 182) → μ' x y = μ x y := by
  obtain ⟨env', m, lp, ⟨b2, b3, b4, u2, u3, u4, hb2, hb3, hb4, h3, A, D⟩⟩ := loop_n (kb := 8) (kc := 9) (c := kX12_goesOn_3c) (body := kX12_goesOn_3b) (upd := kX12_goesOn_3u) (sh := shM) (n := n) (fun j env m => ∃ (b2 b3 b4 : Nat) (u2 u3 u4 : Int), b2 ≠ 1 ∧ b3 ≠ 1 ∧ b4 ≠ 1 ∧ env = [(2, rf 0), (0, (j : Int)), (b2, u2), (b3, u3), (b4, u4)] ∧ RJ m st nw n j ∧ ∀ x y, ¬ (x = 15 ∧ 14 ≤ y ∧ y < 182) → m x y = μ x y) (by
    rintro j env m hj ⟨b2, b3, b4, u2, u3, u4, hb2, hb3, hb4, rfl, A, D⟩
    have p : PM m := h.keep (S := fun x y => x = 15) (fun x y hs => D x y (by omega)) (by decide)
    have d6 : m 6 1 = (n : Int) := by rw [D 6 1 (by omega)]; exact hn
    have eb := r_beasts p
    rw [d6] at eb
    have e1 : m 15 (2 + j) = nw j := by rw [D _ _ (by omega)]; exact C j (by omega)
    obtain ⟨A1, A2, A3, A4, A5, A6⟩ := A
    have e4 := A4 j (by omega) (by omega)
    have w1 := hw j
    have i1 : 2 + (j : Int) < 5220 := by omega
    have i2 : 14 + (j : Int) < 5220 := by omega
    have i3 : 26 + (j : Int) < 5220 := by omega
    have hb2' : ¬ b2 = 1 := hb2
    generalize hX : (if 0 ≤ nw j then w32 (st (26 + j) + 1) else st (26 + j)) = X
    have f1 : astS 100 (getE 12 23 2 (locE 2 0)) (binE (fun x y => w32 (x + y)) (numE 14) (locE 0 1)) (aldE 100 (getE 12 23 2 (locE 2 0)) (binE (fun x y => w32 (x + y)) (numE 2) (locE 0 1))) shM [(2, rf 0), (0, (j : Int)), (b2, u2), (b3, u3), (b4, u4)] m = some (0, 0, [(2, rf 0), (0, (j : Int)), (b2, u2), (b3, u3), (b4, u4)], ud m 15 (14 + j) (nw j)) := by
      simp -implicitDefEqProofs (disch := omega) [v_cop, v_c1, v_c2, v_c3, v_c4, v_c5, v_bin, v_bn, v_bn2, v_div, v_dv, v_dv2, v_une, v_un, v_loc, v_num, v_get, v_gt, v_ald, v_al, v_al2, v_len, v_ln, v_rl0, v_rl1, v_rl2, v_rl3, v_rl4, v_rl5, v_cmp, v_cp, v_cp2, v_zC, v_zc, v_con, v_kc, v_and, v_an1, v_an0, v_or, v_or1, v_or0, v_not, v_nt, v_boo, v_bo, v_cnd, v_cd1, v_cd0, v_cnc, v_cc1, v_cc0, v_ev0, v_ev, v_e1, v_e2, v_cve, v_cv, v_cse, v_cs, v_skip, v_seq, v_sq0, v_sq1, v_sqr, v_sts, v_st, v_inc, v_put, v_pt, v_pt2, v_fop, v_fo, v_fo2, v_ast, v_as, v_as2, v_as3, v_aop, v_ao, v_ao2, v_ao3, v_exs, v_ex, v_ifs, v_if1, v_if0, v_ret, v_rt, v_rez, v_rz, v_rev, v_brk, v_sws, v_sw, v_sw2, v_run, v_rb, v_turn, v_tu1, v_tu0, v_tu2, v_tu3, fst1, snd1, Option.map_some, Option.getD_some, enA, en, stE, okb, narV, rf_toNat, rf_nn, List.getElem?_cons_zero, List.getElem?_cons_succ, w32_id, w64_id, ite_t, ite_f, Int.toNat_add, Int.toNat_mul, dec_t, dec_f, sM_0, sM_15, p.p23, e1, i1, i2]
    have p1 : PM (ud m 15 (14 + j) (nw j)) := p.keep (S := fun x y => x = 15) (fun x y hs => ud_n (by omega)) (by decide)
    have g1 : ud m 15 (14 + j) (nw j) 15 (2 + j) = nw j := by rw [ud_j (by omega)]; exact e1
    have g2 : ud m 15 (14 + j) (nw j) 15 (26 + j) = st (26 + j) := by rw [ud_j (by omega)]; exact e4
    have f2 : aopS 100 (fun x y => w32 (x + y)) (getE 12 23 2 (locE 2 0)) (binE (fun x y => w32 (x + y)) (numE 26) (locE 0 1)) (condE (zC 3 (aldE 100 (getE 12 23 2 (locE 2 0)) (binE (fun x y => w32 (x + y)) (numE 2) (locE 0 1)))) (numE 1) (numE 0)) shM [(2, rf 0), (0, (j : Int)), (b2, u2), (b3, u3), (b4, u4)] (ud m 15 (14 + j) (nw j)) = some (0, 0, [(2, rf 0), (0, (j : Int)), (b2, u2), (b3, u3), (b4, u4)], ud (ud m 15 (14 + j) (nw j)) 15 (26 + j) X) := by
      by_cases c : 0 ≤ nw j
      · rw [if_pos c] at hX
        simp -implicitDefEqProofs (disch := omega) [v_cop, v_c1, v_c2, v_c3, v_c4, v_c5, v_bin, v_bn, v_bn2, v_div, v_dv, v_dv2, v_une, v_un, v_loc, v_num, v_get, v_gt, v_ald, v_al, v_al2, v_len, v_ln, v_rl0, v_rl1, v_rl2, v_rl3, v_rl4, v_rl5, v_cmp, v_cp, v_cp2, v_zC, v_zc, v_con, v_kc, v_and, v_an1, v_an0, v_or, v_or1, v_or0, v_not, v_nt, v_boo, v_bo, v_cnd, v_cd1, v_cd0, v_cnc, v_cc1, v_cc0, v_ev0, v_ev, v_e1, v_e2, v_cve, v_cv, v_cse, v_cs, v_skip, v_seq, v_sq0, v_sq1, v_sqr, v_sts, v_st, v_inc, v_put, v_pt, v_pt2, v_fop, v_fo, v_fo2, v_ast, v_as, v_as2, v_as3, v_aop, v_ao, v_ao2, v_ao3, v_exs, v_ex, v_ifs, v_if1, v_if0, v_ret, v_rt, v_rez, v_rz, v_rev, v_brk, v_sws, v_sw, v_sw2, v_run, v_rb, v_turn, v_tu1, v_tu0, v_tu2, v_tu3, fst1, snd1, Option.map_some, Option.getD_some, enA, en, stE, okb, narV, rf_toNat, rf_nn, List.getElem?_cons_zero, List.getElem?_cons_succ, w32_id, w64_id, ite_t, ite_f, Int.toNat_add, Int.toNat_mul, dec_t, dec_f, sM_0, sM_15, p1.p23, g1, g2, i1, i3, c, hX]
      · rw [if_neg c] at hX
        have z := w32_id (rn (26 + j) (by omega))
        rw [hX] at z
        simp -implicitDefEqProofs (disch := omega) [v_cop, v_c1, v_c2, v_c3, v_c4, v_c5, v_bin, v_bn, v_bn2, v_div, v_dv, v_dv2, v_une, v_un, v_loc, v_num, v_get, v_gt, v_ald, v_al, v_al2, v_len, v_ln, v_rl0, v_rl1, v_rl2, v_rl3, v_rl4, v_rl5, v_cmp, v_cp, v_cp2, v_zC, v_zc, v_con, v_kc, v_and, v_an1, v_an0, v_or, v_or1, v_or0, v_not, v_nt, v_boo, v_bo, v_cnd, v_cd1, v_cd0, v_cnc, v_cc1, v_cc0, v_ev0, v_ev, v_e1, v_e2, v_cve, v_cv, v_cse, v_cs, v_skip, v_seq, v_sq0, v_sq1, v_sqr, v_sts, v_st, v_inc, v_put, v_pt, v_pt2, v_fop, v_fo, v_fo2, v_ast, v_as, v_as2, v_as3, v_aop, v_ao, v_ao2, v_ao3, v_exs, v_ex, v_ifs, v_if1, v_if0, v_ret, v_rt, v_rez, v_rz, v_rev, v_brk, v_sws, v_sw, v_sw2, v_run, v_rb, v_turn, v_tu1, v_tu0, v_tu2, v_tu3, fst1, snd1, Option.map_some, Option.getD_some, enA, en, stE, okb, narV, rf_toNat, rf_nn, List.getElem?_cons_zero, List.getElem?_cons_succ, w32_id, w64_id, ite_t, ite_f, Int.toNat_add, Int.toNat_mul, dec_t, dec_f, sM_0, sM_15, p1.p23, g1, g2, i1, i3, c, z, hX]
    generalize hm2 : ud (ud m 15 (14 + j) (nw j)) 15 (26 + j) X = m2 at f2
    have D2 : ∀ x y, ¬ (x = 15 ∧ (y = 14 + j ∨ y = 26 + j)) → m2 x y = m x y := fun x y hxy => by rw [← hm2, ud_n (by omega), ud_n (by omega)]
    have p2 : PM m2 := p.keep (S := fun x y => x = 15) (fun x y hs => D2 x y (by omega)) (by decide)
    obtain ⟨m', ⟨c3, c4, w3, w4, hc3, hc4, lp'⟩, B1, B2⟩ := r_goes4 (st := st) (nw := nw) p2 (by rw [D2 _ _ (by omega)]; exact d6) n1 hj (fun b hb => by rw [D2 _ _ (by omega), D _ _ (by omega)]; exact C b hb) (fun y hy => by rw [D2 _ _ (by omega)]; exact A6 j y (by omega) (by omega) (.inl (by omega))) hw (a3 := b3) (v3 := u3) hb3 (a4 := b4) (v4 := u4) hb4
    have key : kX12_goesOn_3b shM [(2, rf 0), (0, (j : Int)), (b2, u2), (b3, u3), (b4, u4)] m = some (0, 0, [(2, rf 0), (0, (j : Int)), (0, (n : Int)), (c3, w3), (c4, w4)], m') := by
      unfold kX12_goesOn_3b
      rw [v_seq, f1, v_sq0, v_seq, f2, v_sq0]
      simp -implicitDefEqProofs (disch := omega) [kX12_goesOn_4, v_cop, v_c1, v_c2, v_c3, v_c4, v_c5, v_bin, v_bn, v_bn2, v_div, v_dv, v_dv2, v_une, v_un, v_loc, v_num, v_get, v_gt, v_ald, v_al, v_al2, v_len, v_ln, v_rl0, v_rl1, v_rl2, v_rl3, v_rl4, v_rl5, v_cmp, v_cp, v_cp2, v_zC, v_zc, v_con, v_kc, v_and, v_an1, v_an0, v_or, v_or1, v_or0, v_not, v_nt, v_boo, v_bo, v_cnd, v_cd1, v_cd0, v_cnc, v_cc1, v_cc0, v_ev0, v_ev, v_e1, v_e2, v_cve, v_cv, v_cse, v_cs, v_skip, v_seq, v_sq0, v_sq1, v_sqr, v_sts, v_st, v_inc, v_put, v_pt, v_pt2, v_fop, v_fo, v_fo2, v_ast, v_as, v_as2, v_as3, v_aop, v_ao, v_ao2, v_ao3, v_exs, v_ex, v_ifs, v_if1, v_if0, v_ret, v_rt, v_rez, v_rz, v_rev, v_brk, v_sws, v_sw, v_sw2, v_run, v_rb, v_turn, v_tu1, v_tu0, v_tu2, v_tu3, fst1, snd1, Option.map_some, Option.getD_some, enA, en, stE, okb, narV, rf_toNat, rf_nn, List.getElem?_cons_zero, List.getElem?_cons_succ, w32_id, w64_id, ite_t, ite_f, Int.toNat_add, Int.toNat_mul, dec_t, dec_f, hb2', lp']
    refine ⟨_, m', ?_, 0, c3, c4, (n : Int), w3, w4, by decide, hc3, hc4, rfl, ⟨fun b hb => ?_, fun b h1 h2 => ?_, fun b hb => ?_, fun b h1 h2 => ?_, fun a b h1 h2 => ?_, fun a b h1 h2 h3 => ?_⟩, fun x y hxy => by rw [B2 x y (by omega), D2 x y (by omega)]; exact D x y hxy⟩
    · simp -implicitDefEqProofs (disch := omega) [kX12_goesOn_3c, kX12_goesOn_3u, v_cop, v_c1, v_c2, v_c3, v_c4, v_c5, v_bin, v_bn, v_bn2, v_div, v_dv, v_dv2, v_une, v_un, v_loc, v_num, v_get, v_gt, v_ald, v_al, v_al2, v_len, v_ln, v_rl0, v_rl1, v_rl2, v_rl3, v_rl4, v_rl5, v_cmp, v_cp, v_cp2, v_zC, v_zc, v_con, v_kc, v_and, v_an1, v_an0, v_or, v_or1, v_or0, v_not, v_nt, v_boo, v_bo, v_cnd, v_cd1, v_cd0, v_cnc, v_cc1, v_cc0, v_ev0, v_ev, v_e1, v_e2, v_cve, v_cv, v_cse, v_cs, v_skip, v_seq, v_sq0, v_sq1, v_sqr, v_sts, v_st, v_inc, v_put, v_pt, v_pt2, v_fop, v_fo, v_fo2, v_ast, v_as, v_as2, v_as3, v_aop, v_ao, v_ao2, v_ao3, v_exs, v_ex, v_ifs, v_if1, v_if0, v_ret, v_rt, v_rez, v_rz, v_rev, v_brk, v_sws, v_sw, v_sw2, v_run, v_rb, v_turn, v_tu1, v_tu0, v_tu2, v_tu3, fst1, snd1, Option.map_some, Option.getD_some, enA, en, stE, okb, narV, rf_toNat, rf_nn, List.getElem?_cons_zero, List.getElem?_cons_succ, w32_id, w64_id, ite_t, ite_f, Int.toNat_add, Int.toNat_mul, dec_t, dec_f, sM_0, eb, hj, key]
    · rw [B2 _ _ (by omega)]
      by_cases e : b = j
      · rw [e, ← hm2, ud_j (by omega), ud_s]
      · rw [D2 _ _ (by omega)]; exact A1 b (by omega)
    · rw [B2 _ _ (by omega), D2 _ _ (by omega)]; exact A2 b (by omega) h2
    · rw [B2 _ _ (by omega)]
      by_cases e : b = j
      · rw [e, ← hm2, ud_s, hX]
      · rw [D2 _ _ (by omega)]; exact A3 b (by omega)
    · rw [B2 _ _ (by omega), D2 _ _ (by omega)]; exact A4 b (by omega) h2
    · by_cases e : a = j
      · rw [e]; exact B1 b h2
      · rw [B2 _ _ (by omega), D2 _ _ (by omega)]; exact A5 a b (by omega) h2
    · rw [B2 _ _ (by omega), D2 _ _ (by omega)]; exact A6 a b h1 h2 (by omega)) (by
    rintro env m ⟨b2, b3, b4, u2, u3, u4, hb2, hb3, hb4, rfl, A, D⟩
    have p : PM m := h.keep (S := fun x y => x = 15) (fun x y hs => D x y (by omega)) (by decide)
    have eb := r_beasts p
    rw [D 6 1 (by omega), hn] at eb
    simp -implicitDefEqProofs (disch := omega) [kX12_goesOn_3c, v_cop, v_c1, v_c2, v_c3, v_c4, v_c5, v_bin, v_bn, v_bn2, v_div, v_dv, v_dv2, v_une, v_un, v_loc, v_num, v_get, v_gt, v_ald, v_al, v_al2, v_len, v_ln, v_rl0, v_rl1, v_rl2, v_rl3, v_rl4, v_rl5, v_cmp, v_cp, v_cp2, v_zC, v_zc, v_con, v_kc, v_and, v_an1, v_an0, v_or, v_or1, v_or0, v_not, v_nt, v_boo, v_bo, v_cnd, v_cd1, v_cd0, v_cnc, v_cc1, v_cc0, v_ev0, v_ev, v_e1, v_e2, v_cve, v_cv, v_cse, v_cs, v_skip, v_seq, v_sq0, v_sq1, v_sqr, v_sts, v_st, v_inc, v_put, v_pt, v_pt2, v_fop, v_fo, v_fo2, v_ast, v_as, v_as2, v_as3, v_aop, v_ao, v_ao2, v_ao3, v_exs, v_ex, v_ifs, v_if1, v_if0, v_ret, v_rt, v_rez, v_rz, v_rev, v_brk, v_sws, v_sw, v_sw2, v_run, v_rb, v_turn, v_tu1, v_tu0, v_tu2, v_tu3, fst1, snd1, Option.map_some, Option.getD_some, enA, en, stE, okb, narV, rf_toNat, rf_nn, List.getElem?_cons_zero, List.getElem?_cons_succ, w32_id, w64_id, ite_t, ite_f, Int.toNat_add, Int.toNat_mul, dec_t, dec_f, sM_0, eb]) (env := [(2, rf 0), (0, 0), (a2, v2), (a3, v3), (3, 0)]) (μ := μ) ⟨a2, a3, 3, v2, v3, 0, ha2, ha3, by decide, rfl, J, fun _ _ _ => rfl⟩
  subst h3
  exact ⟨m, ⟨_, lp⟩, A, D⟩
set_option maxRecDepth 100000 in theorem r_goesOn {μ : Mem} {n P M N : Nat} (h : PM μ) (B : FB (μ 6) n P M) (S : SL (μ 15) n P) (L : LQ μ N) : ∃ μ', fX12_goesOn shM [(2, rf 0)] μ = some (0, μ') ∧ (∀ i, i < 182 → μ' 15 i = duS (μ 6) (μ 15) (LV (μ 7) (μ 8) (μ 6 183) N) n P i) ∧ μ' 15 182 = 0 ∧ ∀ x y, x ≠ 13 → x ≠ 14 → ¬ (x = 15 ∧ y ≤ 182) → μ' x y = μ x y := by
  have n1 := B.n1
  have P2 := B.P2
  obtain ⟨w, hw, hw1⟩ := S.aw
  have hw2 : w < 4096 := Nat.lt_of_lt_of_le hw1 (Nat.pow_le_pow_right (n := 2) (by decide) n1)
  obtain ⟨m1, l1, a1, D1⟩ := r_goes0 h B
  have p1 : PM m1 := h.keep (S := fun x y => x = 15) (fun x y hs => D1 x y (by omega)) (by decide)
  have d6 : m1 6 = μ 6 := by funext y; exact D1 6 y (by omega)
  have d7 : m1 7 = μ 7 := by funext y; exact D1 7 y (by omega)
  have d8 : m1 8 = μ 8 := by funext y; exact D1 8 y (by omega)
  have Q1 : RQ m1 n P M (μ 15) := ⟨p1, by rw [d6]; exact B, fun b hb => D1 _ _ (by omega), fun b hb => D1 _ _ (by omega), D1 _ _ (by omega)⟩
  have C1 : RD m1 (fun _ => -1) := fun b hb => by
    by_cases c : b < n
    · exact a1 b c
    · rw [D1 _ _ (by omega)]; exact S.nn b (by omega) hb
  have L1 : LQ m1 N := by
    unfold LQ at L ⊢
    rw [d6, d7, d8]
    exact L
  obtain ⟨m2, ⟨b2, b3, u2, u3, hb2, hb3, l2⟩, C2, D2⟩ := r_goes1 Q1 hw hw2 L1 d6 d7 d8 C1
  have W := NW.dT_ (fl := μ 6) (st := μ 15) (V := LV (μ 7) (μ 8) (μ 6 183) N) (n := n) (P := P) 3
  have p2 : PM m2 := p1.keep (S := fun x y => x = 13 ∨ x = 14 ∨ x = 15) (fun x y hs => D2 x y (by omega) (by omega) (by omega)) (by decide)
  have q2 : ∀ i, 14 ≤ i → m2 15 i = μ 15 i := fun i hi => by rw [D2 _ _ (by omega) (by omega) (by omega), D1 _ _ (by omega)]
  have J : RJ m2 (μ 15) (dkT (μ 6) (μ 15) (LV (μ 7) (μ 8) (μ 6 183) N) n P 3) n 0 := ⟨fun b hb => by omega, fun b _ _ => q2 _ (by omega), fun b hb => by omega, fun b _ _ => q2 _ (by omega), fun a b hb => by omega, fun a b _ _ _ => q2 _ (by omega)⟩
  obtain ⟨m3, ⟨env', l3⟩, J3, D3⟩ := r_goes3 p2 (by rw [D2 _ _ (by omega) (by omega) (by omega), d6]; exact B.n0) n1 C2 J (fun b => ⟨(W.rg b).1, by have := (W.rg b).2; omega⟩) S.rn (a2 := b2) (v2 := u2) (a3 := b3) (v3 := u3) hb2 hb3
  have p3 : PM m3 := p2.keep (S := fun x y => x = 15) (fun x y hs => D3 x y (by omega)) (by decide)
  have hb2' : ¬ b2 = 1 := hb2
  have e1 : m3 15 1 = μ 15 1 := by rw [D3 _ _ (by omega), D2 _ _ (by omega) (by omega) (by omega), D1 _ _ (by omega)]
  have r1 : ∀ v : Int, ud m3 15 1 v 0 23 = rf 15 := fun v => by rw [ud_c (by omega)]; exact p3.p23
  obtain ⟨J1, J2, J4, J5, J6, J7⟩ := J3
  generalize hV : LV (μ 7) (μ 8) (μ 6 183) N = V at *
  refine ⟨ud (ud m3 15 1 (w32 (μ 15 1 + 1))) 15 182 0, ?_, fun i hi => ?_, ud_s, fun x y h1 h2 h3 => ?_⟩
  · simp -implicitDefEqProofs (disch := omega) [fX12_goesOn, bX12_goesOn, kX12_goesOn_0, kX12_goesOn_1, kX12_goesOn_3, v_cop, v_c1, v_c2, v_c3, v_c4, v_c5, v_bin, v_bn, v_bn2, v_div, v_dv, v_dv2, v_une, v_un, v_loc, v_num, v_get, v_gt, v_ald, v_al, v_al2, v_len, v_ln, v_rl0, v_rl1, v_rl2, v_rl3, v_rl4, v_rl5, v_cmp, v_cp, v_cp2, v_zC, v_zc, v_con, v_kc, v_and, v_an1, v_an0, v_or, v_or1, v_or0, v_not, v_nt, v_boo, v_bo, v_cnd, v_cd1, v_cd0, v_cnc, v_cc1, v_cc0, v_ev0, v_ev, v_e1, v_e2, v_cve, v_cv, v_cse, v_cs, v_skip, v_seq, v_sq0, v_sq1, v_sqr, v_sts, v_st, v_inc, v_put, v_pt, v_pt2, v_fop, v_fo, v_fo2, v_ast, v_as, v_as2, v_as3, v_aop, v_ao, v_ao2, v_ao3, v_exs, v_ex, v_ifs, v_if1, v_if0, v_ret, v_rt, v_rez, v_rz, v_rev, v_brk, v_sws, v_sw, v_sw2, v_run, v_rb, v_turn, v_tu1, v_tu0, v_tu2, v_tu3, fst1, snd1, Option.map_some, Option.getD_some, enA, en, stE, okb, narV, rf_toNat, rf_nn, List.getElem?_cons_zero, List.getElem?_cons_succ, w32_id, w64_id, ite_t, ite_f, Int.toNat_add, Int.toNat_mul, dec_t, dec_f, l1, l2, l3, hb2', sM_0, sM_15, p3.p23, e1, r1]
  · rw [ud_j (by omega)]
    by_cases c1 : i = 1
    · rw [c1, ud_s, du_1]
    rw [ud_j c1]
    by_cases c0 : i = 0
    · rw [c0, du_0, D3 _ _ (by omega), D2 _ _ (by omega) (by omega) (by omega), D1 _ _ (by omega)]
    by_cases c2 : i < 14
    · obtain ⟨b, rfl⟩ : ∃ b, i = 2 + b := ⟨i - 2, by omega⟩
      rw [du_n (by omega), D3 _ _ (by omega)]
      exact C2 b (by omega)
    by_cases c3 : i < 26
    · obtain ⟨b, rfl⟩ : ∃ b, i = 14 + b := ⟨i - 14, by omega⟩
      rw [du_l (by omega)]
      by_cases c : b < n
      · exact J1 b c
      · rw [J2 b (by omega) (by omega), W.out (by omega)]; exact S.ll b (by omega) (by omega)
    by_cases c4 : i < 38
    · obtain ⟨b, rfl⟩ : ∃ b, i = 26 + b := ⟨i - 26, by omega⟩
      rw [du_a (by omega)]
      by_cases c : b < n
      · exact J4 b c
      · have wo := W.out (b := b) (by omega)
        rw [J5 b (by omega) (by omega), if_neg (by omega)]
    · obtain ⟨k, rfl⟩ : ∃ k, i = 38 + k := ⟨i - 38, by omega⟩
      rw [du_b (by omega)]
      have ek : 38 + k = 38 + 12 * (k / 12) + k % 12 := by omega
      by_cases c : k / 12 < n ∧ k % 12 < n
      · have z := J6 (k / 12) (k % 12) c.1 c.2
        rw [← ek] at z
        exact z
      · have z := J7 (k / 12) (k % 12) (by omega) (by omega) (by omega)
        rw [← ek] at z
        rw [z]
        have za : adj1 (dkT (μ 6) (μ 15) V n P 3) (k / 12) (k % 12) = 0 := by
          unfold adj1
          have w1 := W.out (b := k / 12)
          have w2 := W.out (b := k % 12)
          rw [if_neg (by omega)]
        rw [za, Int.add_zero, w32_id (S.rn _ (by omega))]
  · rw [ud_n (by omega), ud_n (by omega), D3 _ _ (by omega), D2 _ _ h1 h2 (by omega), D1 _ _ (by omega)]
set_option maxRecDepth 100000 in theorem c_fall {μ : Mem} {h d n P M N : Nat} {fl st op arg : Nat → Int} {s : Int} {k : Nat} (hk : k = 30 ∨ k = 35) (p : PC μ) (hd : HD μ h d) (B : FB fl n P M) (F : FR μ h fl n M) (l : LR μ k st) (S : SL st n P) (L : LWN μ (h + 6) lieW (-19) op arg s N) : ∃ μ', fX0_fall shC [(2, rf 106), (2, rf h), (2, rf k)] μ = some (samS (dkT fl st (LV op arg s N) n P 3) (fun b => st (2 + b)) 12, μ') ∧ LR μ' k (duS fl st (LV op arg s N) n P) ∧ ∀ x y, x ≠ 107 → x ≠ 108 → x ≠ 109 → x ≠ h + 8 → ¬ (x = k ∧ y = 1) → ¬ (k + 1 ≤ x ∧ x ≤ k + 4) → μ' x y = μ x y := by
  have n1 := B.n1
  obtain ⟨w, hw, hw1⟩ := S.aw
  have hw2 : w < 4096 := Nat.lt_of_lt_of_le hw1 (Nat.pow_le_pow_right (n := 2) (by decide) n1)
  have o : ObLy shC μ k := by rcases hk with rfl | rfl; exact p.ly30; exact p.ly35
  have hh := hd.1
  have Q : DQ μ h k n P M fl st := ⟨by omega, hk, p.fl hd, o, B, F, ⟨p.p106_0, p.p106_1, p.p106_2⟩, l.la, l.ln, l.aw⟩
  obtain ⟨k0, k1, k2, k3, k4, k5, k6, k7, k8⟩ := o
  generalize hm : fillM (fillM (cpyM μ (k + 1) 0 108 0 12) 107 16 (-1)) (k + 1) 12 (-1) = m
  have Dm : ∀ x y, x ≠ 107 → x ≠ 108 → x ≠ k + 1 → m x y = μ x y := fun x y h1 h2 h3 => by
    rw [← hm]
    unfold fillM
    rw [if_neg (fun z => h3 z.1), if_neg (fun z => h1 z.1), cpy_c h2]
  have Qm := Q.of (μ' := m) (fun x y h1 h2 _ h4 _ => Dm x y h1 h2 h4)
  have Cm : CD m k n (fun _ => -1) := ⟨fun b hb => by rw [← hm]; unfold fillM; rw [if_pos ⟨rfl, hb⟩], fun q hq => by
    have e1 : whoS (fun _ => -1) n (q : Int) = -1 := fst_none (fun b hb z => by have h0 : (-1 : Int) = (q : Int) := z.2; omega)
    rw [e1, ← hm]
    unfold fillM
    rw [if_neg (by omega), if_pos ⟨rfl, hq⟩]⟩
  have bf : ∀ b, b < 12 → m 108 b = (fun b => st (2 + b)) b := fun b hb => by
    rw [← hm]
    unfold fillM
    rw [if_neg (by omega), if_neg (by omega)]
    unfold cpyM
    rw [if_pos ⟨rfl, by omega, by omega⟩, show 0 + (b - 0) = b by omega]
    exact l.no b hb
  obtain ⟨m1, l1, C1, D1⟩ := c_fall0 Qm hw hw2 (L.of (fun x y hx => Dm x y (by omega) (by omega) (by omega))) Cm
  have W := NW.dT_ (fl := fl) (st := st) (V := LV op arg s N) (n := n) (P := P) 3
  have Q1 := Qm.of (μ' := m1) (fun x y h1 _ h3 h4 h5 => D1 x y h1 h3 h5 h4)
  obtain ⟨m2, e2, A0, A1, A2, A3, D2⟩ := c_closed (old := fun b => st (2 + b)) Q1 C1 W (fun b hb => by rw [D1 _ _ (by omega) (by omega) (by omega) (by omega)]; exact bf b hb) (fun i hi => by rw [D1 _ _ (by omega) (by omega) (by omega) (by omega), Dm _ _ (by omega) (by omega) (by omega)]; exact l.bs i hi) (by rw [D1 _ _ (by omega) (by omega) (by omega) (by omega), Dm _ _ (by omega) (by omega) (by omega)]; exact l.ev) S.rn
  refine ⟨m2, ?_, ⟨?_, ?_, fun b hb => ?_, fun b hb => ?_, fun b hb => ?_, fun i hi => ?_⟩, fun x y h1 h2 h3 h4 h5 h6 => ?_⟩
  · have f1 := f_fill (sh := shC) (μ := cpyM μ (k + 1) 0 108 0 12) (a := 107) (n := 16) (v := -1) rfl (by decide)
    have f2 := f_fill (sh := shC) (μ := fillM (cpyM μ (k + 1) 0 108 0 12) 107 16 (-1)) (a := k + 1) (n := 12) (v := -1) k1 (by decide)
    rw [hm] at f2
    have g0 : cpyM μ (k + 1) 0 108 0 12 106 0 = rf 107 := by rw [cpy_c (by omega)]; exact p.p106_0
    have g1 : fillM (cpyM μ (k + 1) 0 108 0 12) 107 16 (-1) k 2 = rf (k + 1) := by
      unfold fillM
      rw [if_neg (by omega), cpy_c (by omega)]; exact k5
    have s01 := sam_01 (dkT fl st (LV op arg s N) n P 3) (fun b => st (2 + b)) 12
    generalize samS (dkT fl st (LV op arg s N) n P 3) (fun b => st (2 + b)) 12 = sv at *
    rcases s01 with rfl | rfl <;> simp -implicitDefEqProofs (disch := omega) [fX0_fall, bX0_fall, kX0_fall_0, v_cop, v_c1, v_c2, v_c3, v_c4, v_c5, v_bin, v_bn, v_bn2, v_div, v_dv, v_dv2, v_une, v_un, v_loc, v_num, v_get, v_gt, v_ald, v_al, v_al2, v_len, v_ln, v_rl0, v_rl1, v_rl2, v_rl3, v_rl4, v_rl5, v_cmp, v_cp, v_cp2, v_zC, v_zc, v_con, v_kc, v_and, v_an1, v_an0, v_or, v_or1, v_or0, v_not, v_nt, v_boo, v_bo, v_cnd, v_cd1, v_cd0, v_cnc, v_cc1, v_cc0, v_ev0, v_ev, v_e1, v_e2, v_cve, v_cv, v_cse, v_cs, v_skip, v_seq, v_sq0, v_sq1, v_sqr, v_sts, v_st, v_inc, v_put, v_pt, v_pt2, v_fop, v_fo, v_fo2, v_ast, v_as, v_as2, v_as3, v_aop, v_ao, v_ao2, v_ao3, v_exs, v_ex, v_ifs, v_if1, v_if0, v_ret, v_rt, v_rez, v_rz, v_rev, v_brk, v_sws, v_sw, v_sw2, v_run, v_rb, v_turn, v_tu1, v_tu0, v_tu2, v_tu3, fst1, snd1, Option.map_some, Option.getD_some, enA, en, stE, okb, narV, rf_toNat, rf_nn, List.getElem?_cons_zero, List.getElem?_cons_succ, w32_id, w64_id, ite_t, ite_f, Int.toNat_add, Int.toNat_mul, dec_t, dec_f, k0, k1, k5, sC_106, sC_108, p.p106_1, f1, f2, g0, g1, l1, e2]
  · rw [D2 _ _ (by omega) (by omega) (by omega) (by omega), D1 _ _ (by omega) (by omega) (by omega) (by omega), Dm _ _ (by omega) (by omega) (by omega), du_0]; exact l.aw
  · rw [du_1]; exact A0
  · rw [D2 _ _ (by omega) (by omega) (by omega) (by omega), du_n hb]; exact C1.1 b hb
  · rw [du_l hb]; exact A1 b hb
  · rw [du_a hb]; exact A2 b hb
  · rw [du_b hi]; exact A3 i hi
  · rw [D2 _ _ (by omega) (by omega) (by omega) h5, D1 _ _ h1 h3 h4 (by omega), Dm _ _ h1 h2 (by omega)]
