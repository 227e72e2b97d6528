/-! readPart against takePart -/
def EPd (mC mM bC bM : Mem) (c : Nat → Int) (N T d cc : Nat) (W : List Int) (t : Nat) (s : Int) (w x y : Nat) : Prop := ∀ μC μM a j D, LwS mC mM bC bM c N T d cc W t s μC μM a j D → t + j + 1 ≤ a → 0 ≤ D → D ≤ 4 * (w : Int) + 4 → LO mC mM bC bM c N T d cc W t s a j D (gGX8_readJoined x 1 shC [(2, rf 27), (0, (w : Int))] μC) (gGX12_all y 3 shM [(2, rf 0), (0, (w : Int))] μM)
def EJd (mC mM bC bM : Mem) (c : Nat → Int) (N T d cc : Nat) (W : List Int) (t : Nat) (s : Int) (l i w x y : Nat) : Prop := ∀ μC μM a j D, LwS mC mM bC bM c N T d cc W t s μC μM a j D → t + j + 1 ≤ a → 0 ≤ D → D ≤ 4 * (w : Int) + (l : Int) → LO mC mM bC bM c N T d cc W t s a j D (gGX8_readJoined x 0 shC [(2, rf 27), (0, (l : Int)), (0, (w : Int))] μC) (gGX12_all y i shM [(2, rf 0), (0, (w : Int))] μM)
set_option maxRecDepth 100000 in theorem LwS.pass {mC mM bC bM μC μM : Mem} {c : Nat → Int} {N T d cc t a j : Nat} {W : List Int} {s D x : Int} (h : LwS mC mM bC bM c N T d cc W t s μC μM a j D) (tx : tkA c N a = x) (hx : x ≠ 26) : ∃ μC', fX8_passed shC [(2, rf 27), (0, x)] μC = some (1, μC') ∧ LwS mC mM bC bM c N T d cc W t s μC' (ud μM 0 7 ((a : Int) + 1)) (a + 1) j D := by
  obtain ⟨p, w, q4, q18, L, fC, fM⟩ := h
  have hc := w.c
  have hd := p.rq.1
  obtain ⟨m, e, p', E⟩ := p.pass tx hx
  refine ⟨m, e, p', w, by rw [E _ _ (by omega)]; exact q4, by rw [ud_n (by omega)]; exact q18, L.of (E _ _ (by omega)) (fun i hi => E _ _ (by omega)) (fun i hi => ?_) (fun i hi => ?_), fun x y hx => ?_, fun x y hx => ?_⟩
  · show ud μM 0 7 ((a : Int) + 1) 7 (1100 + (t + i)) = μM 7 (1100 + (t + i))
    rw [ud_n (by omega)]
  · show ud μM 0 7 ((a : Int) + 1) 8 (1100 + (t + i)) = μM 8 (1100 + (t + i))
    rw [ud_n (by omega)]
  · rw [E _ _ (by omega)]; exact fC x y hx
  · rw [ud_n (by omega)]; exact fM x y hx
set_option maxRecDepth 100000 in theorem LwS.addT {mC mM bC bM μC μM : Mem} {c : Nat → Int} {N T d cc t a j : Nat} {W : List Int} {s D : Int} (h : LwS mC mM bC bM c N T d cc W t s μC μM a j D) (hj : t + j + 1 ≤ a) {v : Int} {k : Nat} (hv : v = (k : Int)) (hk : k < 1000) : fX4_addToken shC [(2, rf cc), (0, v)] μC = some (0, ud (ud μC (cc + 1) j (-1 - v)) cc 2 ((j + 1 : Nat) : Int)) := by
  subst hv
  have la := h.1.la
  exact f_addToken h.cc.1 h.cc.2 (by omega) hk
set_option maxRecDepth 100000 in theorem LwS.addN {mC mM bC bM μC μM : Mem} {c : Nat → Int} {N T d cc t a j : Nat} {W : List Int} {s D : Int} (h : LwS mC mM bC bM c N T d cc W t s μC μM a j D) (hj : t + j + 1 ≤ a) (v : Int) : fX4_addNumber shC [(2, rf cc), (0, v)] μC = some (0, ud (ud μC (cc + 1) j v) cc 2 ((j + 1 : Nat) : Int)) := by
  have la := h.1.la
  exact f_addNumber h.cc.1 h.cc.2 (by omega)
set_option maxRecDepth 100000 in theorem part_q {mC mM bC bM μC μM : Mem} {c : Nat → Int} {N T d cc t a j : Nat} {W : List Int} {s D : Int} (h : LwS mC mM bC bM c N T d cc W t s μC μM a j D) : ∃ r z : Int, fX12_factHere shM [(2, rf 0)] μM = some (r, μM) ∧ μM 2 a = z ∧ ((r = -1 ∧ inW W (tkA c N a) = false) ∨ (∃ k : Nat, k < W.length ∧ r = (k : Int) ∧ tkA c N a = W.getD k 0)) ∧ (z = 2 ↔ tkA c N a = 25) := by
  obtain ⟨r, e, hr⟩ := r_fact h.1.mq h.1.f0 h.2.2.2.1 h.2.1
  refine ⟨r, μM 2 a, e, rfl, hr, ?_⟩
  rcases h.1.mq.tok with ⟨g1, -, g3, g4, g5, g6, -⟩ | ⟨g1, g2, g3, g4, -⟩ | ⟨g1, g2, g3, g4⟩ | ⟨g1, g2, g3⟩ | ⟨g1, g2, g3⟩
  · omega
  · omega
  · have := sg_r g4; omega
  · omega
  · omega
set_option maxRecDepth 100000 in theorem gJ1 (x : Nat) : gGX8_readJoined (x + 1) 1 = runB 4 (bX8_readPart (gGX8_readJoined x)) := rfl
set_option maxRecDepth 100000 in theorem gJ0 (x : Nat) : gGX8_readJoined (x + 1) 0 = runB 6 (bX8_readJoined (gGX8_readJoined x)) := rfl
set_option maxRecDepth 100000 in theorem gA0 (x : Nat) : gGX12_all (x + 1) 0 = runB 3 (bX12_all (gGX12_all x)) := rfl
set_option maxRecDepth 100000 in theorem gA1 (x : Nat) : gGX12_all (x + 1) 1 = runB 2 (bX12_products (gGX12_all x)) := rfl
set_option maxRecDepth 100000 in theorem gA2 (x : Nat) : gGX12_all (x + 1) 2 = runB 3 (bX12_sums (gGX12_all x)) := rfl
set_option maxRecDepth 100000 in theorem gA3 (x : Nat) : gGX12_all (x + 1) 3 = runB 4 (bX12_takePart (gGX12_all x)) := rfl
set_option maxRecDepth 100000 in theorem gA4 (x : Nat) : gGX12_all (x + 1) 4 = runB 3 (bX12_test (gGX12_all x)) := rfl
set_option maxRecDepth 100000 in theorem b_partF {mC mM bC bM μC μM : Mem} {c : Nat → Int} {N T d cc t a j w x y : Nat} {W : List Int} {s D : Int} (h : LwS mC mM bC bM c N T d cc W t s μC μM a j D) (hw : w ≤ 5) (bad : (¬ inW W (tkA c N a) = true ∧ tkA c N a ≠ 25 ∧ tkA c N a ≠ 15 ∧ tkA c N a ≠ 40) ∨ w = 5) : LO mC mM bC bM c N T d cc W t s a j D (gGX8_readJoined (x + 1) 1 shC [(2, rf 27), (0, (w : Int))] μC) (gGX12_all (y + 1) 3 shM [(2, rf 0), (0, (w : Int))] μM) := by
  have p := h.1
  have pm := p.mq.1
  have a7 := p.a7
  have f0 := p.f0
  have la := p.mq.pl.2.2
  have t2 := p.rq.t2
  have r0 := p.rq.2.2.2.1
  obtain ⟨r, z, ef, ez, hr, hz⟩ := part_q h
  have cf := c_fact p.rq h.2.1 h.2.2.1 (tkA c N a)
  have e40 := r_isSig (x := 40) p.mq p.f0 (by decide)
  have e15 := r_isWord (w := 15) p.mq p.f0 (by decide)
  rw [show ((15 : Nat) : Int) = 15 from rfl] at e15
  rw [gJ1, gA3]
  by_cases ok : inW W (tkA c N a) = true ∨ tkA c N a = 25 ∨ tkA c N a = 15 ∨ tkA c N a = 40
  · have w5 : w = 5 := by
      rcases bad with ⟨b1, b2, b3, b4⟩ | b
      · exfalso
        rcases ok with o | o | o | o
        · exact b1 o
        · exact b2 o
        · exact b3 o
        · exact b4 o
      · exact b
    subst w5
    have ew := c_wrong p.rq (k := 5) (by decide) (by decide)
    have er := r_wrong p.mq p.f0 (k := 5) (by decide) (by decide)
    have fp := ft_pos (c := c) (N := N) (a := a) (k := 5) (by decide)
    have q8 : ud μM 0 8 (ftA c N a 5) 0 8 = ftA c N a 5 := ud_s
    refine .inr ⟨_, _, ?_, ?_, h.fx (k := 5) (by decide)⟩
    · clear er q8 fp
      generalize ud μC 27 5 (ftA c N a 5) = m1 at *
      by_cases o1 : inW W (tkA c N a) = true
      · rw [if_pos o1] at cf
        generalize tkA c N a = V at *
        simp -implicitDefEqProofs (disch := omega) [bX8_readPart, v_cop, v_c1, v_c2, v_c3, v_c4, v_c5, v_bin, v_bn, v_bn2, v_div, v_dv, v_dv2, v_une, v_un, v_loc, v_num, v_get, v_gt, v_ald, v_al, v_al2, v_len, v_ln, v_rl0, v_rl1, v_rl2, v_rl3, v_rl4, v_rl5, v_cmp, v_cp, v_cp2, v_zC, v_zc, v_con, v_kc, v_and, v_an1, v_an0, v_or, v_or1, v_or0, v_not, v_nt, v_boo, v_bo, v_cnd, v_cd1, v_cd0, v_cnc, v_cc1, v_cc0, v_ev0, v_ev, v_e1, v_e2, v_cve, v_cv, v_cse, v_cs, v_skip, v_seq, v_sq0, v_sq1, v_sqr, v_sts, v_st, v_inc, v_put, v_pt, v_pt2, v_fop, v_fo, v_fo2, v_ast, v_as, v_as2, v_as3, v_aop, v_ao, v_ao2, v_ao3, v_exs, v_ex, v_ifs, v_if1, v_if0, v_ret, v_rt, v_rez, v_rz, v_rev, v_brk, v_sws, v_sw, v_sw2, v_run, v_rb, v_turn, v_tu1, v_tu0, v_tu2, v_tu3, fst1, snd1, Option.map_some, Option.getD_some, enA, en, stE, okb, narV, rf_toNat, rf_nn, List.getElem?_cons_zero, List.getElem?_cons_succ, w32_id, w64_id, ite_t, ite_f, Int.toNat_add, Int.toNat_mul, dec_t, dec_f, sC_27, sC_1, r0, t2, cf, ew]
      · rw [if_neg o1] at cf
        rcases ok.resolve_left o1 with o | o | o
        · rw [o] at t2 cf
          simp -implicitDefEqProofs (disch := omega) [bX8_readPart, v_cop, v_c1, v_c2, v_c3, v_c4, v_c5, v_bin, v_bn, v_bn2, v_div, v_dv, v_dv2, v_une, v_un, v_loc, v_num, v_get, v_gt, v_ald, v_al, v_al2, v_len, v_ln, v_rl0, v_rl1, v_rl2, v_rl3, v_rl4, v_rl5, v_cmp, v_cp, v_cp2, v_zC, v_zc, v_con, v_kc, v_and, v_an1, v_an0, v_or, v_or1, v_or0, v_not, v_nt, v_boo, v_bo, v_cnd, v_cd1, v_cd0, v_cnc, v_cc1, v_cc0, v_ev0, v_ev, v_e1, v_e2, v_cve, v_cv, v_cse, v_cs, v_skip, v_seq, v_sq0, v_sq1, v_sqr, v_sts, v_st, v_inc, v_put, v_pt, v_pt2, v_fop, v_fo, v_fo2, v_ast, v_as, v_as2, v_as3, v_aop, v_ao, v_ao2, v_ao3, v_exs, v_ex, v_ifs, v_if1, v_if0, v_ret, v_rt, v_rez, v_rz, v_rev, v_brk, v_sws, v_sw, v_sw2, v_run, v_rb, v_turn, v_tu1, v_tu0, v_tu2, v_tu3, fst1, snd1, Option.map_some, Option.getD_some, enA, en, stE, okb, narV, rf_toNat, rf_nn, List.getElem?_cons_zero, List.getElem?_cons_succ, w32_id, w64_id, ite_t, ite_f, Int.toNat_add, Int.toNat_mul, dec_t, dec_f, sC_27, sC_1, r0, t2, cf, ew]
        · rw [o] at t2 cf
          simp -implicitDefEqProofs (disch := omega) [bX8_readPart, v_cop, v_c1, v_c2, v_c3, v_c4, v_c5, v_bin, v_bn, v_bn2, v_div, v_dv, v_dv2, v_une, v_un, v_loc, v_num, v_get, v_gt, v_ald, v_al, v_al2, v_len, v_ln, v_rl0, v_rl1, v_rl2, v_rl3, v_rl4, v_rl5, v_cmp, v_cp, v_cp2, v_zC, v_zc, v_con, v_kc, v_and, v_an1, v_an0, v_or, v_or1, v_or0, v_not, v_nt, v_boo, v_bo, v_cnd, v_cd1, v_cd0, v_cnc, v_cc1, v_cc0, v_ev0, v_ev, v_e1, v_e2, v_cve, v_cv, v_cse, v_cs, v_skip, v_seq, v_sq0, v_sq1, v_sqr, v_sts, v_st, v_inc, v_put, v_pt, v_pt2, v_fop, v_fo, v_fo2, v_ast, v_as, v_as2, v_as3, v_aop, v_ao, v_ao2, v_ao3, v_exs, v_ex, v_ifs, v_if1, v_if0, v_ret, v_rt, v_rez, v_rz, v_rev, v_brk, v_sws, v_sw, v_sw2, v_run, v_rb, v_turn, v_tu1, v_tu0, v_tu2, v_tu3, fst1, snd1, Option.map_some, Option.getD_some, enA, en, stE, okb, narV, rf_toNat, rf_nn, List.getElem?_cons_zero, List.getElem?_cons_succ, w32_id, w64_id, ite_t, ite_f, Int.toNat_add, Int.toNat_mul, dec_t, dec_f, sC_27, sC_1, r0, t2, cf, ew]
        · rw [o] at t2 cf
          simp -implicitDefEqProofs (disch := omega) [bX8_readPart, v_cop, v_c1, v_c2, v_c3, v_c4, v_c5, v_bin, v_bn, v_bn2, v_div, v_dv, v_dv2, v_une, v_un, v_loc, v_num, v_get, v_gt, v_ald, v_al, v_al2, v_len, v_ln, v_rl0, v_rl1, v_rl2, v_rl3, v_rl4, v_rl5, v_cmp, v_cp, v_cp2, v_zC, v_zc, v_con, v_kc, v_and, v_an1, v_an0, v_or, v_or1, v_or0, v_not, v_nt, v_boo, v_bo, v_cnd, v_cd1, v_cd0, v_cnc, v_cc1, v_cc0, v_ev0, v_ev, v_e1, v_e2, v_cve, v_cv, v_cse, v_cs, v_skip, v_seq, v_sq0, v_sq1, v_sqr, v_sts, v_st, v_inc, v_put, v_pt, v_pt2, v_fop, v_fo, v_fo2, v_ast, v_as, v_as2, v_as3, v_aop, v_ao, v_ao2, v_ao3, v_exs, v_ex, v_ifs, v_if1, v_if0, v_ret, v_rt, v_rez, v_rz, v_rev, v_brk, v_sws, v_sw, v_sw2, v_run, v_rb, v_turn, v_tu1, v_tu0, v_tu2, v_tu3, fst1, snd1, Option.map_some, Option.getD_some, enA, en, stE, okb, narV, rf_toNat, rf_nn, List.getElem?_cons_zero, List.getElem?_cons_succ, w32_id, w64_id, ite_t, ite_f, Int.toNat_add, Int.toNat_mul, dec_t, dec_f, sC_27, sC_1, r0, t2, cf, ew]
    · clear ew t2 cf
      generalize ud μM 0 8 (ftA c N a 5) = k1 at *
      generalize ftA c N a 5 = F at *
      by_cases zz : z = 2
      · have z2 : tkA c N a = 25 := hz.mp zz
        have rn : r = -1 := by
          rcases hr with ⟨h1, -⟩ | ⟨k, h1, h2, h3⟩
          · exact h1
          · have := inW_r h.2.1 (inW_k.mpr ⟨k, h1, h3⟩)
            omega
        subst rn
        subst zz
        simp -implicitDefEqProofs (disch := omega) [bX12_takePart, v_cop, v_c1, v_c2, v_c3, v_c4, v_c5, v_bin, v_bn, v_bn2, v_div, v_dv, v_dv2, v_une, v_un, v_loc, v_num, v_get, v_gt, v_ald, v_al, v_al2, v_len, v_ln, v_rl0, v_rl1, v_rl2, v_rl3, v_rl4, v_rl5, v_cmp, v_cp, v_cp2, v_zC, v_zc, v_con, v_kc, v_and, v_an1, v_an0, v_or, v_or1, v_or0, v_not, v_nt, v_boo, v_bo, v_cnd, v_cd1, v_cd0, v_cnc, v_cc1, v_cc0, v_ev0, v_ev, v_e1, v_e2, v_cve, v_cv, v_cse, v_cs, v_skip, v_seq, v_sq0, v_sq1, v_sqr, v_sts, v_st, v_inc, v_put, v_pt, v_pt2, v_fop, v_fo, v_fo2, v_ast, v_as, v_as2, v_as3, v_aop, v_ao, v_ao2, v_ao3, v_exs, v_ex, v_ifs, v_if1, v_if0, v_ret, v_rt, v_rez, v_rz, v_rev, v_brk, v_sws, v_sw, v_sw2, v_run, v_rb, v_turn, v_tu1, v_tu0, v_tu2, v_tu3, fst1, snd1, Option.map_some, Option.getD_some, enA, en, stE, okb, narV, rf_toNat, rf_nn, List.getElem?_cons_zero, List.getElem?_cons_succ, w32_id, w64_id, ite_t, ite_f, Int.toNat_add, Int.toNat_mul, dec_t, dec_f, sM_0, sM_2, f0, pm.p4, a7, ez, ef, er, q8]
      · rcases hr with ⟨h1, h2⟩ | ⟨k, h1, h2, h3⟩
        · subst h1
          by_cases o40 : tkA c N a = 40
          · rw [if_pos ⟨rfl, o40⟩] at e40
            simp -implicitDefEqProofs (disch := omega) [bX12_takePart, v_cop, v_c1, v_c2, v_c3, v_c4, v_c5, v_bin, v_bn, v_bn2, v_div, v_dv, v_dv2, v_une, v_un, v_loc, v_num, v_get, v_gt, v_ald, v_al, v_al2, v_len, v_ln, v_rl0, v_rl1, v_rl2, v_rl3, v_rl4, v_rl5, v_cmp, v_cp, v_cp2, v_zC, v_zc, v_con, v_kc, v_and, v_an1, v_an0, v_or, v_or1, v_or0, v_not, v_nt, v_boo, v_bo, v_cnd, v_cd1, v_cd0, v_cnc, v_cc1, v_cc0, v_ev0, v_ev, v_e1, v_e2, v_cve, v_cv, v_cse, v_cs, v_skip, v_seq, v_sq0, v_sq1, v_sqr, v_sts, v_st, v_inc, v_put, v_pt, v_pt2, v_fop, v_fo, v_fo2, v_ast, v_as, v_as2, v_as3, v_aop, v_ao, v_ao2, v_ao3, v_exs, v_ex, v_ifs, v_if1, v_if0, v_ret, v_rt, v_rez, v_rz, v_rev, v_brk, v_sws, v_sw, v_sw2, v_run, v_rb, v_turn, v_tu1, v_tu0, v_tu2, v_tu3, fst1, snd1, Option.map_some, Option.getD_some, enA, en, stE, okb, narV, rf_toNat, rf_nn, List.getElem?_cons_zero, List.getElem?_cons_succ, w32_id, w64_id, ite_t, ite_f, Int.toNat_add, Int.toNat_mul, dec_t, dec_f, sM_0, sM_2, f0, pm.p4, a7, ez, zz, ef, e40, er, q8]
          · rw [if_neg (fun q => o40 q.2)] at e40
            have o15 : tkA c N a = 15 := by
              rcases ok with o | o | o | o
              · rw [h2] at o; cases o
              · exact absurd (hz.mpr o) zz
              · exact o
              · exact absurd o o40
            rw [if_pos ⟨rfl, o15⟩] at e15
            simp -implicitDefEqProofs (disch := omega) [bX12_takePart, v_cop, v_c1, v_c2, v_c3, v_c4, v_c5, v_bin, v_bn, v_bn2, v_div, v_dv, v_dv2, v_une, v_un, v_loc, v_num, v_get, v_gt, v_ald, v_al, v_al2, v_len, v_ln, v_rl0, v_rl1, v_rl2, v_rl3, v_rl4, v_rl5, v_cmp, v_cp, v_cp2, v_zC, v_zc, v_con, v_kc, v_and, v_an1, v_an0, v_or, v_or1, v_or0, v_not, v_nt, v_boo, v_bo, v_cnd, v_cd1, v_cd0, v_cnc, v_cc1, v_cc0, v_ev0, v_ev, v_e1, v_e2, v_cve, v_cv, v_cse, v_cs, v_skip, v_seq, v_sq0, v_sq1, v_sqr, v_sts, v_st, v_inc, v_put, v_pt, v_pt2, v_fop, v_fo, v_fo2, v_ast, v_as, v_as2, v_as3, v_aop, v_ao, v_ao2, v_ao3, v_exs, v_ex, v_ifs, v_if1, v_if0, v_ret, v_rt, v_rez, v_rz, v_rev, v_brk, v_sws, v_sw, v_sw2, v_run, v_rb, v_turn, v_tu1, v_tu0, v_tu2, v_tu3, fst1, snd1, Option.map_some, Option.getD_some, enA, en, stE, okb, narV, rf_toNat, rf_nn, List.getElem?_cons_zero, List.getElem?_cons_succ, w32_id, w64_id, ite_t, ite_f, Int.toNat_add, Int.toNat_mul, dec_t, dec_f, sM_0, sM_2, f0, pm.p4, a7, ez, zz, ef, e40, e15, er, q8]
        · subst h2
          simp -implicitDefEqProofs (disch := omega) [bX12_takePart, v_cop, v_c1, v_c2, v_c3, v_c4, v_c5, v_bin, v_bn, v_bn2, v_div, v_dv, v_dv2, v_une, v_un, v_loc, v_num, v_get, v_gt, v_ald, v_al, v_al2, v_len, v_ln, v_rl0, v_rl1, v_rl2, v_rl3, v_rl4, v_rl5, v_cmp, v_cp, v_cp2, v_zC, v_zc, v_con, v_kc, v_and, v_an1, v_an0, v_or, v_or1, v_or0, v_not, v_nt, v_boo, v_bo, v_cnd, v_cd1, v_cd0, v_cnc, v_cc1, v_cc0, v_ev0, v_ev, v_e1, v_e2, v_cve, v_cv, v_cse, v_cs, v_skip, v_seq, v_sq0, v_sq1, v_sqr, v_sts, v_st, v_inc, v_put, v_pt, v_pt2, v_fop, v_fo, v_fo2, v_ast, v_as, v_as2, v_as3, v_aop, v_ao, v_ao2, v_ao3, v_exs, v_ex, v_ifs, v_if1, v_if0, v_ret, v_rt, v_rez, v_rz, v_rev, v_brk, v_sws, v_sw, v_sw2, v_run, v_rb, v_turn, v_tu1, v_tu0, v_tu2, v_tu3, fst1, snd1, Option.map_some, Option.getD_some, enA, en, stE, okb, narV, rf_toNat, rf_nn, List.getElem?_cons_zero, List.getElem?_cons_succ, w32_id, w64_id, ite_t, ite_f, Int.toNat_add, Int.toNat_mul, dec_t, dec_f, sM_0, sM_2, f0, pm.p4, a7, ez, zz, ef, er, q8]
  · have o1 : ¬ inW W (tkA c N a) = true := fun z => ok (.inl z)
    have o2 : ¬ tkA c N a = 25 := fun z => ok (.inr (.inl z))
    have o3 : ¬ tkA c N a = 15 := fun z => ok (.inr (.inr (.inl z)))
    have o4 : ¬ tkA c N a = 40 := fun z => ok (.inr (.inr (.inr z)))
    have ew := c_wrong p.rq (k := 1) (by decide) (by decide)
    have er := r_wrong p.mq p.f0 (k := 1) (by decide) (by decide)
    have fp := ft_pos (c := c) (N := N) (a := a) (k := 1) (by decide)
    have q8 : ud μM 0 8 (ftA c N a 1) 0 8 = ftA c N a 1 := ud_s
    have rn : r = -1 := by
      rcases hr with ⟨h1, -⟩ | ⟨k, h1, h2, h3⟩
      · exact h1
      · exact absurd (inW_k.mpr ⟨k, h1, h3⟩) o1
    have zz : ¬ z = 2 := fun q => o2 (hz.mp q)
    rw [if_neg o1] at cf
    rw [if_neg (fun q => o4 q.2)] at e40
    rw [if_neg (fun q => o3 q.2)] at e15
    refine .inr ⟨_, _, ?_, ?_, h.fx (k := 1) (by decide)⟩
    · clear er q8 fp
      generalize ud μC 27 5 (ftA c N a 1) = m1 at *
      generalize tkA c N a = V at *
      simp -implicitDefEqProofs (disch := omega) [bX8_readPart, v_cop, v_c1, v_c2, v_c3, v_c4, v_c5, v_bin, v_bn, v_bn2, v_div, v_dv, v_dv2, v_une, v_un, v_loc, v_num, v_get, v_gt, v_ald, v_al, v_al2, v_len, v_ln, v_rl0, v_rl1, v_rl2, v_rl3, v_rl4, v_rl5, v_cmp, v_cp, v_cp2, v_zC, v_zc, v_con, v_kc, v_and, v_an1, v_an0, v_or, v_or1, v_or0, v_not, v_nt, v_boo, v_bo, v_cnd, v_cd1, v_cd0, v_cnc, v_cc1, v_cc0, v_ev0, v_ev, v_e1, v_e2, v_cve, v_cv, v_cse, v_cs, v_skip, v_seq, v_sq0, v_sq1, v_sqr, v_sts, v_st, v_inc, v_put, v_pt, v_pt2, v_fop, v_fo, v_fo2, v_ast, v_as, v_as2, v_as3, v_aop, v_ao, v_ao2, v_ao3, v_exs, v_ex, v_ifs, v_if1, v_if0, v_ret, v_rt, v_rez, v_rz, v_rev, v_brk, v_sws, v_sw, v_sw2, v_run, v_rb, v_turn, v_tu1, v_tu0, v_tu2, v_tu3, fst1, snd1, Option.map_some, Option.getD_some, enA, en, stE, okb, narV, rf_toNat, rf_nn, List.getElem?_cons_zero, List.getElem?_cons_succ, w32_id, w64_id, ite_t, ite_f, Int.toNat_add, Int.toNat_mul, dec_t, dec_f, sC_27, sC_1, r0, t2, cf, o2, o3, o4, ew]
    · subst rn
      generalize ud μM 0 8 (ftA c N a 1) = k1 at *
      generalize ftA c N a 1 = F at *
      simp -implicitDefEqProofs (disch := omega) [bX12_takePart, v_cop, v_c1, v_c2, v_c3, v_c4, v_c5, v_bin, v_bn, v_bn2, v_div, v_dv, v_dv2, v_une, v_un, v_loc, v_num, v_get, v_gt, v_ald, v_al, v_al2, v_len, v_ln, v_rl0, v_rl1, v_rl2, v_rl3, v_rl4, v_rl5, v_cmp, v_cp, v_cp2, v_zC, v_zc, v_con, v_kc, v_and, v_an1, v_an0, v_or, v_or1, v_or0, v_not, v_nt, v_boo, v_bo, v_cnd, v_cd1, v_cd0, v_cnc, v_cc1, v_cc0, v_ev0, v_ev, v_e1, v_e2, v_cve, v_cv, v_cse, v_cs, v_skip, v_seq, v_sq0, v_sq1, v_sqr, v_sts, v_st, v_inc, v_put, v_pt, v_pt2, v_fop, v_fo, v_fo2, v_ast, v_as, v_as2, v_as3, v_aop, v_ao, v_ao2, v_ao3, v_exs, v_ex, v_ifs, v_if1, v_if0, v_ret, v_rt, v_rez, v_rz, v_rev, v_brk, v_sws, v_sw, v_sw2, v_run, v_rb, v_turn, v_tu1, v_tu0, v_tu2, v_tu3, fst1, snd1, Option.map_some, Option.getD_some, enA, en, stE, okb, narV, rf_toNat, rf_nn, List.getElem?_cons_zero, List.getElem?_cons_succ, w32_id, w64_id, ite_t, ite_f, Int.toNat_add, Int.toNat_mul, dec_t, dec_f, sM_0, sM_2, f0, pm.p4, a7, ez, zz, ef, e40, e15, er, q8]
set_option maxRecDepth 100000 in theorem b_part5 {mC mM bC bM : Mem} {c : Nat → Int} {N T d cc t : Nat} {W : List Int} {s : Int} (x y : Nat) : EPd mC mM bC bM c N T d cc W t s 5 (x + 1) (y + 1) := fun _ _ _ _ _ h _ _ _ => b_partF h (Nat.le_refl _) (.inr rfl)
set_option maxRecDepth 100000 in theorem b_part {mC mM bC bM : Mem} {c : Nat → Int} {N T d cc t w x y : Nat} {W : List Int} {s : Int} (w5 : w < 5) (ihP : EPd mC mM bC bM c N T d cc W t s (w + 1) x y) (ihJ : EJd mC mM bC bM c N T d cc W t s 0 0 (w + 1) x y) : EPd mC mM bC bM c N T d cc W t s w (x + 1) (y + 1) := by
  intro μC μM a j D h hj D0 D1
  by_cases ok : inW W (tkA c N a) = true ∨ tkA c N a = 25 ∨ tkA c N a = 15 ∨ tkA c N a = 40
  · have p := h.1
    have pm := p.mq.1
    have a7 := p.a7
    have f0 := p.f0
    have la := p.mq.pl.2.2
    have t2 := p.rq.t2
    have r0 := p.rq.2.2.2.1
    have q4 := h.2.2.1
    have hc := h.2.1.c
    have hd := p.rq.1
    obtain ⟨r, z, ef, ez, hr, hz⟩ := part_q h
    have cf := c_fact p.rq h.2.1 h.2.2.1 (tkA c N a)
    have e40 := r_isSig (x := 40) p.mq p.f0 (by decide)
    have e15 := r_isWord (w := 15) p.mq p.f0 (by decide)
    have h15 := r_hasWord (w := 15) p.mq p.f0 (by decide)
    have h40 := r_hasSign (x := 40) p.mq p.f0 (by decide)
    rw [show ((15 : Nat) : Int) = 15 from rfl] at e15 h15
    have w5' : ¬ (w : Int) = 5 := by omega
    have ew1 : ((w + 1 : Nat) : Int) = (w : Int) + 1 := by omega
    rw [gJ1, gA3]
    by_cases o1 : inW W (tkA c N a) = true
    · -- a fact
      have rg := inW_r h.2.1 o1
      have aT := p.lt (by omega)
      rw [if_pos o1] at cf
      rcases hr with ⟨-, h2⟩ | ⟨k, k1, k2, k3⟩
      · rw [h2] at o1; cases o1
      · have ad := h.addT hj (v := tkA c N a) (k := (tkA c N a).toNat) (by omega) (by omega)
        obtain ⟨em, h1⟩ := h.emit (o := 2) (v := (k : Int)) hj ⟨by decide, by decide, fun q => absurd q (by decide), fun _ => ⟨by omega, by omega⟩⟩ ⟨D0, fun _ => by omega, fun q => absurd q (by decide), fun q => absurd (.inr rfl) q⟩
        have en1 : enI W 2 (k : Int) = -1 - tkA c N a := by
          unfold enI
          rw [if_neg (by decide), if_pos rfl, Int.toNat_natCast, ← k3]
        rw [en1] at h1
        obtain ⟨m1, e1, h2⟩ := h1.adv aT
        have zz : ¬ z = 2 := fun q => by have := hz.mp q; omega
        have n15 : ¬ tkA c N a = 15 := rg.2.2
        have n40 : ¬ tkA c N a = 40 := by omega
        rw [if_neg (fun q => n15 q.2), if_neg (fun q => n15 q.2)] at h15
        rw [if_neg (fun q => n40 q.2), if_neg (fun q => n40 q.2)] at h40
        have u0 : ud (ud μC (cc + 1) j (-1 - tkA c N a)) cc 2 ((j + 1 : Nat) : Int) 27 0 = rf 1 := by rw [ud_n (by omega), ud_n (by omega)]; exact r0
        have u7 : emM μM (t + j) 2 (k : Int) 0 7 = (a : Int) := h1.1.a7
        refine .inl ⟨a + 1, j + 1, m1, ud (emM μM (t + j) 2 (k : Int)) 0 7 ((a : Int) + 1), ?_, ?_, h2, by omega, by omega⟩
        · clear h1 h2 em h15 h40 ef
          have oc : fst1 shC cc = some 4 := fst1_of h.cc.1.1
          generalize ud (ud μC (cc + 1) j (-1 - tkA c N a)) cc 2 ((j + 1 : Nat) : Int) = m0 at *
          generalize tkA c N a = V at *
          have n25 : ¬ V = 25 := by omega
          simp -implicitDefEqProofs (disch := omega) [bX8_readPart, v_cop, v_c1, v_c2, v_c3, v_c4, v_c5, v_bin, v_bn, v_bn2, v_div, v_dv, v_dv2, v_une, v_un, v_loc, v_num, v_get, v_gt, v_ald, v_al, v_al2, v_len, v_ln, v_rl0, v_rl1, v_rl2, v_rl3, v_rl4, v_rl5, v_cmp, v_cp, v_cp2, v_zC, v_zc, v_con, v_kc, v_and, v_an1, v_an0, v_or, v_or1, v_or0, v_not, v_nt, v_boo, v_bo, v_cnd, v_cd1, v_cd0, v_cnc, v_cc1, v_cc0, v_ev0, v_ev, v_e1, v_e2, v_cve, v_cv, v_cse, v_cs, v_skip, v_seq, v_sq0, v_sq1, v_sqr, v_sts, v_st, v_inc, v_put, v_pt, v_pt2, v_fop, v_fo, v_fo2, v_ast, v_as, v_as2, v_as3, v_aop, v_ao, v_ao2, v_ao3, v_exs, v_ex, v_ifs, v_if1, v_if0, v_ret, v_rt, v_rez, v_rz, v_rev, v_brk, v_sws, v_sw, v_sw2, v_run, v_rb, v_turn, v_tu1, v_tu0, v_tu2, v_tu3, fst1, snd1, Option.map_some, Option.getD_some, enA, en, stE, okb, narV, rf_toNat, rf_nn, List.getElem?_cons_zero, List.getElem?_cons_succ, w32_id, w64_id, ite_t, ite_f, Int.toNat_add, Int.toNat_mul, dec_t, dec_f, sC_27, sC_1, h.cc.1.1, r0, t2, cf, q4, ad, u0, e1, n15, n40]
        · clear ad e1 u0 h1 h2
          subst k2
          generalize emM μM (t + j) 2 (k : Int) = k1' at *
          simp -implicitDefEqProofs (disch := omega) [bX12_takePart, v_cop, v_c1, v_c2, v_c3, v_c4, v_c5, v_bin, v_bn, v_bn2, v_div, v_dv, v_dv2, v_une, v_un, v_loc, v_num, v_get, v_gt, v_ald, v_al, v_al2, v_len, v_ln, v_rl0, v_rl1, v_rl2, v_rl3, v_rl4, v_rl5, v_cmp, v_cp, v_cp2, v_zC, v_zc, v_con, v_kc, v_and, v_an1, v_an0, v_or, v_or1, v_or0, v_not, v_nt, v_boo, v_bo, v_cnd, v_cd1, v_cd0, v_cnc, v_cc1, v_cc0, v_ev0, v_ev, v_e1, v_e2, v_cve, v_cv, v_cse, v_cs, v_skip, v_seq, v_sq0, v_sq1, v_sqr, v_sts, v_st, v_inc, v_put, v_pt, v_pt2, v_fop, v_fo, v_fo2, v_ast, v_as, v_as2, v_as3, v_aop, v_ao, v_ao2, v_ao3, v_exs, v_ex, v_ifs, v_if1, v_if0, v_ret, v_rt, v_rez, v_rz, v_rev, v_brk, v_sws, v_sw, v_sw2, v_run, v_rb, v_turn, v_tu1, v_tu0, v_tu2, v_tu3, fst1, snd1, Option.map_some, Option.getD_some, enA, en, stE, okb, narV, rf_toNat, rf_nn, List.getElem?_cons_zero, List.getElem?_cons_succ, w32_id, w64_id, ite_t, ite_f, Int.toNat_add, Int.toNat_mul, dec_t, dec_f, sM_0, sM_2, f0, pm.p4, a7, ez, zz, ef, w5', h15, h40, em, u7]
    · rw [if_neg o1] at cf
      have rn : r = -1 := by
        rcases hr with ⟨h1, -⟩ | ⟨k, h1, h2, h3⟩
        · exact h1
        · exact absurd (inW_k.mpr ⟨k, h1, h3⟩) o1
      subst rn
      rcases ok.resolve_left o1 with o | o | o
      · -- a number
        have aT := p.lt (by omega)
        have t4 := p.rq.t4 o
        rcases p.mq.tok with ⟨g1, -, g3, g4, g5, g6, -⟩ | ⟨g1, g2, g3, g4, g5, g6⟩ | ⟨g1, g2, g3, g4⟩ | ⟨g1, g2, g3⟩ | ⟨g1, g2, g3⟩
        · omega
        · have ad := h.addN hj (vlA c N a)
          obtain ⟨em, h1⟩ := h.emit (o := 1) (v := vlA c N a) hj ⟨by decide, by decide, fun _ => ⟨g5, g6⟩, fun q => absurd q (by decide)⟩ ⟨D0, fun _ => by omega, fun q => absurd q (by decide), fun q => absurd (.inl rfl) q⟩
          have en1 : enI W 1 (vlA c N a) = vlA c N a := by
            unfold enI
            rw [if_pos rfl]
          rw [en1] at h1
          obtain ⟨m1, e1, h2⟩ := h1.adv aT
          have n15 : ¬ tkA c N a = 15 := by omega
          have n40 : ¬ tkA c N a = 40 := by omega
          rw [if_neg (fun q => n15 q.2), if_neg (fun q => n15 q.2)] at h15
          rw [if_neg (fun q => n40 q.2), if_neg (fun q => n40 q.2)] at h40
          have u0 : ud (ud μC (cc + 1) j (vlA c N a)) cc 2 ((j + 1 : Nat) : Int) 27 0 = rf 1 := by rw [ud_n (by omega), ud_n (by omega)]; exact r0
          have u7 : emM μM (t + j) 1 (vlA c N a) 0 7 = (a : Int) := h1.1.a7
          refine .inl ⟨a + 1, j + 1, m1, ud (emM μM (t + j) 1 (vlA c N a)) 0 7 ((a : Int) + 1), ?_, ?_, h2, by omega, by omega⟩
          · clear h1 h2 em h15 h40 ef
            rw [o] at t2 cf
            generalize ud (ud μC (cc + 1) j (vlA c N a)) cc 2 ((j + 1 : Nat) : Int) = m0 at *
            generalize vlA c N a = V at *
            simp -implicitDefEqProofs (disch := omega) [bX8_readPart, v_cop, v_c1, v_c2, v_c3, v_c4, v_c5, v_bin, v_bn, v_bn2, v_div, v_dv, v_dv2, v_une, v_un, v_loc, v_num, v_get, v_gt, v_ald, v_al, v_al2, v_len, v_ln, v_rl0, v_rl1, v_rl2, v_rl3, v_rl4, v_rl5, v_cmp, v_cp, v_cp2, v_zC, v_zc, v_con, v_kc, v_and, v_an1, v_an0, v_or, v_or1, v_or0, v_not, v_nt, v_boo, v_bo, v_cnd, v_cd1, v_cd0, v_cnc, v_cc1, v_cc0, v_ev0, v_ev, v_e1, v_e2, v_cve, v_cv, v_cse, v_cs, v_skip, v_seq, v_sq0, v_sq1, v_sqr, v_sts, v_st, v_inc, v_put, v_pt, v_pt2, v_fop, v_fo, v_fo2, v_ast, v_as, v_as2, v_as3, v_aop, v_ao, v_ao2, v_ao3, v_exs, v_ex, v_ifs, v_if1, v_if0, v_ret, v_rt, v_rez, v_rz, v_rev, v_brk, v_sws, v_sw, v_sw2, v_run, v_rb, v_turn, v_tu1, v_tu0, v_tu2, v_tu3, fst1, snd1, Option.map_some, Option.getD_some, enA, en, stE, okb, narV, rf_toNat, rf_nn, List.getElem?_cons_zero, List.getElem?_cons_succ, w32_id, w64_id, ite_t, ite_f, Int.toNat_add, Int.toNat_mul, dec_t, dec_f, sC_27, sC_1, h.cc.1.1, r0, t2, t4, cf, q4, ad, u0, e1]
          · clear ad e1 u0 h1 h2
            rw [g1] at ez
            generalize emM μM (t + j) 1 (vlA c N a) = k1' at *
            generalize vlA c N a = V at *
            simp -implicitDefEqProofs (disch := omega) [bX12_takePart, v_cop, v_c1, v_c2, v_c3, v_c4, v_c5, v_bin, v_bn, v_bn2, v_div, v_dv, v_dv2, v_une, v_un, v_loc, v_num, v_get, v_gt, v_ald, v_al, v_al2, v_len, v_ln, v_rl0, v_rl1, v_rl2, v_rl3, v_rl4, v_rl5, v_cmp, v_cp, v_cp2, v_zC, v_zc, v_con, v_kc, v_and, v_an1, v_an0, v_or, v_or1, v_or0, v_not, v_nt, v_boo, v_bo, v_cnd, v_cd1, v_cd0, v_cnc, v_cc1, v_cc0, v_ev0, v_ev, v_e1, v_e2, v_cve, v_cv, v_cse, v_cs, v_skip, v_seq, v_sq0, v_sq1, v_sqr, v_sts, v_st, v_inc, v_put, v_pt, v_pt2, v_fop, v_fo, v_fo2, v_ast, v_as, v_as2, v_as3, v_aop, v_ao, v_ao2, v_ao3, v_exs, v_ex, v_ifs, v_if1, v_if0, v_ret, v_rt, v_rez, v_rz, v_rev, v_brk, v_sws, v_sw, v_sw2, v_run, v_rb, v_turn, v_tu1, v_tu0, v_tu2, v_tu3, fst1, snd1, Option.map_some, Option.getD_some, enA, en, stE, okb, narV, rf_toNat, rf_nn, List.getElem?_cons_zero, List.getElem?_cons_succ, w32_id, w64_id, ite_t, ite_f, Int.toNat_add, Int.toNat_mul, dec_t, dec_f, sM_0, sM_2, sM_4, f0, pm.p4, pm.p6, a7, g1, g3, ef, w5', h15, h40, em, u7]
        · have := sg_r g4; omega
        · omega
        · omega
      · -- not
        have aT := p.lt (by omega)
        have zz : ¬ z = 2 := fun q => by have := hz.mp q; omega
        rw [if_neg (fun q => by have := q.2; omega)] at e40
        rw [if_pos ⟨rfl, o⟩] at e15
        rw [if_pos ⟨rfl, o⟩, if_pos ⟨rfl, o⟩] at h15
        obtain ⟨m1, e1, h1⟩ := h.adv aT
        have ih := ihP m1 (ud μM 0 7 ((a : Int) + 1)) (a + 1) j D h1 (by omega) D0 (by omega)
        rw [ew1] at ih
        rw [o] at t2 cf
        rcases ih with ⟨a', j', m2, k2, e2, e3, h2, l1, l2⟩ | ⟨m2, k2, e2, e3, fx⟩
        · have ad := h2.addT (by omega) (v := 15) (k := 15) rfl (by decide)
          obtain ⟨em, h3⟩ := h2.emit (o := 3) (v := 0) (by omega) ⟨by decide, by decide, fun q => absurd q (by decide), fun q => absurd q (by decide)⟩ ⟨by omega, fun q => by omega, fun _ => by omega, fun _ q => absurd rfl q⟩
          rw [if_neg (by decide), if_pos rfl, Int.add_zero] at h3
          have en1 : enI W 3 0 = -1 - 15 := by
            unfold enI tkI
            rw [if_neg (by decide), if_neg (by decide), if_pos rfl]
          rw [en1] at h3
          have q42 := h2.2.2.1
          refine .inl ⟨a', j' + 1, _, _, ?_, ?_, h3, by omega, by omega⟩
          · clear h3 em h15 ef
            generalize ud (ud m2 (cc + 1) j' (-1 - 15)) cc 2 ((j' + 1 : Nat) : Int) = m3 at *
            simp -implicitDefEqProofs (disch := omega) [bX8_readPart, v_cop, v_c1, v_c2, v_c3, v_c4, v_c5, v_bin, v_bn, v_bn2, v_div, v_dv, v_dv2, v_une, v_un, v_loc, v_num, v_get, v_gt, v_ald, v_al, v_al2, v_len, v_ln, v_rl0, v_rl1, v_rl2, v_rl3, v_rl4, v_rl5, v_cmp, v_cp, v_cp2, v_zC, v_zc, v_con, v_kc, v_and, v_an1, v_an0, v_or, v_or1, v_or0, v_not, v_nt, v_boo, v_bo, v_cnd, v_cd1, v_cd0, v_cnc, v_cc1, v_cc0, v_ev0, v_ev, v_e1, v_e2, v_cve, v_cv, v_cse, v_cs, v_skip, v_seq, v_sq0, v_sq1, v_sqr, v_sts, v_st, v_inc, v_put, v_pt, v_pt2, v_fop, v_fo, v_fo2, v_ast, v_as, v_as2, v_as3, v_aop, v_ao, v_ao2, v_ao3, v_exs, v_ex, v_ifs, v_if1, v_if0, v_ret, v_rt, v_rez, v_rz, v_rev, v_brk, v_sws, v_sw, v_sw2, v_run, v_rb, v_turn, v_tu1, v_tu0, v_tu2, v_tu3, fst1, snd1, Option.map_some, Option.getD_some, enA, en, stE, okb, narV, rf_toNat, rf_nn, List.getElem?_cons_zero, List.getElem?_cons_succ, w32_id, w64_id, ite_t, ite_f, Int.toNat_add, Int.toNat_mul, dec_t, dec_f, sC_27, sC_1, h.cc.1.1, r0, t2, cf, e1, e2, q42, ad]
          · clear ad h3
            generalize emM k2 (t + j') 3 0 = k3 at *
            generalize ud μM 0 7 ((a : Int) + 1) = k1' at *
            simp -implicitDefEqProofs (disch := omega) [bX12_takePart, v_cop, v_c1, v_c2, v_c3, v_c4, v_c5, v_bin, v_bn, v_bn2, v_div, v_dv, v_dv2, v_une, v_un, v_loc, v_num, v_get, v_gt, v_ald, v_al, v_al2, v_len, v_ln, v_rl0, v_rl1, v_rl2, v_rl3, v_rl4, v_rl5, v_cmp, v_cp, v_cp2, v_zC, v_zc, v_con, v_kc, v_and, v_an1, v_an0, v_or, v_or1, v_or0, v_not, v_nt, v_boo, v_bo, v_cnd, v_cd1, v_cd0, v_cnc, v_cc1, v_cc0, v_ev0, v_ev, v_e1, v_e2, v_cve, v_cv, v_cse, v_cs, v_skip, v_seq, v_sq0, v_sq1, v_sqr, v_sts, v_st, v_inc, v_put, v_pt, v_pt2, v_fop, v_fo, v_fo2, v_ast, v_as, v_as2, v_as3, v_aop, v_ao, v_ao2, v_ao3, v_exs, v_ex, v_ifs, v_if1, v_if0, v_ret, v_rt, v_rez, v_rz, v_rev, v_brk, v_sws, v_sw, v_sw2, v_run, v_rb, v_turn, v_tu1, v_tu0, v_tu2, v_tu3, fst1, snd1, Option.map_some, Option.getD_some, enA, en, stE, okb, narV, rf_toNat, rf_nn, List.getElem?_cons_zero, List.getElem?_cons_succ, w32_id, w64_id, ite_t, ite_f, Int.toNat_add, Int.toNat_mul, dec_t, dec_f, sM_0, sM_2, f0, pm.p4, a7, ez, zz, ef, e40, e15, w5', h15, e3, em]
        · obtain ⟨k3, em, fx2, -⟩ := fx.emit (o := 3) (v := 0) (a := a) (Nat.le_refl _) (by omega) p.la.2
          refine .inr ⟨m2, k3, ?_, ?_, fx2⟩
          · simp -implicitDefEqProofs (disch := omega) [bX8_readPart, v_cop, v_c1, v_c2, v_c3, v_c4, v_c5, v_bin, v_bn, v_bn2, v_div, v_dv, v_dv2, v_une, v_un, v_loc, v_num, v_get, v_gt, v_ald, v_al, v_al2, v_len, v_ln, v_rl0, v_rl1, v_rl2, v_rl3, v_rl4, v_rl5, v_cmp, v_cp, v_cp2, v_zC, v_zc, v_con, v_kc, v_and, v_an1, v_an0, v_or, v_or1, v_or0, v_not, v_nt, v_boo, v_bo, v_cnd, v_cd1, v_cd0, v_cnc, v_cc1, v_cc0, v_ev0, v_ev, v_e1, v_e2, v_cve, v_cv, v_cse, v_cs, v_skip, v_seq, v_sq0, v_sq1, v_sqr, v_sts, v_st, v_inc, v_put, v_pt, v_pt2, v_fop, v_fo, v_fo2, v_ast, v_as, v_as2, v_as3, v_aop, v_ao, v_ao2, v_ao3, v_exs, v_ex, v_ifs, v_if1, v_if0, v_ret, v_rt, v_rez, v_rz, v_rev, v_brk, v_sws, v_sw, v_sw2, v_run, v_rb, v_turn, v_tu1, v_tu0, v_tu2, v_tu3, fst1, snd1, Option.map_some, Option.getD_some, enA, en, stE, okb, narV, rf_toNat, rf_nn, List.getElem?_cons_zero, List.getElem?_cons_succ, w32_id, w64_id, ite_t, ite_f, Int.toNat_add, Int.toNat_mul, dec_t, dec_f, sC_27, sC_1, r0, t2, cf, e1, e2]
          · generalize ud μM 0 7 ((a : Int) + 1) = k1' at *
            simp -implicitDefEqProofs (disch := omega) [bX12_takePart, v_cop, v_c1, v_c2, v_c3, v_c4, v_c5, v_bin, v_bn, v_bn2, v_div, v_dv, v_dv2, v_une, v_un, v_loc, v_num, v_get, v_gt, v_ald, v_al, v_al2, v_len, v_ln, v_rl0, v_rl1, v_rl2, v_rl3, v_rl4, v_rl5, v_cmp, v_cp, v_cp2, v_zC, v_zc, v_con, v_kc, v_and, v_an1, v_an0, v_or, v_or1, v_or0, v_not, v_nt, v_boo, v_bo, v_cnd, v_cd1, v_cd0, v_cnc, v_cc1, v_cc0, v_ev0, v_ev, v_e1, v_e2, v_cve, v_cv, v_cse, v_cs, v_skip, v_seq, v_sq0, v_sq1, v_sqr, v_sts, v_st, v_inc, v_put, v_pt, v_pt2, v_fop, v_fo, v_fo2, v_ast, v_as, v_as2, v_as3, v_aop, v_ao, v_ao2, v_ao3, v_exs, v_ex, v_ifs, v_if1, v_if0, v_ret, v_rt, v_rez, v_rz, v_rev, v_brk, v_sws, v_sw, v_sw2, v_run, v_rb, v_turn, v_tu1, v_tu0, v_tu2, v_tu3, fst1, snd1, Option.map_some, Option.getD_some, enA, en, stE, okb, narV, rf_toNat, rf_nn, List.getElem?_cons_zero, List.getElem?_cons_succ, w32_id, w64_id, ite_t, ite_f, Int.toNat_add, Int.toNat_mul, dec_t, dec_f, sM_0, sM_2, f0, pm.p4, a7, ez, zz, ef, e40, e15, w5', h15, e3, em]
      · -- brackets
        have aT := p.lt (by omega)
        have zz : ¬ z = 2 := fun q => by have := hz.mp q; omega
        rw [if_pos ⟨rfl, o⟩] at e40
        rw [if_neg (fun q => by have := q.2; omega), if_neg (fun q => by have := q.2; omega)] at h15
        rw [if_pos ⟨rfl, o⟩, if_pos ⟨rfl, o⟩] at h40
        obtain ⟨m1, e1, h1⟩ := h.adv aT
        have ih := ihJ m1 (ud μM 0 7 ((a : Int) + 1)) (a + 1) j D h1 (by omega) D0 (by omega)
        rw [ew1, show ((0 : Nat) : Int) = 0 from rfl] at ih
        rw [o] at t2 cf
        rcases ih with ⟨a', j', m2, k2, e2, e3, h2, l1, l2⟩ | ⟨m2, k2, e2, e3, fx⟩
        · have ts := r_takeSign (x := 41) h2.1.mq h2.1.f0 (by decide)
          by_cases cl : tkA c N a' = 41
          · rw [if_pos cl] at ts
            obtain ⟨m3, e4, h3⟩ := h2.pass cl (by decide)
            refine .inl ⟨a' + 1, j', m3, _, ?_, ?_, h3, by omega, by omega⟩
            · simp -implicitDefEqProofs (disch := omega) [bX8_readPart, v_cop, v_c1, v_c2, v_c3, v_c4, v_c5, v_bin, v_bn, v_bn2, v_div, v_dv, v_dv2, v_une, v_un, v_loc, v_num, v_get, v_gt, v_ald, v_al, v_al2, v_len, v_ln, v_rl0, v_rl1, v_rl2, v_rl3, v_rl4, v_rl5, v_cmp, v_cp, v_cp2, v_zC, v_zc, v_con, v_kc, v_and, v_an1, v_an0, v_or, v_or1, v_or0, v_not, v_nt, v_boo, v_bo, v_cnd, v_cd1, v_cd0, v_cnc, v_cc1, v_cc0, v_ev0, v_ev, v_e1, v_e2, v_cve, v_cv, v_cse, v_cs, v_skip, v_seq, v_sq0, v_sq1, v_sqr, v_sts, v_st, v_inc, v_put, v_pt, v_pt2, v_fop, v_fo, v_fo2, v_ast, v_as, v_as2, v_as3, v_aop, v_ao, v_ao2, v_ao3, v_exs, v_ex, v_ifs, v_if1, v_if0, v_ret, v_rt, v_rez, v_rz, v_rev, v_brk, v_sws, v_sw, v_sw2, v_run, v_rb, v_turn, v_tu1, v_tu0, v_tu2, v_tu3, fst1, snd1, Option.map_some, Option.getD_some, enA, en, stE, okb, narV, rf_toNat, rf_nn, List.getElem?_cons_zero, List.getElem?_cons_succ, w32_id, w64_id, ite_t, ite_f, Int.toNat_add, Int.toNat_mul, dec_t, dec_f, sC_27, sC_1, r0, t2, cf, e1, e2, e4]
            · generalize ud k2 0 7 ((a' : Int) + 1) = k3 at *
              generalize ud μM 0 7 ((a : Int) + 1) = k1' at *
              simp -implicitDefEqProofs (disch := omega) [bX12_takePart, v_cop, v_c1, v_c2, v_c3, v_c4, v_c5, v_bin, v_bn, v_bn2, v_div, v_dv, v_dv2, v_une, v_un, v_loc, v_num, v_get, v_gt, v_ald, v_al, v_al2, v_len, v_ln, v_rl0, v_rl1, v_rl2, v_rl3, v_rl4, v_rl5, v_cmp, v_cp, v_cp2, v_zC, v_zc, v_con, v_kc, v_and, v_an1, v_an0, v_or, v_or1, v_or0, v_not, v_nt, v_boo, v_bo, v_cnd, v_cd1, v_cd0, v_cnc, v_cc1, v_cc0, v_ev0, v_ev, v_e1, v_e2, v_cve, v_cv, v_cse, v_cs, v_skip, v_seq, v_sq0, v_sq1, v_sqr, v_sts, v_st, v_inc, v_put, v_pt, v_pt2, v_fop, v_fo, v_fo2, v_ast, v_as, v_as2, v_as3, v_aop, v_ao, v_ao2, v_ao3, v_exs, v_ex, v_ifs, v_if1, v_if0, v_ret, v_rt, v_rez, v_rz, v_rev, v_brk, v_sws, v_sw, v_sw2, v_run, v_rb, v_turn, v_tu1, v_tu0, v_tu2, v_tu3, fst1, snd1, Option.map_some, Option.getD_some, enA, en, stE, okb, narV, rf_toNat, rf_nn, List.getElem?_cons_zero, List.getElem?_cons_succ, w32_id, w64_id, ite_t, ite_f, Int.toNat_add, Int.toNat_mul, dec_t, dec_f, sM_0, sM_2, f0, pm.p4, a7, ez, zz, ef, e40, w5', h15, h40, e3, ts]
          · rw [if_neg cl] at ts
            have e4 := c_passed0 h2.1.rq cl
            refine .inr ⟨_, _, ?_, ?_, (h2.fx (k := 1) (by decide)).le (by omega) (by omega)⟩
            · generalize ud m2 27 5 (ftA c N a' 1) = m3 at *
              simp -implicitDefEqProofs (disch := omega) [bX8_readPart, v_cop, v_c1, v_c2, v_c3, v_c4, v_c5, v_bin, v_bn, v_bn2, v_div, v_dv, v_dv2, v_une, v_un, v_loc, v_num, v_get, v_gt, v_ald, v_al, v_al2, v_len, v_ln, v_rl0, v_rl1, v_rl2, v_rl3, v_rl4, v_rl5, v_cmp, v_cp, v_cp2, v_zC, v_zc, v_con, v_kc, v_and, v_an1, v_an0, v_or, v_or1, v_or0, v_not, v_nt, v_boo, v_bo, v_cnd, v_cd1, v_cd0, v_cnc, v_cc1, v_cc0, v_ev0, v_ev, v_e1, v_e2, v_cve, v_cv, v_cse, v_cs, v_skip, v_seq, v_sq0, v_sq1, v_sqr, v_sts, v_st, v_inc, v_put, v_pt, v_pt2, v_fop, v_fo, v_fo2, v_ast, v_as, v_as2, v_as3, v_aop, v_ao, v_ao2, v_ao3, v_exs, v_ex, v_ifs, v_if1, v_if0, v_ret, v_rt, v_rez, v_rz, v_rev, v_brk, v_sws, v_sw, v_sw2, v_run, v_rb, v_turn, v_tu1, v_tu0, v_tu2, v_tu3, fst1, snd1, Option.map_some, Option.getD_some, enA, en, stE, okb, narV, rf_toNat, rf_nn, List.getElem?_cons_zero, List.getElem?_cons_succ, w32_id, w64_id, ite_t, ite_f, Int.toNat_add, Int.toNat_mul, dec_t, dec_f, sC_27, sC_1, r0, t2, cf, e1, e2, e4]
            · generalize ud k2 0 8 (ftA c N a' 1) = k3 at *
              generalize ud μM 0 7 ((a : Int) + 1) = k1' at *
              simp -implicitDefEqProofs (disch := omega) [bX12_takePart, v_cop, v_c1, v_c2, v_c3, v_c4, v_c5, v_bin, v_bn, v_bn2, v_div, v_dv, v_dv2, v_une, v_un, v_loc, v_num, v_get, v_gt, v_ald, v_al, v_al2, v_len, v_ln, v_rl0, v_rl1, v_rl2, v_rl3, v_rl4, v_rl5, v_cmp, v_cp, v_cp2, v_zC, v_zc, v_con, v_kc, v_and, v_an1, v_an0, v_or, v_or1, v_or0, v_not, v_nt, v_boo, v_bo, v_cnd, v_cd1, v_cd0, v_cnc, v_cc1, v_cc0, v_ev0, v_ev, v_e1, v_e2, v_cve, v_cv, v_cse, v_cs, v_skip, v_seq, v_sq0, v_sq1, v_sqr, v_sts, v_st, v_inc, v_put, v_pt, v_pt2, v_fop, v_fo, v_fo2, v_ast, v_as, v_as2, v_as3, v_aop, v_ao, v_ao2, v_ao3, v_exs, v_ex, v_ifs, v_if1, v_if0, v_ret, v_rt, v_rez, v_rz, v_rev, v_brk, v_sws, v_sw, v_sw2, v_run, v_rb, v_turn, v_tu1, v_tu0, v_tu2, v_tu3, fst1, snd1, Option.map_some, Option.getD_some, enA, en, stE, okb, narV, rf_toNat, rf_nn, List.getElem?_cons_zero, List.getElem?_cons_succ, w32_id, w64_id, ite_t, ite_f, Int.toNat_add, Int.toNat_mul, dec_t, dec_f, sM_0, sM_2, f0, pm.p4, a7, ez, zz, ef, e40, w5', h15, h40, e3, ts]
        · have fx0 := fx
          obtain ⟨F, b, K, g1, g2, g3, g4, -⟩ := fx0
          have ts := r_takeSignF (x := 41) g4 g3 g1 (by decide)
          refine .inr ⟨m2, k2, ?_, ?_, fx.le (by omega) (by omega)⟩
          · simp -implicitDefEqProofs (disch := omega) [bX8_readPart, v_cop, v_c1, v_c2, v_c3, v_c4, v_c5, v_bin, v_bn, v_bn2, v_div, v_dv, v_dv2, v_une, v_un, v_loc, v_num, v_get, v_gt, v_ald, v_al, v_al2, v_len, v_ln, v_rl0, v_rl1, v_rl2, v_rl3, v_rl4, v_rl5, v_cmp, v_cp, v_cp2, v_zC, v_zc, v_con, v_kc, v_and, v_an1, v_an0, v_or, v_or1, v_or0, v_not, v_nt, v_boo, v_bo, v_cnd, v_cd1, v_cd0, v_cnc, v_cc1, v_cc0, v_ev0, v_ev, v_e1, v_e2, v_cve, v_cv, v_cse, v_cs, v_skip, v_seq, v_sq0, v_sq1, v_sqr, v_sts, v_st, v_inc, v_put, v_pt, v_pt2, v_fop, v_fo, v_fo2, v_ast, v_as, v_as2, v_as3, v_aop, v_ao, v_ao2, v_ao3, v_exs, v_ex, v_ifs, v_if1, v_if0, v_ret, v_rt, v_rez, v_rz, v_rev, v_brk, v_sws, v_sw, v_sw2, v_run, v_rb, v_turn, v_tu1, v_tu0, v_tu2, v_tu3, fst1, snd1, Option.map_some, Option.getD_some, enA, en, stE, okb, narV, rf_toNat, rf_nn, List.getElem?_cons_zero, List.getElem?_cons_succ, w32_id, w64_id, ite_t, ite_f, Int.toNat_add, Int.toNat_mul, dec_t, dec_f, sC_27, sC_1, r0, t2, cf, e1, e2]
          · generalize ud μM 0 7 ((a : Int) + 1) = k1' at *
            simp -implicitDefEqProofs (disch := omega) [bX12_takePart, v_cop, v_c1, v_c2, v_c3, v_c4, v_c5, v_bin, v_bn, v_bn2, v_div, v_dv, v_dv2, v_une, v_un, v_loc, v_num, v_get, v_gt, v_ald, v_al, v_al2, v_len, v_ln, v_rl0, v_rl1, v_rl2, v_rl3, v_rl4, v_rl5, v_cmp, v_cp, v_cp2, v_zC, v_zc, v_con, v_kc, v_and, v_an1, v_an0, v_or, v_or1, v_or0, v_not, v_nt, v_boo, v_bo, v_cnd, v_cd1, v_cd0, v_cnc, v_cc1, v_cc0, v_ev0, v_ev, v_e1, v_e2, v_cve, v_cv, v_cse, v_cs, v_skip, v_seq, v_sq0, v_sq1, v_sqr, v_sts, v_st, v_inc, v_put, v_pt, v_pt2, v_fop, v_fo, v_fo2, v_ast, v_as, v_as2, v_as3, v_aop, v_ao, v_ao2, v_ao3, v_exs, v_ex, v_ifs, v_if1, v_if0, v_ret, v_rt, v_rez, v_rz, v_rev, v_brk, v_sws, v_sw, v_sw2, v_run, v_rb, v_turn, v_tu1, v_tu0, v_tu2, v_tu3, fst1, snd1, Option.map_some, Option.getD_some, enA, en, stE, okb, narV, rf_toNat, rf_nn, List.getElem?_cons_zero, List.getElem?_cons_succ, w32_id, w64_id, ite_t, ite_f, Int.toNat_add, Int.toNat_mul, dec_t, dec_f, sM_0, sM_2, f0, pm.p4, a7, ez, zz, ef, e40, w5', h15, h40, e3, ts]
  · exact b_partF h (by omega) (.inl ⟨fun z => ok (.inl z), fun z => ok (.inr (.inl z)), fun z => ok (.inr (.inr (.inl z))), fun z => ok (.inr (.inr (.inr z)))⟩)
