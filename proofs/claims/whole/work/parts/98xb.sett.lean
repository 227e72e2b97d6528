/-! settled -/
set_option maxRecDepth 100000 in theorem r_set1 {μ : Mem} (h : PM μ) (t1 t2 t3 : Nat × Int) (h1 : t1.1 ≠ 1) (h2 : t2.1 ≠ 1) (h3 : t3.1 ≠ 1) : ∃ μ', loopS 4 5 kX12_settled_1c kX12_settled_1b kX12_settled_1u shM [(2, rf 0), t1, t2, t3, (0, 0)] μ = some (0, 0, [(2, rf 0), t1, t2, t3, (0, 12)], μ') ∧ (∀ b, b < 12 → μ' 17 b = μ 15 (2 + b)) ∧ ∀ x y, x ≠ 17 → μ' x y = μ x y := by
  obtain ⟨a1, v1⟩ := t1
  obtain ⟨a2, v2⟩ := t2
  obtain ⟨a3, v3⟩ := t3
  have h3' : ¬ a3 = 1 := h3
  obtain ⟨env', m, lp, ⟨e0, A, D⟩⟩ := loop_n (kb := 4) (kc := 5) (c := kX12_settled_1c) (body := kX12_settled_1b) (upd := kX12_settled_1u) (sh := shM) (n := 12) (fun j env m => env = [(2, rf 0), (a1, v1), (a2, v2), (a3, v3), (0, (j : Int))] ∧ (∀ b, b < j → m 17 b = μ 15 (2 + b)) ∧ ∀ x y, x ≠ 17 → m x y = μ x y) (by
    rintro j env m hj ⟨rfl, A, D⟩
    have p : PM m := h.keep (S := fun x y => x = 17) (fun x y hs => D x y (by omega)) (by decide)
    have e1 : m 15 (2 + j) = μ 15 (2 + j) := D _ _ (by omega)
    refine ⟨_, ud m 17 j (μ 15 (2 + j)), ?_, rfl, fun b hb => ?_, fun x y hxy => by rw [ud_c hxy]; exact D x y hxy⟩
    · simp -implicitDefEqProofs (disch := omega) [kX12_settled_1c, kX12_settled_1b, kX12_settled_1u, v_cop, v_c1, v_c2, v_c3, v_c4, v_c5, v_bin, v_bn, v_bn2, v_div, v_dv, v_dv2, v_une, v_un, v_loc, v_num, v_get, v_gt, v_ald, v_al, v_al2, v_len, v_ln, v_rl0, v_rl1, v_rl2, v_rl3, v_rl4, v_rl5, v_cmp, v_cp, v_cp2, v_zC, v_zc, v_con, v_kc, v_and, v_an1, v_an0, v_or, v_or1, v_or0, v_not, v_nt, v_boo, v_bo, v_cnd, v_cd1, v_cd0, v_cnc, v_cc1, v_cc0, v_ev0, v_ev, v_e1, v_e2, v_cve, v_cv, v_cse, v_cs, v_skip, v_seq, v_sq0, v_sq1, v_sqr, v_sts, v_st, v_inc, v_put, v_pt, v_pt2, v_fop, v_fo, v_fo2, v_ast, v_as, v_as2, v_as3, v_aop, v_ao, v_ao2, v_ao3, v_exs, v_ex, v_ifs, v_if1, v_if0, v_ret, v_rt, v_rez, v_rz, v_rev, v_brk, v_sws, v_sw, v_sw2, v_run, v_rb, v_turn, v_tu1, v_tu0, v_tu2, v_tu3, fst1, snd1, Option.map_some, Option.getD_some, enA, en, stE, okb, narV, rf_toNat, rf_nn, List.getElem?_cons_zero, List.getElem?_cons_succ, w32_id, w64_id, ite_t, ite_f, Int.toNat_add, Int.toNat_mul, dec_t, dec_f, sM_0, sM_15, sM_17, p.p23, p.p26, e1, h3']
    · by_cases e : b = j
      · rw [e, ud_s]
      · rw [ud_j e]; exact A b (by omega)) (by
    rintro env m ⟨rfl, A, D⟩
    simp -implicitDefEqProofs (disch := omega) [kX12_settled_1c, v_cop, v_c1, v_c2, v_c3, v_c4, v_c5, v_bin, v_bn, v_bn2, v_div, v_dv, v_dv2, v_une, v_un, v_loc, v_num, v_get, v_gt, v_ald, v_al, v_al2, v_len, v_ln, v_rl0, v_rl1, v_rl2, v_rl3, v_rl4, v_rl5, v_cmp, v_cp, v_cp2, v_zC, v_zc, v_con, v_kc, v_and, v_an1, v_an0, v_or, v_or1, v_or0, v_not, v_nt, v_boo, v_bo, v_cnd, v_cd1, v_cd0, v_cnc, v_cc1, v_cc0, v_ev0, v_ev, v_e1, v_e2, v_cve, v_cv, v_cse, v_cs, v_skip, v_seq, v_sq0, v_sq1, v_sqr, v_sts, v_st, v_inc, v_put, v_pt, v_pt2, v_fop, v_fo, v_fo2, v_ast, v_as, v_as2, v_as3, v_aop, v_ao, v_ao2, v_ao3, v_exs, v_ex, v_ifs, v_if1, v_if0, v_ret, v_rt, v_rez, v_rz, v_rev, v_brk, v_sws, v_sw, v_sw2, v_run, v_rb, v_turn, v_tu1, v_tu0, v_tu2, v_tu3, fst1, snd1, Option.map_some, Option.getD_some, enA, en, stE, okb, narV, rf_toNat, rf_nn, List.getElem?_cons_zero, List.getElem?_cons_succ, w32_id, w64_id, ite_t, ite_f, Int.toNat_add, Int.toNat_mul, dec_t, dec_f]) (env := [(2, rf 0), (a1, v1), (a2, v2), (a3, v3), (0, 0)]) (μ := μ) ⟨rfl, fun b hb => by omega, fun _ _ _ => rfl⟩
  subst e0
  exact ⟨m, lp, A, D⟩
set_option maxRecDepth 100000 in theorem r_set2 {μ : Mem} {n : Nat} {nw old : Nat → Int} (h : PM μ) (hn : μ 6 1 = (n : Int)) (n1 : n ≤ 12) (A : ∀ b, b < 12 → μ 17 b = old b) (C : ∀ b, b < 12 → μ 15 (2 + b) = nw b) (t1 t2 : Nat × Int) (h2 : t2.1 ≠ 1) : loopS 6 7 kX12_settled_2c kX12_settled_2b kX12_settled_2u shM [(2, rf 0), t1, t2, (0, 1), (0, 0)] μ = some (0, 0, [(2, rf 0), t1, t2, (0, samS nw old n), (0, (n : Int))], μ) := by
  obtain ⟨a1, v1⟩ := t1
  obtain ⟨a2, v2⟩ := t2
  have h2' : ¬ a2 = 1 := h2
  have eb := r_beasts h
  rw [hn] at eb
  have lp := loop_run (kb := 6) (kc := 7) (c := kX12_settled_2c) (body := kX12_settled_2b) (upd := kX12_settled_2u) (sh := shM) (fun j => [(2, rf 0), (a1, v1), (a2, v2), (0, samS nw old j), (0, (j : Int))]) (fun _ => μ) (r := (0, 0, [(2, rf 0), (a1, v1), (a2, v2), (0, samS nw old n), (0, (n : Int))], μ)) n (by
    intro j hj
    have e1 := A j (by omega)
    have e2 := C j (by omega)
    have hj12 : j < 12 := by omega
    have s01 := sam_01 nw old j
    rw [sam_s]
    rcases s01 with s | s
    · rw [s, if_neg (by omega)]
      simp -implicitDefEqProofs (disch := omega) [kX12_settled_2c, kX12_settled_2b, kX12_settled_2u, v_cop, v_c1, v_c2, v_c3, v_c4, v_c5, v_bin, v_bn, v_bn2, v_div, v_dv, v_dv2, v_une, v_un, v_loc, v_num, v_get, v_gt, v_ald, v_al, v_al2, v_len, v_ln, v_rl0, v_rl1, v_rl2, v_rl3, v_rl4, v_rl5, v_cmp, v_cp, v_cp2, v_zC, v_zc, v_con, v_kc, v_and, v_an1, v_an0, v_or, v_or1, v_or0, v_not, v_nt, v_boo, v_bo, v_cnd, v_cd1, v_cd0, v_cnc, v_cc1, v_cc0, v_ev0, v_ev, v_e1, v_e2, v_cve, v_cv, v_cse, v_cs, v_skip, v_seq, v_sq0, v_sq1, v_sqr, v_sts, v_st, v_inc, v_put, v_pt, v_pt2, v_fop, v_fo, v_fo2, v_ast, v_as, v_as2, v_as3, v_aop, v_ao, v_ao2, v_ao3, v_exs, v_ex, v_ifs, v_if1, v_if0, v_ret, v_rt, v_rez, v_rz, v_rev, v_brk, v_sws, v_sw, v_sw2, v_run, v_rb, v_turn, v_tu1, v_tu0, v_tu2, v_tu3, fst1, snd1, Option.map_some, Option.getD_some, enA, en, stE, okb, narV, rf_toNat, rf_nn, List.getElem?_cons_zero, List.getElem?_cons_succ, w32_id, w64_id, ite_t, ite_f, Int.toNat_add, Int.toNat_mul, dec_t, dec_f, sM_0, eb, h2']
    · rw [s]
      by_cases c : nw j = old j
      · rw [if_pos ⟨rfl, c⟩]
        simp -implicitDefEqProofs (disch := omega) [kX12_settled_2c, kX12_settled_2b, kX12_settled_2u, v_cop, v_c1, v_c2, v_c3, v_c4, v_c5, v_bin, v_bn, v_bn2, v_div, v_dv, v_dv2, v_une, v_un, v_loc, v_num, v_get, v_gt, v_ald, v_al, v_al2, v_len, v_ln, v_rl0, v_rl1, v_rl2, v_rl3, v_rl4, v_rl5, v_cmp, v_cp, v_cp2, v_zC, v_zc, v_con, v_kc, v_and, v_an1, v_an0, v_or, v_or1, v_or0, v_not, v_nt, v_boo, v_bo, v_cnd, v_cd1, v_cd0, v_cnc, v_cc1, v_cc0, v_ev0, v_ev, v_e1, v_e2, v_cve, v_cv, v_cse, v_cs, v_skip, v_seq, v_sq0, v_sq1, v_sqr, v_sts, v_st, v_inc, v_put, v_pt, v_pt2, v_fop, v_fo, v_fo2, v_ast, v_as, v_as2, v_as3, v_aop, v_ao, v_ao2, v_ao3, v_exs, v_ex, v_ifs, v_if1, v_if0, v_ret, v_rt, v_rez, v_rz, v_rev, v_brk, v_sws, v_sw, v_sw2, v_run, v_rb, v_turn, v_tu1, v_tu0, v_tu2, v_tu3, fst1, snd1, Option.map_some, Option.getD_some, enA, en, stE, okb, narV, rf_toNat, rf_nn, List.getElem?_cons_zero, List.getElem?_cons_succ, w32_id, w64_id, ite_t, ite_f, Int.toNat_add, Int.toNat_mul, dec_t, dec_f, sM_0, sM_15, sM_17, h.p23, h.p26, eb, e1, e2, h2', c, hj12]
      · rw [if_neg (fun z => c z.2)]
        have c' : ¬ old j = nw j := fun z => c z.symm
        simp -implicitDefEqProofs (disch := omega) [kX12_settled_2c, kX12_settled_2b, kX12_settled_2u, v_cop, v_c1, v_c2, v_c3, v_c4, v_c5, v_bin, v_bn, v_bn2, v_div, v_dv, v_dv2, v_une, v_un, v_loc, v_num, v_get, v_gt, v_ald, v_al, v_al2, v_len, v_ln, v_rl0, v_rl1, v_rl2, v_rl3, v_rl4, v_rl5, v_cmp, v_cp, v_cp2, v_zC, v_zc, v_con, v_kc, v_and, v_an1, v_an0, v_or, v_or1, v_or0, v_not, v_nt, v_boo, v_bo, v_cnd, v_cd1, v_cd0, v_cnc, v_cc1, v_cc0, v_ev0, v_ev, v_e1, v_e2, v_cve, v_cv, v_cse, v_cs, v_skip, v_seq, v_sq0, v_sq1, v_sqr, v_sts, v_st, v_inc, v_put, v_pt, v_pt2, v_fop, v_fo, v_fo2, v_ast, v_as, v_as2, v_as3, v_aop, v_ao, v_ao2, v_ao3, v_exs, v_ex, v_ifs, v_if1, v_if0, v_ret, v_rt, v_rez, v_rz, v_rev, v_brk, v_sws, v_sw, v_sw2, v_run, v_rb, v_turn, v_tu1, v_tu0, v_tu2, v_tu3, fst1, snd1, Option.map_some, Option.getD_some, enA, en, stE, okb, narV, rf_toNat, rf_nn, List.getElem?_cons_zero, List.getElem?_cons_succ, w32_id, w64_id, ite_t, ite_f, Int.toNat_add, Int.toNat_mul, dec_t, dec_f, sM_0, sM_15, sM_17, h.p23, h.p26, eb, e1, e2, h2', c, c', hj12]) (by simp -implicitDefEqProofs (disch := omega) [kX12_settled_2c, v_cop, v_c1, v_c2, v_c3, v_c4, v_c5, v_bin, v_bn, v_bn2, v_div, v_dv, v_dv2, v_une, v_un, v_loc, v_num, v_get, v_gt, v_ald, v_al, v_al2, v_len, v_ln, v_rl0, v_rl1, v_rl2, v_rl3, v_rl4, v_rl5, v_cmp, v_cp, v_cp2, v_zC, v_zc, v_con, v_kc, v_and, v_an1, v_an0, v_or, v_or1, v_or0, v_not, v_nt, v_boo, v_bo, v_cnd, v_cd1, v_cd0, v_cnc, v_cc1, v_cc0, v_ev0, v_ev, v_e1, v_e2, v_cve, v_cv, v_cse, v_cs, v_skip, v_seq, v_sq0, v_sq1, v_sqr, v_sts, v_st, v_inc, v_put, v_pt, v_pt2, v_fop, v_fo, v_fo2, v_ast, v_as, v_as2, v_as3, v_aop, v_ao, v_ao2, v_ao3, v_exs, v_ex, v_ifs, v_if1, v_if0, v_ret, v_rt, v_rez, v_rz, v_rev, v_brk, v_sws, v_sw, v_sw2, v_run, v_rb, v_turn, v_tu1, v_tu0, v_tu2, v_tu3, fst1, snd1, Option.map_some, Option.getD_some, enA, en, stE, okb, narV, rf_toNat, rf_nn, List.getElem?_cons_zero, List.getElem?_cons_succ, w32_id, w64_id, ite_t, ite_f, Int.toNat_add, Int.toNat_mul, dec_t, dec_f, sM_0, eb])
  have : samS nw old 0 = 1 := by unfold samS; rw [if_pos (fun b hb => by omega)]
  simp only [this] at lp
  exact lp
/-- the class's trial beside the reference's first slot -/
def TV (μC μM mC mM : Mem) (h n P : Nat) : Prop := LR mC 35 (mM 15) ∧ SL (mM 15) n P ∧ (∀ x y, x ≠ 107 → x ≠ 108 → x ≠ 109 → x ≠ h + 8 → ¬ (x = 35 ∧ y < 2) → ¬ (36 ≤ x ∧ x ≤ 39) → mC x y = μC x y) ∧ ∀ x y, x ≠ 13 → x ≠ 14 → x ≠ 17 → ¬ (x = 15 ∧ y < 290) → mM x y = cpS μM 0 17 290 x y
set_option maxRecDepth 100000 in theorem set_turn {μC μM mC mM : Mem} {h d n P M : Nat} (R : R0 μC μM h d n P M) (T : TV μC μM mC mM h n P) {j : Nat} (hj : j ≤ 50) {a3 a4 : Nat} {v3 v4 : Int} (ha3 : a3 ≠ 1) (ha4 : a4 ≠ 1) : ∃ (v : Int) (mC' mM' : Mem) (b3 b4 : Nat) (u3 u4 : Int), TV μC μM mC' mM' h n P ∧ b3 ≠ 1 ∧ b4 ≠ 1 ∧ ((v = 1 ∧ turnS 2 3 kX11_settled_0c kX11_settled_0b kX11_settled_0u shC [(2, rf 0), (0, (j : Int))] mC = some (.inr (1, (j : Int), [(2, rf 0), (0, (j : Int))], mC'))) ∨ (v = 0 ∧ turnS 2 3 kX11_settled_0c kX11_settled_0b kX11_settled_0u shC [(2, rf 0), (0, (j : Int))] mC = some (.inl ([(2, rf 0), (0, (j : Int) + 1)], mC')))) ∧ turnS 2 3 kX12_settled_0c kX12_settled_0b kX12_settled_0u shM [(2, rf 0), (0, -1), (0, (j : Int)), (a3, v3), (a4, v4)] mM = some (.inl ([(2, rf 0), (0, if v = 1 then (j : Int) else -1), (0, (j : Int) + 1), (b3, u3), (b4, u4)], mM')) := by
  obtain ⟨lr, sl, D1, D2⟩ := T
  have hh := R.hd.1
  have hn := R.fb.n1
  have e6 : mM 6 = μM 6 := by funext y; rw [D2 6 y (by omega) (by omega) (by omega) (by omega), cpS_c (by omega)]
  have e7 : mM 7 = μM 7 := by funext y; rw [D2 7 y (by omega) (by omega) (by omega) (by omega), cpS_c (by omega)]
  have e8 : mM 8 = μM 8 := by funext y; rw [D2 8 y (by omega) (by omega) (by omega) (by omega), cpS_c (by omega)]
  have pc : PC mC := R.pc.keep (S := fun a b => a = 107 ∨ a = 108 ∨ a = 109 ∨ a = 11 ∨ a = 23 ∨ (a = 35 ∧ b < 2) ∨ (36 ≤ a ∧ a ≤ 39)) (fun a b hs => D1 a b (by omega) (by omega) (by omega) (by omega) (by omega) (by omega)) (by decide)
  have pm : PM mM := R.pm.keep (S := fun a b => a = 13 ∨ a = 14 ∨ a = 15 ∨ a = 17) (fun a b hs => by rw [D2 a b (by omega) (by omega) (by omega) (by omega), cpS_c (by omega)]) (by decide)
  obtain ⟨N, L⟩ := R.lw.ex
  have hd0 : HD mC h d := ⟨hh, by rw [D1 _ _ (by omega) (by omega) (by omega) (by omega) (by omega) (by omega)]; exact R.hd.2.1, by rw [D1 _ _ (by omega) (by omega) (by omega) (by omega) (by omega) (by omega)]; exact R.hd.2.2⟩
  have F0 : FR mC h (mM 6) n M := by rw [e6]; exact R.fr.of (fun a b h1 h2 => D1 a b (by omega) (by omega) (by omega) (by omega) (by omega) (by omega))
  have L0 : LWN mC (h + 6) lieW (-19) (mM 7) (mM 8) (mM 6 183) N := by rw [e6, e7, e8]; exact L.of (fun a b hab => D1 a b (by omega) (by omega) (by omega) (by omega) (by omega) (by omega))
  have B0 : FB (mM 6) n P M := by rw [e6]; exact R.fb
  obtain ⟨mC', f1, lr', D3⟩ := c_fall (.inr rfl) pc hd0 B0 F0 lr sl L0
  obtain ⟨m1, l1, A1, E1⟩ := r_set1 pm (0, -1) (0, (j : Int)) (0, 1) (by simp) (by simp) (by simp)
  have p1 : PM m1 := pm.keep (S := fun a b => a = 17) (fun a b hs => E1 a b (by omega)) (by decide)
  have q6 : m1 6 = mM 6 := by funext y; exact E1 6 y (by omega)
  have q7 : m1 7 = mM 7 := by funext y; exact E1 7 y (by omega)
  have q8 : m1 8 = mM 8 := by funext y; exact E1 8 y (by omega)
  have q15 : m1 15 = mM 15 := by funext y; exact E1 15 y (by omega)
  obtain ⟨m2, f2, es, f0, E2⟩ := r_goesOn (N := N) p1 (by rw [q6]; exact B0) (by rw [q15]; exact sl) (by
    have := LQ_of L0
    unfold LQ at this ⊢
    rw [q6, q7, q8]
    exact this)
  rw [q6, q7, q8, q15] at es
  generalize hV : LV (mM 7) (mM 8) (mM 6 183) N = V at *
  have p2 : PM m2 := p1.keep (S := fun a b => a = 13 ∨ a = 14 ∨ a = 15) (fun a b hs => E2 a b (by omega) (by omega) (by omega)) (by decide)
  have l2 := r_set2 (nw := dkT (mM 6) (mM 15) V n P 3) (old := fun b => mM 15 (2 + b)) p2 (by rw [E2 _ _ (by omega) (by omega) (by omega), q6]; exact B0.n0) hn (fun b hb => by rw [E2 _ _ (by omega) (by omega) (by omega)]; exact A1 b hb) (fun b hb => by rw [es _ (by omega), du_n hb]) (0, -1) (0, (j : Int)) (by simp)
  have W := NW.dT_ (fl := mM 6) (st := mM 15) (V := V) (n := n) (P := P) 3
  have se : samS (dkT (mM 6) (mM 15) V n P 3) (fun b => mM 15 (2 + b)) n = samS (dkT (mM 6) (mM 15) V n P 3) (fun b => mM 15 (2 + b)) 12 := sam_n hn (fun b h1 h2 => by rw [W.out h1]; exact (sl.nn b h1 h2).symm)
  rw [se] at l2
  have s01 := sam_01 (dkT (mM 6) (mM 15) V n P 3) (fun b => mM 15 (2 + b)) 12
  generalize samS (dkT (mM 6) (mM 15) V n P 3) (fun b => mM 15 (2 + b)) 12 = v at *
  have TV' : TV μC μM mC' m2 h n P := ⟨lr'.of (fun _ _ _ _ => rfl) es, (du_SL sl B0.P2).of es, fun x y h1 h2 h3 h4 h5 h6 => by rw [D3 x y h1 h2 h3 h4 (by omega) (by omega)]; exact D1 x y h1 h2 h3 h4 h5 h6, fun x y h1 h2 h3 h4 => by rw [E2 x y h1 h2 (by omega), E1 x y h3]; exact D2 x y h1 h2 h3 h4⟩
  have ha3' : ¬ a3 = 1 := ha3
  have ha4' : ¬ a4 = 1 := ha4
  have g1 := hd0.2.1
  rcases s01 with rfl | rfl
  · refine ⟨0, mC', m2, 0, 0, 0, (n : Int), TV', by decide, by decide, .inr ⟨rfl, ?_⟩, ?_⟩
    · simp -implicitDefEqProofs (disch := omega) [kX11_settled_0c, kX11_settled_0b, kX11_settled_0u, v_cop, v_c1, v_c2, v_c3, v_c4, v_c5, v_bin, v_bn, v_bn2, v_div, v_dv, v_dv2, v_une, v_un, v_loc, v_num, v_get, v_gt, v_ald, v_al, v_al2, v_len, v_ln, v_rl0, v_rl1, v_rl2, v_rl3, v_rl4, v_rl5, v_cmp, v_cp, v_cp2, v_zC, v_zc, v_con, v_kc, v_and, v_an1, v_an0, v_or, v_or1, v_or0, v_not, v_nt, v_boo, v_bo, v_cnd, v_cd1, v_cd0, v_cnc, v_cc1, v_cc0, v_ev0, v_ev, v_e1, v_e2, v_cve, v_cv, v_cse, v_cs, v_skip, v_seq, v_sq0, v_sq1, v_sqr, v_sts, v_st, v_inc, v_put, v_pt, v_pt2, v_fop, v_fo, v_fo2, v_ast, v_as, v_as2, v_as3, v_aop, v_ao, v_ao2, v_ao3, v_exs, v_ex, v_ifs, v_if1, v_if0, v_ret, v_rt, v_rez, v_rz, v_rev, v_brk, v_sws, v_sw, v_sw2, v_run, v_rb, v_turn, v_tu1, v_tu0, v_tu2, v_tu3, fst1, snd1, Option.map_some, Option.getD_some, enA, en, stE, okb, narV, rf_toNat, rf_nn, List.getElem?_cons_zero, List.getElem?_cons_succ, w32_id, w64_id, ite_t, ite_f, Int.toNat_add, Int.toNat_mul, dec_t, dec_f, sC_0, sC_106, pc.p0_8, pc.p0_5, g1, f1]
    · simp -implicitDefEqProofs (disch := omega) [kX12_settled_0c, kX12_settled_0b, kX12_settled_0u, kX12_settled_1, kX12_settled_2, v_cop, v_c1, v_c2, v_c3, v_c4, v_c5, v_bin, v_bn, v_bn2, v_div, v_dv, v_dv2, v_une, v_un, v_loc, v_num, v_get, v_gt, v_ald, v_al, v_al2, v_len, v_ln, v_rl0, v_rl1, v_rl2, v_rl3, v_rl4, v_rl5, v_cmp, v_cp, v_cp2, v_zC, v_zc, v_con, v_kc, v_and, v_an1, v_an0, v_or, v_or1, v_or0, v_not, v_nt, v_boo, v_bo, v_cnd, v_cd1, v_cd0, v_cnc, v_cc1, v_cc0, v_ev0, v_ev, v_e1, v_e2, v_cve, v_cv, v_cse, v_cs, v_skip, v_seq, v_sq0, v_sq1, v_sqr, v_sts, v_st, v_inc, v_put, v_pt, v_pt2, v_fop, v_fo, v_fo2, v_ast, v_as, v_as2, v_as3, v_aop, v_ao, v_ao2, v_ao3, v_exs, v_ex, v_ifs, v_if1, v_if0, v_ret, v_rt, v_rez, v_rz, v_rev, v_brk, v_sws, v_sw, v_sw2, v_run, v_rb, v_turn, v_tu1, v_tu0, v_tu2, v_tu3, fst1, snd1, Option.map_some, Option.getD_some, enA, en, stE, okb, narV, rf_toNat, rf_nn, List.getElem?_cons_zero, List.getElem?_cons_succ, w32_id, w64_id, ite_t, ite_f, Int.toNat_add, Int.toNat_mul, dec_t, dec_f, sM_0, ha3', ha4', l1, f2, l2]
  · refine ⟨1, mC', m2, 0, 0, 1, (n : Int), TV', by decide, by decide, .inl ⟨rfl, ?_⟩, ?_⟩
    · simp -implicitDefEqProofs (disch := omega) [kX11_settled_0c, kX11_settled_0b, kX11_settled_0u, v_cop, v_c1, v_c2, v_c3, v_c4, v_c5, v_bin, v_bn, v_bn2, v_div, v_dv, v_dv2, v_une, v_un, v_loc, v_num, v_get, v_gt, v_ald, v_al, v_al2, v_len, v_ln, v_rl0, v_rl1, v_rl2, v_rl3, v_rl4, v_rl5, v_cmp, v_cp, v_cp2, v_zC, v_zc, v_con, v_kc, v_and, v_an1, v_an0, v_or, v_or1, v_or0, v_not, v_nt, v_boo, v_bo, v_cnd, v_cd1, v_cd0, v_cnc, v_cc1, v_cc0, v_ev0, v_ev, v_e1, v_e2, v_cve, v_cv, v_cse, v_cs, v_skip, v_seq, v_sq0, v_sq1, v_sqr, v_sts, v_st, v_inc, v_put, v_pt, v_pt2, v_fop, v_fo, v_fo2, v_ast, v_as, v_as2, v_as3, v_aop, v_ao, v_ao2, v_ao3, v_exs, v_ex, v_ifs, v_if1, v_if0, v_ret, v_rt, v_rez, v_rz, v_rev, v_brk, v_sws, v_sw, v_sw2, v_run, v_rb, v_turn, v_tu1, v_tu0, v_tu2, v_tu3, fst1, snd1, Option.map_some, Option.getD_some, enA, en, stE, okb, narV, rf_toNat, rf_nn, List.getElem?_cons_zero, List.getElem?_cons_succ, w32_id, w64_id, ite_t, ite_f, Int.toNat_add, Int.toNat_mul, dec_t, dec_f, sC_0, sC_106, pc.p0_8, pc.p0_5, g1, f1]
    · simp -implicitDefEqProofs (disch := omega) [kX12_settled_0c, kX12_settled_0b, kX12_settled_0u, kX12_settled_1, kX12_settled_2, v_cop, v_c1, v_c2, v_c3, v_c4, v_c5, v_bin, v_bn, v_bn2, v_div, v_dv, v_dv2, v_une, v_un, v_loc, v_num, v_get, v_gt, v_ald, v_al, v_al2, v_len, v_ln, v_rl0, v_rl1, v_rl2, v_rl3, v_rl4, v_rl5, v_cmp, v_cp, v_cp2, v_zC, v_zc, v_con, v_kc, v_and, v_an1, v_an0, v_or, v_or1, v_or0, v_not, v_nt, v_boo, v_bo, v_cnd, v_cd1, v_cd0, v_cnc, v_cc1, v_cc0, v_ev0, v_ev, v_e1, v_e2, v_cve, v_cv, v_cse, v_cs, v_skip, v_seq, v_sq0, v_sq1, v_sqr, v_sts, v_st, v_inc, v_put, v_pt, v_pt2, v_fop, v_fo, v_fo2, v_ast, v_as, v_as2, v_as3, v_aop, v_ao, v_ao2, v_ao3, v_exs, v_ex, v_ifs, v_if1, v_if0, v_ret, v_rt, v_rez, v_rz, v_rev, v_brk, v_sws, v_sw, v_sw2, v_run, v_rb, v_turn, v_tu1, v_tu0, v_tu2, v_tu3, fst1, snd1, Option.map_some, Option.getD_some, enA, en, stE, okb, narV, rf_toNat, rf_nn, List.getElem?_cons_zero, List.getElem?_cons_succ, w32_id, w64_id, ite_t, ite_f, Int.toNat_add, Int.toNat_mul, dec_t, dec_f, sM_0, ha3', ha4', l1, f2, l2]
set_option maxRecDepth 100000 in theorem st_settled : STP RR fX11_settled fX12_settled [] := by
  rintro μC μM ⟨h, d, n, P, M, R⟩
  have th := ud_same R.th
  have hh := R.hd.1
  have c1 := c_copy R.pc.ly35 R.pc.ly30 (by omega)
  have c2 := r_copies R.pm (f := 0) (t := 17) (by omega) (by omega) (by omega)
  rw [show ((0 : Nat) : Int) = 0 from rfl, show ((17 : Nat) : Int) = 17 from rfl] at c2
  have es0 : ∀ i, i < 290 → cpS μM 0 17 290 15 i = μM 15 i := fun i hi => cpS_o (by omega)
  have T0 : TV μC μM (cpL μC 30 35) (cpS μM 0 17 290) h n P := ⟨(cpL_LR (k := 35) R.lr).of (fun _ _ _ _ => rfl) (fun i hi => es0 i (by omega)), R.sl.of (fun i hi => es0 i (by omega)), fun x y h1 h2 h3 h4 h5 h6 => cpL_p (by omega), fun x y _ _ _ _ => rfl⟩
  have key : ∀ q j : Nat, j + q = 51 → ∀ mC mM (a3 a4 : Nat) (v3 v4 : Int), a3 ≠ 1 → a4 ≠ 1 → TV μC μM mC mM h n P → ∃ r mC' mM' t3 t4 t2, TV μC μM mC' mM' h n P ∧ -1 ≤ r ∧ ((r = -1 ∧ ∃ e, loopS 2 3 kX11_settled_0c kX11_settled_0b kX11_settled_0u shC [(2, rf 0), (0, (j : Int))] mC = some (0, 0, e, mC')) ∨ (0 ≤ r ∧ ∃ e, loopS 2 3 kX11_settled_0c kX11_settled_0b kX11_settled_0u shC [(2, rf 0), (0, (j : Int))] mC = some (1, r, e, mC'))) ∧ loopS 2 3 kX12_settled_0c kX12_settled_0b kX12_settled_0u shM [(2, rf 0), (0, -1), (0, (j : Int)), (a3, v3), (a4, v4)] mM = some (0, 0, [(2, rf 0), (0, r), t2, t3, t4], mM') := by
    intro q
    induction q with
    | zero =>
      intro j hj mC mM a3 a4 v3 v4 ha3 ha4 T
      have hj' : j = 51 := by omega
      subst hj'
      refine ⟨-1, mC, mM, (a3, v3), (a4, v4), (0, ((51 : Nat) : Int)), T, by omega, .inl ⟨rfl, [(2, rf 0), (0, ((51 : Nat) : Int))], turn_end ?_⟩, turn_end ?_⟩
      · simp -implicitDefEqProofs (disch := omega) [kX11_settled_0c, v_cop, v_c1, v_c2, v_c3, v_c4, v_c5, v_bin, v_bn, v_bn2, v_div, v_dv, v_dv2, v_une, v_un, v_loc, v_num, v_get, v_gt, v_ald, v_al, v_al2, v_len, v_ln, v_rl0, v_rl1, v_rl2, v_rl3, v_rl4, v_rl5, v_cmp, v_cp, v_cp2, v_zC, v_zc, v_con, v_kc, v_and, v_an1, v_an0, v_or, v_or1, v_or0, v_not, v_nt, v_boo, v_bo, v_cnd, v_cd1, v_cd0, v_cnc, v_cc1, v_cc0, v_ev0, v_ev, v_e1, v_e2, v_cve, v_cv, v_cse, v_cs, v_skip, v_seq, v_sq0, v_sq1, v_sqr, v_sts, v_st, v_inc, v_put, v_pt, v_pt2, v_fop, v_fo, v_fo2, v_ast, v_as, v_as2, v_as3, v_aop, v_ao, v_ao2, v_ao3, v_exs, v_ex, v_ifs, v_if1, v_if0, v_ret, v_rt, v_rez, v_rz, v_rev, v_brk, v_sws, v_sw, v_sw2, v_run, v_rb, v_turn, v_tu1, v_tu0, v_tu2, v_tu3, fst1, snd1, Option.map_some, Option.getD_some, enA, en, stE, okb, narV, rf_toNat, rf_nn, List.getElem?_cons_zero, List.getElem?_cons_succ, w32_id, w64_id, ite_t, ite_f, Int.toNat_add, Int.toNat_mul, dec_t, dec_f]
      · simp -implicitDefEqProofs (disch := omega) [kX12_settled_0c, v_cop, v_c1, v_c2, v_c3, v_c4, v_c5, v_bin, v_bn, v_bn2, v_div, v_dv, v_dv2, v_une, v_un, v_loc, v_num, v_get, v_gt, v_ald, v_al, v_al2, v_len, v_ln, v_rl0, v_rl1, v_rl2, v_rl3, v_rl4, v_rl5, v_cmp, v_cp, v_cp2, v_zC, v_zc, v_con, v_kc, v_and, v_an1, v_an0, v_or, v_or1, v_or0, v_not, v_nt, v_boo, v_bo, v_cnd, v_cd1, v_cd0, v_cnc, v_cc1, v_cc0, v_ev0, v_ev, v_e1, v_e2, v_cve, v_cv, v_cse, v_cs, v_skip, v_seq, v_sq0, v_sq1, v_sqr, v_sts, v_st, v_inc, v_put, v_pt, v_pt2, v_fop, v_fo, v_fo2, v_ast, v_as, v_as2, v_as3, v_aop, v_ao, v_ao2, v_ao3, v_exs, v_ex, v_ifs, v_if1, v_if0, v_ret, v_rt, v_rez, v_rz, v_rev, v_brk, v_sws, v_sw, v_sw2, v_run, v_rb, v_turn, v_tu1, v_tu0, v_tu2, v_tu3, fst1, snd1, Option.map_some, Option.getD_some, enA, en, stE, okb, narV, rf_toNat, rf_nn, List.getElem?_cons_zero, List.getElem?_cons_succ, w32_id, w64_id, ite_t, ite_f, Int.toNat_add, Int.toNat_mul, dec_t, dec_f]
    | succ q ih =>
      intro j hj mC mM a3 a4 v3 v4 ha3 ha4 T
      obtain ⟨v, mC', mM', b3, b4, u3, u4, T', hb3, hb4, tc, tm⟩ := set_turn R T (j := j) (by omega) (v3 := v3) (v4 := v4) ha3 ha4
      rw [turn_go tm]
      rcases tc with ⟨rfl, tc⟩ | ⟨rfl, tc⟩
      · refine ⟨(j : Int), mC', mM', (b3, u3), (b4, u4), (0, (j : Int) + 1), T', by omega, .inr ⟨by omega, [(2, rf 0), (0, (j : Int))], turn_end tc⟩, turn_end ?_⟩
        by_cases c : (j : Int) + 1 ≤ 50
        · simp -implicitDefEqProofs (disch := omega) [kX12_settled_0c, v_cop, v_c1, v_c2, v_c3, v_c4, v_c5, v_bin, v_bn, v_bn2, v_div, v_dv, v_dv2, v_une, v_un, v_loc, v_num, v_get, v_gt, v_ald, v_al, v_al2, v_len, v_ln, v_rl0, v_rl1, v_rl2, v_rl3, v_rl4, v_rl5, v_cmp, v_cp, v_cp2, v_zC, v_zc, v_con, v_kc, v_and, v_an1, v_an0, v_or, v_or1, v_or0, v_not, v_nt, v_boo, v_bo, v_cnd, v_cd1, v_cd0, v_cnc, v_cc1, v_cc0, v_ev0, v_ev, v_e1, v_e2, v_cve, v_cv, v_cse, v_cs, v_skip, v_seq, v_sq0, v_sq1, v_sqr, v_sts, v_st, v_inc, v_put, v_pt, v_pt2, v_fop, v_fo, v_fo2, v_ast, v_as, v_as2, v_as3, v_aop, v_ao, v_ao2, v_ao3, v_exs, v_ex, v_ifs, v_if1, v_if0, v_ret, v_rt, v_rez, v_rz, v_rev, v_brk, v_sws, v_sw, v_sw2, v_run, v_rb, v_turn, v_tu1, v_tu0, v_tu2, v_tu3, fst1, snd1, Option.map_some, Option.getD_some, enA, en, stE, okb, narV, rf_toNat, rf_nn, List.getElem?_cons_zero, List.getElem?_cons_succ, w32_id, w64_id, ite_t, ite_f, Int.toNat_add, Int.toNat_mul, dec_t, dec_f]
        · simp -implicitDefEqProofs (disch := omega) [kX12_settled_0c, v_cop, v_c1, v_c2, v_c3, v_c4, v_c5, v_bin, v_bn, v_bn2, v_div, v_dv, v_dv2, v_une, v_un, v_loc, v_num, v_get, v_gt, v_ald, v_al, v_al2, v_len, v_ln, v_rl0, v_rl1, v_rl2, v_rl3, v_rl4, v_rl5, v_cmp, v_cp, v_cp2, v_zC, v_zc, v_con, v_kc, v_and, v_an1, v_an0, v_or, v_or1, v_or0, v_not, v_nt, v_boo, v_bo, v_cnd, v_cd1, v_cd0, v_cnc, v_cc1, v_cc0, v_ev0, v_ev, v_e1, v_e2, v_cve, v_cv, v_cse, v_cs, v_skip, v_seq, v_sq0, v_sq1, v_sqr, v_sts, v_st, v_inc, v_put, v_pt, v_pt2, v_fop, v_fo, v_fo2, v_ast, v_as, v_as2, v_as3, v_aop, v_ao, v_ao2, v_ao3, v_exs, v_ex, v_ifs, v_if1, v_if0, v_ret, v_rt, v_rez, v_rz, v_rev, v_brk, v_sws, v_sw, v_sw2, v_run, v_rb, v_turn, v_tu1, v_tu0, v_tu2, v_tu3, fst1, snd1, Option.map_some, Option.getD_some, enA, en, stE, okb, narV, rf_toNat, rf_nn, List.getElem?_cons_zero, List.getElem?_cons_succ, w32_id, w64_id, ite_t, ite_f, Int.toNat_add, Int.toNat_mul, dec_t, dec_f]
      · rw [turn_go tc]
        have := ih (j + 1) (by omega) mC' mM' b3 b4 u3 u4 hb3 hb4 T'
        rw [show ((j + 1 : Nat) : Int) = (j : Int) + 1 by omega] at this
        rw [if_neg (by omega)]
        exact this
  obtain ⟨r, mC, mM, t3, t4, t2, T, hr, lc, lm⟩ := key 51 0 rfl (cpL μC 30 35) (cpS μM 0 17 290) 3 3 0 0 (by decide) (by decide) T0
  obtain ⟨-, -, D1, D2⟩ := T
  have pm : PM mM := R.pm.keep (S := fun a b => a = 13 ∨ a = 14 ∨ a = 15 ∨ a = 17) (fun a b hs => by rw [D2 a b (by omega) (by omega) (by omega) (by omega), cpS_c (by omega)]) (by decide)
  have c3 := r_copies pm (f := 17) (t := 0) (by omega) (by omega) (by omega)
  rw [show ((0 : Nat) : Int) = 0 from rfl, show ((17 : Nat) : Int) = 17 from rfl] at c3
  rw [show ((0 : Nat) : Int) = 0 from rfl] at lc lm
  have eM : ∀ a b, a ≠ 13 → a ≠ 14 → a ≠ 17 → ¬ (a = 15 ∧ 4930 ≤ b) → cpS mM 17 0 290 a b = μM a b := fun a b h1 h2 h3 h4 => by
    by_cases c : a = 15 ∧ b < 290
    · obtain ⟨rfl, hb⟩ := c
      have e1 := cpS_n (μ := mM) (f := 17) (t := 0) (j := 290) hb
      rw [show 290 * 0 + b = b by omega] at e1
      rw [e1, D2 _ _ (by omega) (by omega) (by omega) (by omega), cpS_n hb]
      congr 1
      omega
    · by_cases c2 : a = 15
      · rw [cpS_o (by omega), D2 a b h1 h2 h3 c]
        exact cpS_o (by omega)
      · rw [cpS_c c2, D2 a b h1 h2 h3 c]
        exact cpS_c c2
  refine ⟨r, mC, cpS mM 17 0 290, ?_, ?_, h, d, n, P, M, ?_⟩
  · have pc0 : PC (cpL μC 30 35) := R.pc.keep (S := fun a b => (a = 35 ∧ b < 2) ∨ (36 ≤ a ∧ a ≤ 39)) (fun a b hs => cpL_p (by omega)) (by decide)
    rcases lc with ⟨rfl, e, lc⟩ | ⟨-, e, lc⟩
    · simp -implicitDefEqProofs (disch := omega) [fX11_settled, bX11_settled, kX11_settled_0, v_cop, v_c1, v_c2, v_c3, v_c4, v_c5, v_bin, v_bn, v_bn2, v_div, v_dv, v_dv2, v_une, v_un, v_loc, v_num, v_get, v_gt, v_ald, v_al, v_al2, v_len, v_ln, v_rl0, v_rl1, v_rl2, v_rl3, v_rl4, v_rl5, v_cmp, v_cp, v_cp2, v_zC, v_zc, v_con, v_kc, v_and, v_an1, v_an0, v_or, v_or1, v_or0, v_not, v_nt, v_boo, v_bo, v_cnd, v_cd1, v_cd0, v_cnc, v_cc1, v_cc0, v_ev0, v_ev, v_e1, v_e2, v_cve, v_cv, v_cse, v_cs, v_skip, v_seq, v_sq0, v_sq1, v_sqr, v_sts, v_st, v_inc, v_put, v_pt, v_pt2, v_fop, v_fo, v_fo2, v_ast, v_as, v_as2, v_as3, v_aop, v_ao, v_ao2, v_ao3, v_exs, v_ex, v_ifs, v_if1, v_if0, v_ret, v_rt, v_rez, v_rz, v_rev, v_brk, v_sws, v_sw, v_sw2, v_run, v_rb, v_turn, v_tu1, v_tu0, v_tu2, v_tu3, fst1, snd1, Option.map_some, Option.getD_some, enA, en, stE, okb, narV, rf_toNat, rf_nn, List.getElem?_cons_zero, List.getElem?_cons_succ, w32_id, w64_id, ite_t, ite_f, Int.toNat_add, Int.toNat_mul, dec_t, dec_f, sC_0, sC_35, R.pc.p0_5, R.pc.p0_4, c1, lc]
    · simp -implicitDefEqProofs (disch := omega) [fX11_settled, bX11_settled, kX11_settled_0, v_cop, v_c1, v_c2, v_c3, v_c4, v_c5, v_bin, v_bn, v_bn2, v_div, v_dv, v_dv2, v_une, v_un, v_loc, v_num, v_get, v_gt, v_ald, v_al, v_al2, v_len, v_ln, v_rl0, v_rl1, v_rl2, v_rl3, v_rl4, v_rl5, v_cmp, v_cp, v_cp2, v_zC, v_zc, v_con, v_kc, v_and, v_an1, v_an0, v_or, v_or1, v_or0, v_not, v_nt, v_boo, v_bo, v_cnd, v_cd1, v_cd0, v_cnc, v_cc1, v_cc0, v_ev0, v_ev, v_e1, v_e2, v_cve, v_cv, v_cse, v_cs, v_skip, v_seq, v_sq0, v_sq1, v_sqr, v_sts, v_st, v_inc, v_put, v_pt, v_pt2, v_fop, v_fo, v_fo2, v_ast, v_as, v_as2, v_as3, v_aop, v_ao, v_ao2, v_ao3, v_exs, v_ex, v_ifs, v_if1, v_if0, v_ret, v_rt, v_rez, v_rz, v_rev, v_brk, v_sws, v_sw, v_sw2, v_run, v_rb, v_turn, v_tu1, v_tu0, v_tu2, v_tu3, fst1, snd1, Option.map_some, Option.getD_some, enA, en, stE, okb, narV, rf_toNat, rf_nn, List.getElem?_cons_zero, List.getElem?_cons_succ, w32_id, w64_id, ite_t, ite_f, Int.toNat_add, Int.toNat_mul, dec_t, dec_f, sC_0, sC_35, R.pc.p0_5, R.pc.p0_4, c1, lc]
  · simp -implicitDefEqProofs (disch := omega) [fX12_settled, bX12_settled, kX12_settled_0, v_cop, v_c1, v_c2, v_c3, v_c4, v_c5, v_bin, v_bn, v_bn2, v_div, v_dv, v_dv2, v_une, v_un, v_loc, v_num, v_get, v_gt, v_ald, v_al, v_al2, v_len, v_ln, v_rl0, v_rl1, v_rl2, v_rl3, v_rl4, v_rl5, v_cmp, v_cp, v_cp2, v_zC, v_zc, v_con, v_kc, v_and, v_an1, v_an0, v_or, v_or1, v_or0, v_not, v_nt, v_boo, v_bo, v_cnd, v_cd1, v_cd0, v_cnc, v_cc1, v_cc0, v_ev0, v_ev, v_e1, v_e2, v_cve, v_cv, v_cse, v_cs, v_skip, v_seq, v_sq0, v_sq1, v_sqr, v_sts, v_st, v_inc, v_put, v_pt, v_pt2, v_fop, v_fo, v_fo2, v_ast, v_as, v_as2, v_as3, v_aop, v_ao, v_ao2, v_ao3, v_exs, v_ex, v_ifs, v_if1, v_if0, v_ret, v_rt, v_rez, v_rz, v_rev, v_brk, v_sws, v_sw, v_sw2, v_run, v_rb, v_turn, v_tu1, v_tu0, v_tu2, v_tu3, fst1, snd1, Option.map_some, Option.getD_some, enA, en, stE, okb, narV, rf_toNat, rf_nn, List.getElem?_cons_zero, List.getElem?_cons_succ, w32_id, w64_id, ite_t, ite_f, Int.toNat_add, Int.toNat_mul, dec_t, dec_f, sM_0, th, c2, lm, c3]
  · have e15 : ∀ i, i < 4930 → cpS mM 17 0 290 15 i = μM 15 i := fun i hi => eM _ _ (by omega) (by omega) (by omega) (by omega)
    exact R.upd (R.pc.keep (S := fun a b => a = 107 ∨ a = 108 ∨ a = 109 ∨ a = 11 ∨ a = 23 ∨ (a = 35 ∧ b < 2) ∨ (36 ≤ a ∧ a ≤ 39)) (fun a b hs => D1 a b (by omega) (by omega) (by omega) (by omega) (by omega) (by omega)) (by decide)) (fun a b hab => D1 a b (by omega) (by omega) (by omega) (by omega) (by omega) (by omega)) (R.pm.keep (S := fun a b => a = 13 ∨ a = 14 ∨ a = 15 ∨ a = 17) (fun a b hs => eM a b (by omega) (by omega) (by omega) (by omega)) (by decide)) (by rw [eM _ _ (by omega) (by omega) (by omega) (by omega)]; exact R.th) (fun a b hab => eM a b (by omega) (by omega) (by omega) (by omega)) (R.lr.of (fun a b h1 h2 => D1 a b (by omega) (by omega) (by omega) (by omega) (by omega) (by omega)) (fun i hi => e15 i (by omega))) (R.gr.of R.sg.f1 (fun a b h1 h2 => D1 a b (by omega) (by omega) (by omega) (by omega) (by omega) (by omega)) (fun i _ hi => e15 i (by omega))) (R.sl.of (fun i hi => e15 i (by omega))) (R.sg.of R.fb.n1 (fun i _ hi => e15 i (by omega)) (fun i _ hi => e15 i (by omega))) (R.pr.of (fun a b h1 h2 => D1 a b (by omega) (by omega) (by omega) (by omega) (by omega) (by omega)) (eM _ _ (by omega) (by omega) (by omega) (by omega)) (fun i h1 h2 => e15 i (by omega))) (R.mr.of R.fb.n1 (D1 _ _ (by omega) (by omega) (by omega) (by omega) (by omega) (by omega)) (fun a b h1 h2 => D1 a b (by omega) (by omega) (by omega) (by omega) (by omega) (by omega)) (fun m hm => eM _ _ (by omega) (by omega) (by omega) (by omega)) (fun i h1 h2 => e15 i (by omega)))
