/-! sets of missing ones: the class's list; fits, fit, sure -/
set_option maxRecDepth 100000 in theorem iand_comm' (a b : Int) : o_iand a b = o_iand b a := by
  unfold o_iand
  rw [opq_eq, opq_eq, Int32.and_comm]
set_option maxRecDepth 100000 in theorem nx_int {l s : Nat} (hl : l < 4096) (hs : s ≤ l) : o_iand (w32 ((s : Int) - (l : Int))) (l : Int) = ((nxN l s : Nat) : Int) := by
  rw [w32_id ⟨by omega, by omega⟩]
  unfold nxN
  by_cases c : s = l
  · rw [if_pos c, c, Int.sub_self, show (0 : Int) = ((0 : Nat) : Int) from rfl, iand_nat (by omega) (by omega), Nat.zero_and]
  · rw [if_neg c, iand_comm', show (s : Int) - (l : Int) = -1 - ((l - s - 1 : Nat) : Int) by omega, iandn_nat (by omega) (by omega)]
    rfl
def wnt (L : List Nat) (x : Int) : Int := if 0 ≤ x then getI L x.toNat else -1
def TK (m : Mem) (L : List Nat) (l : Nat) (x : Int) : Prop := m 110 1 = (L.length : Int) ∧ m 110 2 = ((andL l L : Nat) : Int) ∧ m 110 3 = ((orL L : Nat) : Int) ∧ m 110 4 = wnt L x ∧ ∀ k (hk : k < L.length), k < 16 → m 111 k = (L[k] : Int)
set_option maxRecDepth 100000 in theorem wnt_app {L : List Nat} {s : Nat} {x : Int} : wnt (L ++ [s]) x = if (L.length : Int) = x then (s : Int) else wnt L x := by
  unfold wnt getI
  by_cases c : 0 ≤ x
  · obtain ⟨i, rfl⟩ := Int.eq_ofNat_of_zero_le c
    rw [if_pos c, if_pos c, Int.toNat_natCast]
    by_cases c1 : L.length = i
    · rw [if_pos (by omega), ← c1, List.getElem?_append_right (Nat.le_refl _), Nat.sub_self]
      rfl
    · rw [if_neg (by omega)]
      by_cases c2 : i < L.length
      · rw [List.getElem?_append_left c2]
      · rw [List.getElem?_eq_none (by rw [List.length_append, List.length_singleton]; omega), List.getElem?_eq_none (by omega)]
  · rw [if_neg c, if_neg c, if_neg (by omega)]
set_option maxRecDepth 100000 in theorem c_take {m : Mem} {L : List Nat} {l s : Nat} {x : Int} (p5 : m 110 5 = rf 111) (T : TK m L l x) (hL : L.length < 5000) (hl : andL l L < 4096) (ho : orL L < 4096) (hs : s < 4096) : ∃ m', fX3_take shC [(2, rf 110), (0, (s : Int)), (0, x)] m = some (0, m') ∧ TK m' (L ++ [s]) l x ∧ ∀ a b, a ≠ 111 → ¬ (a = 110 ∧ 1 ≤ b ∧ b < 5) → m' a b = m a b := by
  obtain ⟨t1, t2, t3, t4, t5⟩ := T
  have a1 := iand_nat (a := andL l L) (b := s) (by omega) (by omega)
  have a2 := ior_nat (a := orL L) (b := s) (by omega) (by omega)
  have c1 : andL l (L ++ [s]) = andL l L &&& s := by unfold andL; rw [List.foldl_append]; rfl
  have c2 : orL (L ++ [s]) = orL L ||| s := by unfold orL; rw [List.foldl_append]; rfl
  -- the first sets
  have s1 : ∃ m1, ifS (cmpC 2 (getE 3 1 0 (locE 2 0)) (numE 16)) (astS 100 (getE 3 5 2 (locE 2 0)) (getE 3 1 0 (locE 2 0)) (locE 0 1)) skipS shC [(2, rf 110), (0, (s : Int)), (0, x)] m = some (0, 0, [(2, rf 110), (0, (s : Int)), (0, x)], m1) ∧ (∀ a b, a ≠ 111 → m1 a b = m a b) ∧ (∀ k, k < L.length → m1 111 k = m 111 k) ∧ (L.length < 16 → m1 111 L.length = (s : Int)) := by
    by_cases c : L.length < 16
    · refine ⟨ud m 111 L.length (s : Int), ?_, fun a b h => ud_c h, fun k hk => ud_j (by omega), fun _ => ud_s⟩
      simp -implicitDefEqProofs (disch := omega) [v_cop, v_c1, v_c2, v_c3, v_c4, v_c5, v_bin, v_bn, v_bn2, v_div, v_dv, v_dv2, v_une, v_un, v_loc, v_num, v_get, v_gt, v_ald, v_al, v_al2, v_len, v_ln, v_rl0, v_rl1, v_rl2, v_rl3, v_rl4, v_rl5, v_cmp, v_cp, v_cp2, v_zC, v_zc, v_con, v_kc, v_and, v_an1, v_an0, v_or, v_or1, v_or0, v_not, v_nt, v_boo, v_bo, v_cnd, v_cd1, v_cd0, v_cnc, v_cc1, v_cc0, v_ev0, v_ev, v_e1, v_e2, v_cve, v_cv, v_cse, v_cs, v_skip, v_seq, v_sq0, v_sq1, v_sqr, v_sts, v_st, v_inc, v_put, v_pt, v_pt2, v_fop, v_fo, v_fo2, v_ast, v_as, v_as2, v_as3, v_aop, v_ao, v_ao2, v_ao3, v_exs, v_ex, v_ifs, v_if1, v_if0, v_ret, v_rt, v_rez, v_rz, v_rev, v_brk, v_sws, v_sw, v_sw2, v_run, v_rb, v_turn, v_tu1, v_tu0, v_tu2, v_tu3, fst1, snd1, Option.map_some, Option.getD_some, enA, en, stE, okb, narV, rf_toNat, rf_nn, List.getElem?_cons_zero, List.getElem?_cons_succ, w32_id, w64_id, ite_t, ite_f, Int.toNat_add, Int.toNat_mul, dec_t, dec_f, sC_110, sC_111, t1, p5]
    · refine ⟨m, ?_, fun _ _ _ => rfl, fun _ _ => rfl, fun z => absurd z c⟩
      simp -implicitDefEqProofs (disch := omega) [v_cop, v_c1, v_c2, v_c3, v_c4, v_c5, v_bin, v_bn, v_bn2, v_div, v_dv, v_dv2, v_une, v_un, v_loc, v_num, v_get, v_gt, v_ald, v_al, v_al2, v_len, v_ln, v_rl0, v_rl1, v_rl2, v_rl3, v_rl4, v_rl5, v_cmp, v_cp, v_cp2, v_zC, v_zc, v_con, v_kc, v_and, v_an1, v_an0, v_or, v_or1, v_or0, v_not, v_nt, v_boo, v_bo, v_cnd, v_cd1, v_cd0, v_cnc, v_cc1, v_cc0, v_ev0, v_ev, v_e1, v_e2, v_cve, v_cv, v_cse, v_cs, v_skip, v_seq, v_sq0, v_sq1, v_sqr, v_sts, v_st, v_inc, v_put, v_pt, v_pt2, v_fop, v_fo, v_fo2, v_ast, v_as, v_as2, v_as3, v_aop, v_ao, v_ao2, v_ao3, v_exs, v_ex, v_ifs, v_if1, v_if0, v_ret, v_rt, v_rez, v_rz, v_rev, v_brk, v_sws, v_sw, v_sw2, v_run, v_rb, v_turn, v_tu1, v_tu0, v_tu2, v_tu3, fst1, snd1, Option.map_some, Option.getD_some, enA, en, stE, okb, narV, rf_toNat, rf_nn, List.getElem?_cons_zero, List.getElem?_cons_succ, w32_id, w64_id, ite_t, ite_f, Int.toNat_add, Int.toNat_mul, dec_t, dec_f, sC_110, t1]
  obtain ⟨m1, e1, d1, d2, d3⟩ := s1
  have s2 : ∃ m2, ifS (cmpC 0 (getE 3 1 0 (locE 2 0)) (locE 0 2)) (putS 3 4 0 .int (locE 2 0) (locE 0 1)) skipS shC [(2, rf 110), (0, (s : Int)), (0, x)] m1 = some (0, 0, [(2, rf 110), (0, (s : Int)), (0, x)], m2) ∧ (∀ a b, ¬ (a = 110 ∧ b = 4) → m2 a b = m1 a b) ∧ m2 110 4 = wnt (L ++ [s]) x := by
    have q1 : m1 110 1 = (L.length : Int) := by rw [d1 _ _ (by omega)]; exact t1
    rw [wnt_app]
    by_cases c : (L.length : Int) = x
    · rw [if_pos c]
      refine ⟨ud m1 110 4 (s : Int), ?_, fun a b h => ud_n h, ud_s⟩
      rw [c] at q1
      simp -implicitDefEqProofs (disch := omega) [v_cop, v_c1, v_c2, v_c3, v_c4, v_c5, v_bin, v_bn, v_bn2, v_div, v_dv, v_dv2, v_une, v_un, v_loc, v_num, v_get, v_gt, v_ald, v_al, v_al2, v_len, v_ln, v_rl0, v_rl1, v_rl2, v_rl3, v_rl4, v_rl5, v_cmp, v_cp, v_cp2, v_zC, v_zc, v_con, v_kc, v_and, v_an1, v_an0, v_or, v_or1, v_or0, v_not, v_nt, v_boo, v_bo, v_cnd, v_cd1, v_cd0, v_cnc, v_cc1, v_cc0, v_ev0, v_ev, v_e1, v_e2, v_cve, v_cv, v_cse, v_cs, v_skip, v_seq, v_sq0, v_sq1, v_sqr, v_sts, v_st, v_inc, v_put, v_pt, v_pt2, v_fop, v_fo, v_fo2, v_ast, v_as, v_as2, v_as3, v_aop, v_ao, v_ao2, v_ao3, v_exs, v_ex, v_ifs, v_if1, v_if0, v_ret, v_rt, v_rez, v_rz, v_rev, v_brk, v_sws, v_sw, v_sw2, v_run, v_rb, v_turn, v_tu1, v_tu0, v_tu2, v_tu3, fst1, snd1, Option.map_some, Option.getD_some, enA, en, stE, okb, narV, rf_toNat, rf_nn, List.getElem?_cons_zero, List.getElem?_cons_succ, w32_id, w64_id, ite_t, ite_f, Int.toNat_add, Int.toNat_mul, dec_t, dec_f, sC_110, q1]
    · rw [if_neg c]
      refine ⟨m1, ?_, fun _ _ _ => rfl, by rw [d1 _ _ (by omega)]; exact t4⟩
      simp -implicitDefEqProofs (disch := omega) [v_cop, v_c1, v_c2, v_c3, v_c4, v_c5, v_bin, v_bn, v_bn2, v_div, v_dv, v_dv2, v_une, v_un, v_loc, v_num, v_get, v_gt, v_ald, v_al, v_al2, v_len, v_ln, v_rl0, v_rl1, v_rl2, v_rl3, v_rl4, v_rl5, v_cmp, v_cp, v_cp2, v_zC, v_zc, v_con, v_kc, v_and, v_an1, v_an0, v_or, v_or1, v_or0, v_not, v_nt, v_boo, v_bo, v_cnd, v_cd1, v_cd0, v_cnc, v_cc1, v_cc0, v_ev0, v_ev, v_e1, v_e2, v_cve, v_cv, v_cse, v_cs, v_skip, v_seq, v_sq0, v_sq1, v_sqr, v_sts, v_st, v_inc, v_put, v_pt, v_pt2, v_fop, v_fo, v_fo2, v_ast, v_as, v_as2, v_as3, v_aop, v_ao, v_ao2, v_ao3, v_exs, v_ex, v_ifs, v_if1, v_if0, v_ret, v_rt, v_rez, v_rz, v_rev, v_brk, v_sws, v_sw, v_sw2, v_run, v_rb, v_turn, v_tu1, v_tu0, v_tu2, v_tu3, fst1, snd1, Option.map_some, Option.getD_some, enA, en, stE, okb, narV, rf_toNat, rf_nn, List.getElem?_cons_zero, List.getElem?_cons_succ, w32_id, w64_id, ite_t, ite_f, Int.toNat_add, Int.toNat_mul, dec_t, dec_f, sC_110, q1, c]
  obtain ⟨m2, e2, g1, g2⟩ := s2
  have q1 : m2 110 1 = (L.length : Int) := by rw [g1 _ _ (by omega), d1 _ _ (by omega)]; exact t1
  have q2 : m2 110 2 = ((andL l L : Nat) : Int) := by rw [g1 _ _ (by omega), d1 _ _ (by omega)]; exact t2
  have q3 : m2 110 3 = ((orL L : Nat) : Int) := by rw [g1 _ _ (by omega), d1 _ _ (by omega)]; exact t3
  rw [← c1] at a1
  rw [← c2] at a2
  refine ⟨ud (ud (ud m2 110 2 ((andL l (L ++ [s]) : Nat) : Int)) 110 3 ((orL (L ++ [s]) : Nat) : Int)) 110 1 ((L.length : Int) + 1), ?_, ⟨by rw [ud_s, List.length_append, List.length_singleton]; omega, by rw [ud_j (by omega), ud_j (by omega), ud_s], by rw [ud_j (by omega), ud_s], by rw [ud_j (by omega), ud_j (by omega), ud_j (by omega)]; exact g2, fun k hk hk2 => ?_⟩, fun a b h1 h2 => by rw [ud_n (by omega), ud_n (by omega), ud_n (by omega), g1 _ _ (by omega)]; exact d1 a b h1⟩
  · generalize ((andL l (L ++ [s]) : Nat) : Int) = V1 at *
    generalize ((orL (L ++ [s]) : Nat) : Int) = V2 at *
    generalize ((andL l L : Nat) : Int) = U1 at *
    generalize ((orL L : Nat) : Int) = U2 at *
    have body : bX3_take shC [(2, rf 110), (0, (s : Int)), (0, x)] m = some (1, 0, [(2, rf 110), (0, (s : Int)), (0, x)], ud (ud (ud m2 110 2 V1) 110 3 V2) 110 1 ((L.length : Int) + 1)) := by
      unfold bX3_take
      rw [v_seq, v_seq, e1, v_sq0, v_seq, e2, v_sq0]
      simp -implicitDefEqProofs (disch := omega) [v_cop, v_c1, v_c2, v_c3, v_c4, v_c5, v_bin, v_bn, v_bn2, v_div, v_dv, v_dv2, v_une, v_un, v_loc, v_num, v_get, v_gt, v_ald, v_al, v_al2, v_len, v_ln, v_rl0, v_rl1, v_rl2, v_rl3, v_rl4, v_rl5, v_cmp, v_cp, v_cp2, v_zC, v_zc, v_con, v_kc, v_and, v_an1, v_an0, v_or, v_or1, v_or0, v_not, v_nt, v_boo, v_bo, v_cnd, v_cd1, v_cd0, v_cnc, v_cc1, v_cc0, v_ev0, v_ev, v_e1, v_e2, v_cve, v_cv, v_cse, v_cs, v_skip, v_seq, v_sq0, v_sq1, v_sqr, v_sts, v_st, v_inc, v_put, v_pt, v_pt2, v_fop, v_fo, v_fo2, v_ast, v_as, v_as2, v_as3, v_aop, v_ao, v_ao2, v_ao3, v_exs, v_ex, v_ifs, v_if1, v_if0, v_ret, v_rt, v_rez, v_rz, v_rev, v_brk, v_sws, v_sw, v_sw2, v_run, v_rb, v_turn, v_tu1, v_tu0, v_tu2, v_tu3, fst1, snd1, Option.map_some, Option.getD_some, enA, en, stE, okb, narV, rf_toNat, rf_nn, List.getElem?_cons_zero, List.getElem?_cons_succ, w32_id, w64_id, ite_t, ite_f, Int.toNat_add, Int.toNat_mul, dec_t, dec_f, sC_110, q1, q2, q3, ud_j, a1, a2]
    simp -implicitDefEqProofs (disch := omega) [fX3_take, v_cop, v_c1, v_c2, v_c3, v_c4, v_c5, v_bin, v_bn, v_bn2, v_div, v_dv, v_dv2, v_une, v_un, v_loc, v_num, v_get, v_gt, v_ald, v_al, v_al2, v_len, v_ln, v_rl0, v_rl1, v_rl2, v_rl3, v_rl4, v_rl5, v_cmp, v_cp, v_cp2, v_zC, v_zc, v_con, v_kc, v_and, v_an1, v_an0, v_or, v_or1, v_or0, v_not, v_nt, v_boo, v_bo, v_cnd, v_cd1, v_cd0, v_cnc, v_cc1, v_cc0, v_ev0, v_ev, v_e1, v_e2, v_cve, v_cv, v_cse, v_cs, v_skip, v_seq, v_sq0, v_sq1, v_sqr, v_sts, v_st, v_inc, v_put, v_pt, v_pt2, v_fop, v_fo, v_fo2, v_ast, v_as, v_as2, v_as3, v_aop, v_ao, v_ao2, v_ao3, v_exs, v_ex, v_ifs, v_if1, v_if0, v_ret, v_rt, v_rez, v_rz, v_rev, v_brk, v_sws, v_sw, v_sw2, v_run, v_rb, v_turn, v_tu1, v_tu0, v_tu2, v_tu3, fst1, snd1, Option.map_some, Option.getD_some, enA, en, stE, okb, narV, rf_toNat, rf_nn, List.getElem?_cons_zero, List.getElem?_cons_succ, w32_id, w64_id, ite_t, ite_f, Int.toNat_add, Int.toNat_mul, dec_t, dec_f, body]
  · rw [ud_c (by omega), ud_c (by omega), ud_c (by omega), g1 _ _ (by omega)]
    rw [List.length_append, List.length_singleton] at hk
    by_cases c : k = L.length
    · subst c
      rw [d3 hk2]
      simp
    · rw [d2 k (by omega), t5 k (by omega) hk2, List.getElem_append_left (by omega)]
set_option maxRecDepth 100000 in theorem dl_len {f : Nat → Nat} {p : Nat → Bool} {j : Nat} : (((List.range j).map f).filter p).length ≤ j := by
  have := List.length_filter_le p ((List.range j).map f)
  rw [List.length_map, List.length_range] at this
  exact this
set_option maxRecDepth 100000 in theorem dl_s {f : Nat → Nat} {p : Nat → Bool} (j : Nat) : ((List.range (j + 1)).map f).filter p = ((List.range j).map f).filter p ++ (if p (f j) then [f j] else []) := by
  rw [List.range_succ, List.map_append, List.filter_append, List.map_cons, List.map_nil, List.filter_cons, List.filter_nil]
set_option maxRecDepth 100000 in theorem pc_le : ∀ n x : Nat, pcN n x ≤ n
  | 0, _ => Nat.le_refl 0
  | n + 1, x => by
    rw [pcN_s]
    have := pc_le n (x / 2)
    omega
set_option maxRecDepth 100000 in theorem c_pon2 {μ : Mem} {h n P M f : Nat} {fl st : Nat → Int} (Q : GQ μ h n P M fl st) (hf : st 182 = (f : Int)) (A : ∀ i, i < f → μ 112 i = ((abM fl st n i : Nat) : Int) ∧ μ 113 i = ((neM fl st n i : Nat) : Int)) (l0 : μ 110 0 = ((layM st n : Nat) : Int)) {x : Int} (T : TK μ [] (layM st n) x) : ∃ μ', (∃ e, loopS 6 7 kX3_ponder_2c kX3_ponder_2b kX3_ponder_2u shC [(2, rf 110), (2, rf h), (2, rf 30), (2, rf 40), (0, x), (0, 0), (0, 0)] μ = some (0, 0, e, μ')) ∧ TK μ' (fitL fl st n) (layM st n) x ∧ ∀ a b, a ≠ 111 → ¬ (a = 110 ∧ 1 ≤ b ∧ b < 5) → μ' a b = μ a b := by
  have B := Q.2.2.2.2.2.1
  have n1 := B.n1
  have S := Q.2.2.2.2.2.2.2.2.2.1
  have G := Q.2.2.2.2.2.2.2.2.2.2
  have ll := lay_lt st n
  have p12 : 2 ^ n ≤ 4096 := Nat.pow_le_pow_right (n := 2) (by decide) n1
  have pl := pc_le n (layM st n)
  have eq := fit_dep (fl := fl) (P := P) n1 G S
  have ft : (st 182).toNat = f := by rw [hf, Int.toNat_natCast]
  rw [ft] at eq
  have pp : pcN 16 (layM st n) = pcN n (layM st n) := by
    have := pc_ge n (16 - n) (layM st n) ll
    rw [show n + (16 - n) = 16 by omega] at this
    exact this
  have sh1 : o_ishl 1 ((pcN 16 (layM st n) : Nat) : Int) = ((2 ^ pcN n (layM st n) : Nat) : Int) := by rw [pp]; exact ishl1 (by omega)
  have pN : 2 ^ pcN n (layM st n) ≤ 4096 := Nat.le_trans (Nat.pow_le_pow_right (n := 2) (by decide) pl) p12
  obtain ⟨env', m, lp, ⟨s, h3, h5, T', D⟩⟩ := loop_n (kb := 6) (kc := 7) (c := kX3_ponder_2c) (body := kX3_ponder_2b) (upd := kX3_ponder_2u) (sh := shC) (n := 2 ^ pcN n (layM st n)) (fun j env m => ∃ s : Nat, env = [(2, rf 110), (2, rf h), (2, rf 30), (2, rf 40), (0, x), (0, (s : Int)), (0, (j : Int))] ∧ (j < 2 ^ pcN n (layM st n) → s = dep n (layM st n) j) ∧ TK m (((List.range j).map (dep n (layM st n))).filter (fun g => allN (fun k => hoB fl st n k g) f)) (layM st n) x ∧ ∀ a b, a ≠ 111 → ¬ (a = 110 ∧ 1 ≤ b ∧ b < 5) → m a b = μ a b) (by
    rintro j env m hj ⟨s, rfl, hs, T1, D⟩
    have hs := hs hj
    have Qm := Q.of (μ' := m) (fun a b h1 h2 h3 h4 => D a b h1 (by omega))
    have sub := dep_sub n (layM st n) j
    rw [← hs] at sub
    have sle := sub_le sub
    have l0' : m 110 0 = ((layM st n : Nat) : Int) := by rw [D _ _ (by omega) (by omega)]; exact l0
    have eh := c_holds Qm hf (g := s) (by omega) (fun i hi => by rw [D _ _ (by omega) (by omega), D _ _ (by omega) (by omega)]; exact A i hi)
    have ebm : ∀ m', fJ6_bitCount_0f7a4 shC [(0, ((layM st n : Nat) : Int))] m' = some (((pcN 16 (layM st n) : Nat) : Int), m') := fun m' => f_bitCount (by omega)
    have nx := nx_int (l := layM st n) (s := s) (by omega) sle
    have len := dl_len (f := dep n (layM st n)) (p := fun g => allN (fun k => hoB fl st n k g) f) (j := j)
    have p5 : m 110 5 = rf 111 := Qm.2.2.2.2.1.1
    have lt1 : andL (layM st n) (((List.range j).map (dep n (layM st n))).filter (fun g => allN (fun k => hoB fl st n k g) f)) < 4096 := Nat.lt_of_lt_of_le (andL_lt ll) p12
    have lt2 : orL (((List.range j).map (dep n (layM st n))).filter (fun g => allN (fun k => hoB fl st n k g) f)) < 4096 := by
      refine Nat.lt_of_lt_of_le (orL_lt (n := n) (fun y hy => ?_)) p12
      have := (List.mem_filter.mp hy).1
      obtain ⟨i, -, rfl⟩ := List.mem_map.mp this
      exact Nat.lt_of_le_of_lt (sub_le (dep_sub n (layM st n) i)) ll
    have eds := dl_s (f := dep n (layM st n)) (p := fun g => allN (fun k => hoB fl st n k g) f) j
    have hnx : j + 1 < 2 ^ pcN n (layM st n) → nxN (layM st n) s = dep n (layM st n) (j + 1) := fun hj1 => by rw [hs]; exact (dep_next n (layM st n) j ll hj1).symm
    generalize ((List.range j).map (dep n (layM st n))).filter (fun g => allN (fun k => hoB fl st n k g) f) = L at *
    rw [← hs] at eds
    have hjN : (j : Int) < ((2 ^ pcN n (layM st n) : Nat) : Int) := by omega
    have ebm0 := ebm m
    cases hc : allN (fun k => hoB fl st n k s) f with
    | true =>
      rw [hc] at eh
      obtain ⟨m', e1, T2, D2⟩ := c_take p5 T1 (by omega) lt1 lt2 (s := s) (by omega)
      have l0'' : m' 110 0 = ((layM st n : Nat) : Int) := by rw [D2 _ _ (by omega) (by omega)]; exact l0'
      refine ⟨[(2, rf 110), (2, rf h), (2, rf 30), (2, rf 40), (0, x), (0, ((nxN (layM st n) s : Nat) : Int)), (0, ((j + 1 : Nat) : Int))], m', ?_, nxN (layM st n) s, rfl, hnx, ?_, fun a b h1 h2 => by rw [D2 a b h1 h2]; exact D a b h1 h2⟩
      · generalize ((nxN (layM st n) s : Nat) : Int) = NX at *
        generalize ((pcN 16 (layM st n) : Nat) : Int) = PCX at *
        generalize ((2 ^ pcN n (layM st n) : Nat) : Int) = NN at *
        generalize ((layM st n : Nat) : Int) = LL at *
        simp -implicitDefEqProofs (disch := omega) [-w32_id, kX3_ponder_2c, kX3_ponder_2b, kX3_ponder_2u, v_cop, v_c1, v_c2, v_c3, v_c4, v_c5, v_bin, v_bn, v_bn2, v_div, v_dv, v_dv2, v_une, v_un, v_loc, v_num, v_get, v_gt, v_ald, v_al, v_al2, v_len, v_ln, v_rl0, v_rl1, v_rl2, v_rl3, v_rl4, v_rl5, v_cmp, v_cp, v_cp2, v_zC, v_zc, v_con, v_kc, v_and, v_an1, v_an0, v_or, v_or1, v_or0, v_not, v_nt, v_boo, v_bo, v_cnd, v_cd1, v_cd0, v_cnc, v_cc1, v_cc0, v_ev0, v_ev, v_e1, v_e2, v_cve, v_cv, v_cse, v_cs, v_skip, v_seq, v_sq0, v_sq1, v_sqr, v_sts, v_st, v_inc, v_put, v_pt, v_pt2, v_fop, v_fo, v_fo2, v_ast, v_as, v_as2, v_as3, v_aop, v_ao, v_ao2, v_ao3, v_exs, v_ex, v_ifs, v_if1, v_if0, v_ret, v_rt, v_rez, v_rz, v_rev, v_brk, v_sws, v_sw, v_sw2, v_run, v_rb, v_turn, v_tu1, v_tu0, v_tu2, v_tu3, fst1, snd1, Option.map_some, Option.getD_some, enA, en, stE, okb, narV, rf_toNat, rf_nn, List.getElem?_cons_zero, List.getElem?_cons_succ, w32_id, w64_id, ite_t, ite_f, Int.toNat_add, Int.toNat_mul, dec_t, dec_f, sC_110, l0', l0'', ebm0, sh1, eh, e1, nx]
      · rw [eds, hc]
        exact T2
    | false =>
      rw [hc] at eh
      refine ⟨[(2, rf 110), (2, rf h), (2, rf 30), (2, rf 40), (0, x), (0, ((nxN (layM st n) s : Nat) : Int)), (0, ((j + 1 : Nat) : Int))], m, ?_, nxN (layM st n) s, rfl, hnx, ?_, D⟩
      · generalize ((nxN (layM st n) s : Nat) : Int) = NX at *
        generalize ((pcN 16 (layM st n) : Nat) : Int) = PCX at *
        generalize ((2 ^ pcN n (layM st n) : Nat) : Int) = NN at *
        generalize ((layM st n : Nat) : Int) = LL at *
        simp -implicitDefEqProofs (disch := omega) [-w32_id, kX3_ponder_2c, kX3_ponder_2b, kX3_ponder_2u, v_cop, v_c1, v_c2, v_c3, v_c4, v_c5, v_bin, v_bn, v_bn2, v_div, v_dv, v_dv2, v_une, v_un, v_loc, v_num, v_get, v_gt, v_ald, v_al, v_al2, v_len, v_ln, v_rl0, v_rl1, v_rl2, v_rl3, v_rl4, v_rl5, v_cmp, v_cp, v_cp2, v_zC, v_zc, v_con, v_kc, v_and, v_an1, v_an0, v_or, v_or1, v_or0, v_not, v_nt, v_boo, v_bo, v_cnd, v_cd1, v_cd0, v_cnc, v_cc1, v_cc0, v_ev0, v_ev, v_e1, v_e2, v_cve, v_cv, v_cse, v_cs, v_skip, v_seq, v_sq0, v_sq1, v_sqr, v_sts, v_st, v_inc, v_put, v_pt, v_pt2, v_fop, v_fo, v_fo2, v_ast, v_as, v_as2, v_as3, v_aop, v_ao, v_ao2, v_ao3, v_exs, v_ex, v_ifs, v_if1, v_if0, v_ret, v_rt, v_rez, v_rz, v_rev, v_brk, v_sws, v_sw, v_sw2, v_run, v_rb, v_turn, v_tu1, v_tu0, v_tu2, v_tu3, fst1, snd1, Option.map_some, Option.getD_some, enA, en, stE, okb, narV, rf_toNat, rf_nn, List.getElem?_cons_zero, List.getElem?_cons_succ, w32_id, w64_id, ite_t, ite_f, Int.toNat_add, Int.toNat_mul, dec_t, dec_f, sC_110, l0', ebm0, sh1, eh, nx]
      · rw [eds, hc]
        simpa using T1) (by
    rintro env m ⟨s, rfl, -, -, D⟩
    have l0' : m 110 0 = ((layM st n : Nat) : Int) := by rw [D _ _ (by omega) (by omega)]; exact l0
    have ebm := f_bitCount (sh := shC) (μ := m) (x := layM st n) (by omega)
    generalize ((pcN 16 (layM st n) : Nat) : Int) = PCX at *
    generalize ((layM st n : Nat) : Int) = LL at *
    simp -implicitDefEqProofs (disch := omega) [kX3_ponder_2c, v_cop, v_c1, v_c2, v_c3, v_c4, v_c5, v_bin, v_bn, v_bn2, v_div, v_dv, v_dv2, v_une, v_un, v_loc, v_num, v_get, v_gt, v_ald, v_al, v_al2, v_len, v_ln, v_rl0, v_rl1, v_rl2, v_rl3, v_rl4, v_rl5, v_cmp, v_cp, v_cp2, v_zC, v_zc, v_con, v_kc, v_and, v_an1, v_an0, v_or, v_or1, v_or0, v_not, v_nt, v_boo, v_bo, v_cnd, v_cd1, v_cd0, v_cnc, v_cc1, v_cc0, v_ev0, v_ev, v_e1, v_e2, v_cve, v_cv, v_cse, v_cs, v_skip, v_seq, v_sq0, v_sq1, v_sqr, v_sts, v_st, v_inc, v_put, v_pt, v_pt2, v_fop, v_fo, v_fo2, v_ast, v_as, v_as2, v_as3, v_aop, v_ao, v_ao2, v_ao3, v_exs, v_ex, v_ifs, v_if1, v_if0, v_ret, v_rt, v_rez, v_rz, v_rev, v_brk, v_sws, v_sw, v_sw2, v_run, v_rb, v_turn, v_tu1, v_tu0, v_tu2, v_tu3, fst1, snd1, Option.map_some, Option.getD_some, enA, en, stE, okb, narV, rf_toNat, rf_nn, List.getElem?_cons_zero, List.getElem?_cons_succ, w32_id, w64_id, ite_t, ite_f, Int.toNat_add, Int.toNat_mul, dec_t, dec_f, sC_110, l0', ebm, sh1]) (env := [(2, rf 110), (2, rf h), (2, rf 30), (2, rf 40), (0, x), (0, 0), (0, 0)]) (μ := μ) ⟨0, rfl, fun _ => (dep_zero n _).symm, T, fun _ _ _ _ => rfl⟩
  subst h3
  rw [eq] at T'
  exact ⟨m, ⟨_, lp⟩, T', D⟩
set_option maxRecDepth 100000 in theorem c_ponder {μ : Mem} {h n P M : Nat} {fl st : Nat → Int} (Q : GQ μ h n P M fl st) (x : Int) : ∃ μ', fX3_ponder shC [(2, rf 110), (2, rf h), (2, rf 30), (2, rf 40), (0, x)] μ = some (0, μ') ∧ μ' 110 0 = ((layM st n : Nat) : Int) ∧ TK μ' (fitL fl st n) (layM st n) x ∧ ∀ a b, a ≠ 111 → a ≠ 112 → a ≠ 113 → ¬ (a = 110 ∧ b < 5) → μ' a b = μ a b := by
  have G := Q.2.2.2.2.2.2.2.2.2.2
  obtain ⟨f, hf⟩ := Int.eq_ofNat_of_zero_le G.f0
  try simp only [Int.ofNat_eq_natCast] at hf
  have Q0 := Q.of (μ' := ud μ 110 0 0) (fun a b _ _ _ h4 => ud_n (by omega))
  obtain ⟨m1, l1, A1, D1⟩ := c_pon0 Q0 ud_s x
  have Q1 := Q0.of (μ' := m1) (fun a b _ _ _ h4 => D1 a b (by omega))
  obtain ⟨m2, l2, A2, D2⟩ := c_pon1 Q1 hf x
  have b0 : m2 110 0 = ((layM st n : Nat) : Int) := by rw [D2 _ _ (by omega) (by omega)]; exact A1
  generalize hm3 : ud (ud (ud (ud m2 110 1 0) 110 2 ((layM st n : Nat) : Int)) 110 3 0) 110 4 (-1) = m3
  have D3 : ∀ a b, ¬ (a = 110 ∧ 1 ≤ b ∧ b < 5) → m3 a b = m2 a b := fun a b hab => by rw [← hm3, ud_n (by omega), ud_n (by omega), ud_n (by omega), ud_n (by omega)]
  have Q2 := Q1.of (μ' := m3) (fun a b h1 h2 h3 h4 => by rw [D3 a b (by omega)]; exact D2 a b h2 h3)
  have T3 : TK m3 [] (layM st n) x := by
    refine ⟨?_, ?_, ?_, ?_, fun k hk _ => absurd hk (by simp)⟩
    · rw [← hm3, ud_j (by omega), ud_j (by omega), ud_j (by omega), ud_s]; rfl
    · rw [← hm3, ud_j (by omega), ud_j (by omega), ud_s]; rfl
    · rw [← hm3, ud_j (by omega), ud_s]; rfl
    · rw [← hm3, ud_s]
      unfold wnt getI
      by_cases c : 0 ≤ x
      · rw [if_pos c]; rfl
      · rw [if_neg c]
  obtain ⟨m4, ⟨e, l4⟩, T4, D4⟩ := c_pon2 Q2 hf (fun i hi => by rw [D3 _ _ (by omega), D3 _ _ (by omega)]; exact A2 i hi) (by rw [D3 _ _ (by omega)]; exact b0) T3
  refine ⟨m4, ?_, by rw [D4 _ _ (by omega) (by omega), D3 _ _ (by omega)]; exact b0, T4, fun a b h1 h2 h3 h4 => by rw [D4 a b h1 (by omega), D3 a b (by omega), D2 a b h2 h3, D1 a b (by omega), ud_n (by omega)]⟩
  generalize ((layM st n : Nat) : Int) = LL at *
  have c2 : ud m2 110 1 0 110 0 = LL := by rw [ud_j (by omega)]; exact b0
  simp -implicitDefEqProofs (disch := omega) [fX3_ponder, bX3_ponder, kX3_ponder_0, kX3_ponder_1, kX3_ponder_2, v_cop, v_c1, v_c2, v_c3, v_c4, v_c5, v_bin, v_bn, v_bn2, v_div, v_dv, v_dv2, v_une, v_un, v_loc, v_num, v_get, v_gt, v_ald, v_al, v_al2, v_len, v_ln, v_rl0, v_rl1, v_rl2, v_rl3, v_rl4, v_rl5, v_cmp, v_cp, v_cp2, v_zC, v_zc, v_con, v_kc, v_and, v_an1, v_an0, v_or, v_or1, v_or0, v_not, v_nt, v_boo, v_bo, v_cnd, v_cd1, v_cd0, v_cnc, v_cc1, v_cc0, v_ev0, v_ev, v_e1, v_e2, v_cve, v_cv, v_cse, v_cs, v_skip, v_seq, v_sq0, v_sq1, v_sqr, v_sts, v_st, v_inc, v_put, v_pt, v_pt2, v_fop, v_fo, v_fo2, v_ast, v_as, v_as2, v_as3, v_aop, v_ao, v_ao2, v_ao3, v_exs, v_ex, v_ifs, v_if1, v_if0, v_ret, v_rt, v_rez, v_rz, v_rev, v_brk, v_sws, v_sw, v_sw2, v_run, v_rb, v_turn, v_tu1, v_tu0, v_tu2, v_tu3, fst1, snd1, Option.map_some, Option.getD_some, enA, en, stE, okb, narV, rf_toNat, rf_nn, List.getElem?_cons_zero, List.getElem?_cons_succ, w32_id, w64_id, ite_t, ite_f, Int.toNat_add, Int.toNat_mul, dec_t, dec_f, sC_110, l1, l2, c2, hm3, l4]
set_option maxRecDepth 100000 in theorem R0.gq {μC μM : Mem} {h d n P M : Nat} (R : R0 μC μM h d n P M) : GQ μC h n P M (μM 6) (μM 15) := ⟨by have := R.hd.1; omega, R.pc.fl R.hd, R.pc.ly30, R.pc.fg40, ⟨R.pc.p110_5, R.pc.p110_6, R.pc.p110_7⟩, R.fb, R.fr, R.lr, R.gr, R.sl, R.sg⟩
set_option maxRecDepth 100000 in theorem R0.cls {μC μC' μM : Mem} {h d n P M : Nat} (R : R0 μC μM h d n P M) (e : ∀ a b, ¬ (107 ≤ a ∧ a ≤ 109) → ¬ (a = 110 ∧ b < 5) → ¬ (111 ≤ a ∧ a ≤ 113) → ¬ (a = 114 ∧ b = 0) → ¬ (115 ≤ a ∧ a ≤ 116) → ¬ (a = 117 ∧ b = 3) → ¬ (118 ≤ a ∧ a ≤ 120) → a ≠ h + 8 → a ≠ h + 11 → ¬ (35 ≤ a ∧ a ≤ 39 ∧ ¬ (a = 35 ∧ 2 ≤ b)) → μC' a b = μC a b) : R0 μC' μM h d n P M := by
  have hh := R.hd.1
  exact R.upd (R.pc.keep (S := fun a b => (107 ≤ a ∧ a ≤ 109) ∨ (a = 110 ∧ b < 5) ∨ (111 ≤ a ∧ a ≤ 113) ∨ (a = 114 ∧ b = 0) ∨ (115 ≤ a ∧ a ≤ 116) ∨ (a = 117 ∧ b = 3) ∨ (118 ≤ a ∧ a ≤ 120) ∨ a = 11 ∨ a = 23 ∨ a = 14 ∨ a = 26 ∨ (35 ≤ a ∧ a ≤ 39 ∧ ¬ (a = 35 ∧ 2 ≤ b))) (fun a b hs => e a b (by omega) (by omega) (by omega) (by omega) (by omega) (by omega) (by omega) (by omega) (by omega) (by omega)) (by decide)) (fun a b hab => e a b (by omega) (by omega) (by omega) (by omega) (by omega) (by omega) (by omega) (by omega) (by omega) (by omega)) R.pm R.th (fun _ _ _ => rfl) (R.lr.of (fun a b h1 h2 => e a b (by omega) (by omega) (by omega) (by omega) (by omega) (by omega) (by omega) (by omega) (by omega) (by omega)) (fun _ _ => rfl)) (R.gr.of R.sg.f1 (fun a b h1 h2 => e a b (by omega) (by omega) (by omega) (by omega) (by omega) (by omega) (by omega) (by omega) (by omega) (by omega)) (fun _ _ _ => rfl)) R.sl R.sg (R.pr.of (fun a b h1 h2 => e a b (by omega) (by omega) (by omega) (by omega) (by omega) (by omega) (by omega) (by omega) (by omega) (by omega)) rfl (fun _ _ _ => rfl)) (R.mr.of R.fb.n1 (e _ _ (by omega) (by omega) (by omega) (by omega) (by omega) (by omega) (by omega) (by omega) (by omega) (by omega)) (fun a b h1 h2 => e a b (by omega) (by omega) (by omega) (by omega) (by omega) (by omega) (by omega) (by omega) (by omega) (by omega)) (fun _ _ => rfl) (fun _ _ _ => rfl))
set_option maxRecDepth 100000 in theorem st_fits : STP RR fX11_fits fX12_fits [] := by
  rintro μC μM ⟨h, d, n, P, M, R⟩
  have th := ud_same R.th
  obtain ⟨m, e1, -, T, D⟩ := c_ponder R.gq (-1)
  have e2 := r_find0 R.pm R.fb R.sl R.sg
  have p1 : m 0 9 = rf 110 := by rw [D _ _ (by omega) (by omega) (by omega) (by omega)]; exact R.pc.p0_9
  refine ⟨((fitL (μM 6) (μM 15) n).length : Int), m, μM, ?_, ?_, h, d, n, P, M, R.cls (fun a b _ h2 h3 _ _ _ _ _ _ _ => D a b (by omega) (by omega) (by omega) h2)⟩
  · simp -implicitDefEqProofs (disch := omega) [fX11_fits, bX11_fits, v_cop, v_c1, v_c2, v_c3, v_c4, v_c5, v_bin, v_bn, v_bn2, v_div, v_dv, v_dv2, v_une, v_un, v_loc, v_num, v_get, v_gt, v_ald, v_al, v_al2, v_len, v_ln, v_rl0, v_rl1, v_rl2, v_rl3, v_rl4, v_rl5, v_cmp, v_cp, v_cp2, v_zC, v_zc, v_con, v_kc, v_and, v_an1, v_an0, v_or, v_or1, v_or0, v_not, v_nt, v_boo, v_bo, v_cnd, v_cd1, v_cd0, v_cnc, v_cc1, v_cc0, v_ev0, v_ev, v_e1, v_e2, v_cve, v_cv, v_cse, v_cs, v_skip, v_seq, v_sq0, v_sq1, v_sqr, v_sts, v_st, v_inc, v_put, v_pt, v_pt2, v_fop, v_fo, v_fo2, v_ast, v_as, v_as2, v_as3, v_aop, v_ao, v_ao2, v_ao3, v_exs, v_ex, v_ifs, v_if1, v_if0, v_ret, v_rt, v_rez, v_rz, v_rev, v_brk, v_sws, v_sw, v_sw2, v_run, v_rb, v_turn, v_tu1, v_tu0, v_tu2, v_tu3, fst1, snd1, Option.map_some, Option.getD_some, enA, en, stE, okb, narV, rf_toNat, rf_nn, List.getElem?_cons_zero, List.getElem?_cons_succ, w32_id, w64_id, ite_t, ite_f, Int.toNat_add, Int.toNat_mul, dec_t, dec_f, sC_0, sC_110, R.pc.p0_9, R.pc.p0_4, R.pc.p0_6, R.hd.2.1, e1, p1, T.1]
  · simp -implicitDefEqProofs (disch := omega) [fX12_fits, bX12_fits, v_cop, v_c1, v_c2, v_c3, v_c4, v_c5, v_bin, v_bn, v_bn2, v_div, v_dv, v_dv2, v_une, v_un, v_loc, v_num, v_get, v_gt, v_ald, v_al, v_al2, v_len, v_ln, v_rl0, v_rl1, v_rl2, v_rl3, v_rl4, v_rl5, v_cmp, v_cp, v_cp2, v_zC, v_zc, v_con, v_kc, v_and, v_an1, v_an0, v_or, v_or1, v_or0, v_not, v_nt, v_boo, v_bo, v_cnd, v_cd1, v_cd0, v_cnc, v_cc1, v_cc0, v_ev0, v_ev, v_e1, v_e2, v_cve, v_cv, v_cse, v_cs, v_skip, v_seq, v_sq0, v_sq1, v_sqr, v_sts, v_st, v_inc, v_put, v_pt, v_pt2, v_fop, v_fo, v_fo2, v_ast, v_as, v_as2, v_as3, v_aop, v_ao, v_ao2, v_ao3, v_exs, v_ex, v_ifs, v_if1, v_if0, v_ret, v_rt, v_rez, v_rz, v_rev, v_brk, v_sws, v_sw, v_sw2, v_run, v_rb, v_turn, v_tu1, v_tu0, v_tu2, v_tu3, fst1, snd1, Option.map_some, Option.getD_some, enA, en, stE, okb, narV, rf_toNat, rf_nn, List.getElem?_cons_zero, List.getElem?_cons_succ, w32_id, w64_id, ite_t, ite_f, Int.toNat_add, Int.toNat_mul, dec_t, dec_f, sM_0, th, e2]
set_option maxRecDepth 100000 in theorem st_fit (i : Int) : STP RR fX11_fit fX12_fit [(0, i)] := by
  rintro μC μM ⟨h, d, n, P, M, R⟩
  have th := ud_same R.th
  by_cases c : 0 ≤ i
  · obtain ⟨q, rfl⟩ := Int.eq_ofNat_of_zero_le c
    try simp only [Int.ofNat_eq_natCast] at *
    obtain ⟨m, e1, -, T, D⟩ := c_ponder R.gq (q : Int)
    have e2 := r_find1 R.pm R.fb R.sl R.sg q
    have p1 : m 0 9 = rf 110 := by rw [D _ _ (by omega) (by omega) (by omega) (by omega)]; exact R.pc.p0_9
    have t4 := T.2.2.2.1
    unfold wnt at t4
    rw [if_pos c, Int.toNat_natCast] at t4
    refine ⟨getI (fitL (μM 6) (μM 15) n) q, m, μM, ?_, ?_, h, d, n, P, M, R.cls (fun a b _ h2 h3 _ _ _ _ _ _ _ => D a b (by omega) (by omega) (by omega) h2)⟩
    · simp -implicitDefEqProofs (disch := omega) [fX11_fit, bX11_fit, v_cop, v_c1, v_c2, v_c3, v_c4, v_c5, v_bin, v_bn, v_bn2, v_div, v_dv, v_dv2, v_une, v_un, v_loc, v_num, v_get, v_gt, v_ald, v_al, v_al2, v_len, v_ln, v_rl0, v_rl1, v_rl2, v_rl3, v_rl4, v_rl5, v_cmp, v_cp, v_cp2, v_zC, v_zc, v_con, v_kc, v_and, v_an1, v_an0, v_or, v_or1, v_or0, v_not, v_nt, v_boo, v_bo, v_cnd, v_cd1, v_cd0, v_cnc, v_cc1, v_cc0, v_ev0, v_ev, v_e1, v_e2, v_cve, v_cv, v_cse, v_cs, v_skip, v_seq, v_sq0, v_sq1, v_sqr, v_sts, v_st, v_inc, v_put, v_pt, v_pt2, v_fop, v_fo, v_fo2, v_ast, v_as, v_as2, v_as3, v_aop, v_ao, v_ao2, v_ao3, v_exs, v_ex, v_ifs, v_if1, v_if0, v_ret, v_rt, v_rez, v_rz, v_rev, v_brk, v_sws, v_sw, v_sw2, v_run, v_rb, v_turn, v_tu1, v_tu0, v_tu2, v_tu3, fst1, snd1, Option.map_some, Option.getD_some, enA, en, stE, okb, narV, rf_toNat, rf_nn, List.getElem?_cons_zero, List.getElem?_cons_succ, w32_id, w64_id, ite_t, ite_f, Int.toNat_add, Int.toNat_mul, dec_t, dec_f, sC_0, sC_110, R.pc.p0_9, R.pc.p0_4, R.pc.p0_6, R.hd.2.1, e1, p1, t4]
    · simp -implicitDefEqProofs (disch := omega) [fX12_fit, bX12_fit, v_cop, v_c1, v_c2, v_c3, v_c4, v_c5, v_bin, v_bn, v_bn2, v_div, v_dv, v_dv2, v_une, v_un, v_loc, v_num, v_get, v_gt, v_ald, v_al, v_al2, v_len, v_ln, v_rl0, v_rl1, v_rl2, v_rl3, v_rl4, v_rl5, v_cmp, v_cp, v_cp2, v_zC, v_zc, v_con, v_kc, v_and, v_an1, v_an0, v_or, v_or1, v_or0, v_not, v_nt, v_boo, v_bo, v_cnd, v_cd1, v_cd0, v_cnc, v_cc1, v_cc0, v_ev0, v_ev, v_e1, v_e2, v_cve, v_cv, v_cse, v_cs, v_skip, v_seq, v_sq0, v_sq1, v_sqr, v_sts, v_st, v_inc, v_put, v_pt, v_pt2, v_fop, v_fo, v_fo2, v_ast, v_as, v_as2, v_as3, v_aop, v_ao, v_ao2, v_ao3, v_exs, v_ex, v_ifs, v_if1, v_if0, v_ret, v_rt, v_rez, v_rz, v_rev, v_brk, v_sws, v_sw, v_sw2, v_run, v_rb, v_turn, v_tu1, v_tu0, v_tu2, v_tu3, fst1, snd1, Option.map_some, Option.getD_some, enA, en, stE, okb, narV, rf_toNat, rf_nn, List.getElem?_cons_zero, List.getElem?_cons_succ, w32_id, w64_id, ite_t, ite_f, Int.toNat_add, Int.toNat_mul, dec_t, dec_f, sM_0, th, e2]
  · refine ⟨-1, μC, μM, ?_, ?_, h, d, n, P, M, R⟩
    · simp -implicitDefEqProofs (disch := omega) [fX11_fit, bX11_fit, v_cop, v_c1, v_c2, v_c3, v_c4, v_c5, v_bin, v_bn, v_bn2, v_div, v_dv, v_dv2, v_une, v_un, v_loc, v_num, v_get, v_gt, v_ald, v_al, v_al2, v_len, v_ln, v_rl0, v_rl1, v_rl2, v_rl3, v_rl4, v_rl5, v_cmp, v_cp, v_cp2, v_zC, v_zc, v_con, v_kc, v_and, v_an1, v_an0, v_or, v_or1, v_or0, v_not, v_nt, v_boo, v_bo, v_cnd, v_cd1, v_cd0, v_cnc, v_cc1, v_cc0, v_ev0, v_ev, v_e1, v_e2, v_cve, v_cv, v_cse, v_cs, v_skip, v_seq, v_sq0, v_sq1, v_sqr, v_sts, v_st, v_inc, v_put, v_pt, v_pt2, v_fop, v_fo, v_fo2, v_ast, v_as, v_as2, v_as3, v_aop, v_ao, v_ao2, v_ao3, v_exs, v_ex, v_ifs, v_if1, v_if0, v_ret, v_rt, v_rez, v_rz, v_rev, v_brk, v_sws, v_sw, v_sw2, v_run, v_rb, v_turn, v_tu1, v_tu0, v_tu2, v_tu3, fst1, snd1, Option.map_some, Option.getD_some, enA, en, stE, okb, narV, rf_toNat, rf_nn, List.getElem?_cons_zero, List.getElem?_cons_succ, w32_id, w64_id, ite_t, ite_f, Int.toNat_add, Int.toNat_mul, dec_t, dec_f]
    · simp -implicitDefEqProofs (disch := omega) [fX12_fit, bX12_fit, v_cop, v_c1, v_c2, v_c3, v_c4, v_c5, v_bin, v_bn, v_bn2, v_div, v_dv, v_dv2, v_une, v_un, v_loc, v_num, v_get, v_gt, v_ald, v_al, v_al2, v_len, v_ln, v_rl0, v_rl1, v_rl2, v_rl3, v_rl4, v_rl5, v_cmp, v_cp, v_cp2, v_zC, v_zc, v_con, v_kc, v_and, v_an1, v_an0, v_or, v_or1, v_or0, v_not, v_nt, v_boo, v_bo, v_cnd, v_cd1, v_cd0, v_cnc, v_cc1, v_cc0, v_ev0, v_ev, v_e1, v_e2, v_cve, v_cv, v_cse, v_cs, v_skip, v_seq, v_sq0, v_sq1, v_sqr, v_sts, v_st, v_inc, v_put, v_pt, v_pt2, v_fop, v_fo, v_fo2, v_ast, v_as, v_as2, v_as3, v_aop, v_ao, v_ao2, v_ao3, v_exs, v_ex, v_ifs, v_if1, v_if0, v_ret, v_rt, v_rez, v_rz, v_rev, v_brk, v_sws, v_sw, v_sw2, v_run, v_rb, v_turn, v_tu1, v_tu0, v_tu2, v_tu3, fst1, snd1, Option.map_some, Option.getD_some, enA, en, stE, okb, narV, rf_toNat, rf_nn, List.getElem?_cons_zero, List.getElem?_cons_succ, w32_id, w64_id, ite_t, ite_f, Int.toNat_add, Int.toNat_mul, dec_t, dec_f, sM_0, th]
set_option maxRecDepth 100000 in theorem st_sure (e : Int) (he : e = 0 ∨ e = 1) : STP RR fX11_sure fX12_sure [(0, e)] := by
  rintro μC μM ⟨h, d, n, P, M, R⟩
  have th := ud_same R.th
  have n1 := R.fb.n1
  obtain ⟨m, e1, l0, T, D⟩ := c_ponder R.gq (-1)
  have e2 := r_sure R.pm th R.fb R.sl R.sg e he
  have p1 : m 0 9 = rf 110 := by rw [D _ _ (by omega) (by omega) (by omega) (by omega)]; exact R.pc.p0_9
  obtain ⟨t1, t2, t3, -, -⟩ := T
  have p12 : 2 ^ n ≤ 4096 := Nat.pow_le_pow_right (n := 2) (by decide) n1
  have ll := lay_lt (μM 15) n
  have a2 := orL_lt (n := n) (L := fitL (μM 6) (μM 15) n) (fun x hx => List.mem_range.mp (List.mem_filter.mp hx).1)
  have b3 := iandn_an (a := layM (μM 15) n) (b := orL (fitL (μM 6) (μM 15) n)) (by omega) (by omega)
  refine ⟨_, m, μM, ?_, e2, h, d, n, P, M, R.cls (fun a b _ h2 h3 _ _ _ _ _ _ _ => D a b (by omega) (by omega) (by omega) h2)⟩
  generalize fitL (μM 6) (μM 15) n = L at *
  by_cases c : L.length = 0
  · rw [if_pos c]
    rw [c] at t1
    simp -implicitDefEqProofs (disch := omega) [fX11_sure, bX11_sure, v_cop, v_c1, v_c2, v_c3, v_c4, v_c5, v_bin, v_bn, v_bn2, v_div, v_dv, v_dv2, v_une, v_un, v_loc, v_num, v_get, v_gt, v_ald, v_al, v_al2, v_len, v_ln, v_rl0, v_rl1, v_rl2, v_rl3, v_rl4, v_rl5, v_cmp, v_cp, v_cp2, v_zC, v_zc, v_con, v_kc, v_and, v_an1, v_an0, v_or, v_or1, v_or0, v_not, v_nt, v_boo, v_bo, v_cnd, v_cd1, v_cd0, v_cnc, v_cc1, v_cc0, v_ev0, v_ev, v_e1, v_e2, v_cve, v_cv, v_cse, v_cs, v_skip, v_seq, v_sq0, v_sq1, v_sqr, v_sts, v_st, v_inc, v_put, v_pt, v_pt2, v_fop, v_fo, v_fo2, v_ast, v_as, v_as2, v_as3, v_aop, v_ao, v_ao2, v_ao3, v_exs, v_ex, v_ifs, v_if1, v_if0, v_ret, v_rt, v_rez, v_rz, v_rev, v_brk, v_sws, v_sw, v_sw2, v_run, v_rb, v_turn, v_tu1, v_tu0, v_tu2, v_tu3, fst1, snd1, Option.map_some, Option.getD_some, enA, en, stE, okb, narV, rf_toNat, rf_nn, List.getElem?_cons_zero, List.getElem?_cons_succ, w32_id, w64_id, ite_t, ite_f, Int.toNat_add, Int.toNat_mul, dec_t, dec_f, sC_0, sC_110, R.pc.p0_9, R.pc.p0_4, R.pc.p0_6, R.hd.2.1, e1, p1, t1]
  · rw [if_neg c]
    have c' : ¬ L = [] := fun z => c (by rw [z]; rfl)
    rcases he with rfl | rfl
    · rw [if_neg (by decide)]
      simp -implicitDefEqProofs (disch := omega) [fX11_sure, bX11_sure, v_cop, v_c1, v_c2, v_c3, v_c4, v_c5, v_bin, v_bn, v_bn2, v_div, v_dv, v_dv2, v_une, v_un, v_loc, v_num, v_get, v_gt, v_ald, v_al, v_al2, v_len, v_ln, v_rl0, v_rl1, v_rl2, v_rl3, v_rl4, v_rl5, v_cmp, v_cp, v_cp2, v_zC, v_zc, v_con, v_kc, v_and, v_an1, v_an0, v_or, v_or1, v_or0, v_not, v_nt, v_boo, v_bo, v_cnd, v_cd1, v_cd0, v_cnc, v_cc1, v_cc0, v_ev0, v_ev, v_e1, v_e2, v_cve, v_cv, v_cse, v_cs, v_skip, v_seq, v_sq0, v_sq1, v_sqr, v_sts, v_st, v_inc, v_put, v_pt, v_pt2, v_fop, v_fo, v_fo2, v_ast, v_as, v_as2, v_as3, v_aop, v_ao, v_ao2, v_ao3, v_exs, v_ex, v_ifs, v_if1, v_if0, v_ret, v_rt, v_rez, v_rz, v_rev, v_brk, v_sws, v_sw, v_sw2, v_run, v_rb, v_turn, v_tu1, v_tu0, v_tu2, v_tu3, fst1, snd1, Option.map_some, Option.getD_some, enA, en, stE, okb, narV, rf_toNat, rf_nn, List.getElem?_cons_zero, List.getElem?_cons_succ, w32_id, w64_id, ite_t, ite_f, Int.toNat_add, Int.toNat_mul, dec_t, dec_f, sC_0, sC_110, R.pc.p0_9, R.pc.p0_4, R.pc.p0_6, R.hd.2.1, e1, p1, t1, c', t2]
    · rw [if_pos rfl]
      simp -implicitDefEqProofs (disch := omega) [fX11_sure, bX11_sure, v_cop, v_c1, v_c2, v_c3, v_c4, v_c5, v_bin, v_bn, v_bn2, v_div, v_dv, v_dv2, v_une, v_un, v_loc, v_num, v_get, v_gt, v_ald, v_al, v_al2, v_len, v_ln, v_rl0, v_rl1, v_rl2, v_rl3, v_rl4, v_rl5, v_cmp, v_cp, v_cp2, v_zC, v_zc, v_con, v_kc, v_and, v_an1, v_an0, v_or, v_or1, v_or0, v_not, v_nt, v_boo, v_bo, v_cnd, v_cd1, v_cd0, v_cnc, v_cc1, v_cc0, v_ev0, v_ev, v_e1, v_e2, v_cve, v_cv, v_cse, v_cs, v_skip, v_seq, v_sq0, v_sq1, v_sqr, v_sts, v_st, v_inc, v_put, v_pt, v_pt2, v_fop, v_fo, v_fo2, v_ast, v_as, v_as2, v_as3, v_aop, v_ao, v_ao2, v_ao3, v_exs, v_ex, v_ifs, v_if1, v_if0, v_ret, v_rt, v_rez, v_rz, v_rev, v_brk, v_sws, v_sw, v_sw2, v_run, v_rb, v_turn, v_tu1, v_tu0, v_tu2, v_tu3, fst1, snd1, Option.map_some, Option.getD_some, enA, en, stE, okb, narV, rf_toNat, rf_nn, List.getElem?_cons_zero, List.getElem?_cons_succ, w32_id, w64_id, ite_t, ite_f, Int.toNat_add, Int.toNat_mul, dec_t, dec_f, sC_0, sC_110, R.pc.p0_9, R.pc.p0_4, R.pc.p0_6, R.hd.2.1, e1, p1, t1, c', t3, l0, b3]
