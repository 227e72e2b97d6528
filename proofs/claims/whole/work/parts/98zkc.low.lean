/-! in lowest terms: the class's answer -/
set_option maxRecDepth 100000 in theorem c_lowest {sh : Shp} {μ : Mem} {s a b : Nat} (hs : s < 2147483648) (ha : a < 2147483648) (hb : b < 2147483648) (hg : 0 < b) : fX11_lowest sh [(1, (s : Int)), (1, (a : Int)), (1, (b : Int))] μ = some (((s / Nat.gcd a b : Nat) : Int), μ) := by
  have gp : 0 < Nat.gcd a b := Nat.gcd_pos_of_pos_right a hg
  obtain ⟨r, lp, t0, t1, hr⟩ := loop_up (kb := 2) (kc := 3) (c := kX11_lowest_0c) (body := kX11_lowest_0b) (upd := kX11_lowest_0u) (sh := sh) (n := 100) (fun j env m => (∃ (x y : Nat) (t11 t12 : Vl), (t11, t12) = ((3, 0), (3, 0)) ∧ j = 0 ∧ env = [(1, (s : Int)), (3, 0), (1, (a : Int)), (3, 0), (1, (b : Int)), (3, 0), (1, (x : Int)), (3, 0), (1, (y : Int)), (3, 0), (0, (j : Int)), t11, t12] ∧ m = μ ∧ x = a ∧ y = b) ∨ ∃ (x y : Nat) (v : Int), 0 < j ∧ env = [(1, (s : Int)), (3, 0), (1, (a : Int)), (3, 0), (1, (b : Int)), (3, 0), (1, (x : Int)), (3, 0), (1, (y : Int)), (3, 0), (0, (j : Int)), (1, v), (3, 0)] ∧ m = μ ∧ x < 2147483648 ∧ y < x ∧ Nat.gcd x y = Nat.gcd a b ∧ x * 2 ^ ((j - 1) / 2) ≤ 2147483648 ∧ (j % 2 = 0 → y * 2 ^ (j / 2) ≤ 2147483648)) (fun r => ∃ (t0 : Vl) (t1 : List Vl), r = (0, 0, [(1, (s : Int)), (3, 0), (1, (a : Int)), (3, 0), (1, (b : Int)), (3, 0), (1, ((Nat.gcd a b : Nat) : Int)), (3, 0), (1, 0), (3, 0), t0] ++ t1, μ)) (by
    rintro j env m hj h
    have key := low_key (sh := sh) (m := m) (s := s) (a := a) (b := b) (j := j)
    have fin := low_fin (sh := sh) (m := m) (s := s) (a := a) (b := b) (j := j)
    rcases h with ⟨x, y, t11, t12, ht, rfl, rfl, rfl, rfl, rfl⟩ | ⟨x, y, v, h0, rfl, rfl, h1, h2, h3, h4, h5⟩
    · cases ht
      have lt : x % y < y := Nat.mod_lt _ hg
      refine .inl ⟨by omega, _, m, key x y (3, 0) (3, 0) (.inr rfl) rfl ha hg hb (by omega), .inr ⟨y, x % y, ((x % y : Nat) : Int), by omega, rfl, rfl, hb, lt, ?_, by simp; omega, fun z => by omega⟩⟩
      rw [Nat.gcd_comm x y, Nat.gcd_rec y x, Nat.gcd_comm]
    · by_cases c : y = 0
      · subst c
        rw [Nat.gcd_zero_right] at h3
        exact .inr ⟨_, fin x (1, v) (3, 0), (0, (j : Int)), [(1, v), (3, 0)], by rw [h3]; rfl⟩
      · have lt : x % y < y := Nat.mod_lt _ (by omega)
        have hm := half_mod (x := x) (y := y) (by omega) (by omega)
        have j100 : j < 100 := by
          refine Classical.byContradiction (fun z => ?_)
          have : j = 100 := by omega
          subst this
          have := h5 (by decide)
          have e : (2 : Nat) ^ (100 / 2) = 1125899906842624 := by decide
          rw [e] at this
          omega
        refine .inl ⟨j100, _, m, key x y (1, v) (3, 0) (.inr rfl) rfl h1 (by omega) (by omega) j100, .inr ⟨y, x % y, ((x % y : Nat) : Int), by omega, by rw [show ((j + 1 : Nat) : Int) = (j : Int) + 1 by omega], rfl, by omega, lt, ?_, ?_, ?_⟩⟩
        · rw [← h3, Nat.gcd_comm x y, Nat.gcd_rec y x, Nat.gcd_comm]
        · rw [Nat.add_sub_cancel]
          rcases Nat.mod_two_eq_zero_or_one j with z | z
          · exact h5 z
          · have : y * 2 ^ (j / 2) ≤ x * 2 ^ (j / 2) := Nat.mul_le_mul_right _ (by omega)
            rw [show (j - 1) / 2 = j / 2 by omega] at h4
            omega
        · intro z
          have e : (j + 1) / 2 = (j - 1) / 2 + 1 := by omega
          rw [e, Nat.pow_succ]
          have : (2 * (x % y)) * 2 ^ ((j - 1) / 2) ≤ x * 2 ^ ((j - 1) / 2) := Nat.mul_le_mul_right _ hm
          have e2 : x % y * (2 ^ ((j - 1) / 2) * 2) = (2 * (x % y)) * 2 ^ ((j - 1) / 2) := by
            rw [Nat.mul_comm (2 ^ ((j - 1) / 2)) 2, ← Nat.mul_assoc, Nat.mul_comm (x % y) 2]
          omega) (env := [(1, (s : Int)), (3, 0), (1, (a : Int)), (3, 0), (1, (b : Int)), (3, 0), (1, (a : Int)), (3, 0), (1, (b : Int)), (3, 0), (0, 0), (3, 0), (3, 0)]) (μ := μ) (.inl ⟨a, b, (3, 0), (3, 0), rfl, rfl, rfl, rfl, rfl, rfl⟩)
  subst hr
  have td := tdiv_nat s (Nat.gcd a b)
  have hz : w64 ((s / Nat.gcd a b : Nat) : Int) = ((s / Nat.gcd a b : Nat) : Int) := by
    have : s / Nat.gcd a b ≤ s := Nat.div_le_self _ _
    clear td lp
    generalize s / Nat.gcd a b = Z at *
    exact w64_id ⟨by omega, by omega⟩
  have c : ¬ Nat.gcd a b = 0 := by omega
  generalize Nat.gcd a b = G at *
  generalize ((s / G : Nat) : Int) = R at *
  simp -implicitDefEqProofs (disch := omega) [-w64_id, fX11_lowest, bX11_lowest, kX11_lowest_0, v_cop, v_c1, v_c2, v_c3, v_c4, v_c5, v_bin, v_bn, v_bn2, v_div, v_dv, v_dv2, v_une, v_un, v_loc, v_num, v_get, v_gt, v_ald, v_al, v_al2, v_len, v_ln, v_rl0, v_rl1, v_rl2, v_rl3, v_rl4, v_rl5, v_cmp, v_cp, v_cp2, v_zC, v_zc, v_con, v_kc, v_and, v_an1, v_an0, v_or, v_or1, v_or0, v_not, v_nt, v_boo, v_bo, v_cnd, v_cd1, v_cd0, v_cnc, v_cc1, v_cc0, v_ev0, v_ev, v_e1, v_e2, v_cve, v_cv, v_cse, v_cs, v_skip, v_seq, v_sq0, v_sq1, v_sqr, v_sts, v_st, v_inc, v_put, v_pt, v_pt2, v_fop, v_fo, v_fo2, v_ast, v_as, v_as2, v_as3, v_aop, v_ao, v_ao2, v_ao3, v_exs, v_ex, v_ifs, v_if1, v_if0, v_ret, v_rt, v_rez, v_rz, v_rev, v_brk, v_sws, v_sw, v_sw2, v_run, v_rb, v_turn, v_tu1, v_tu0, v_tu2, v_tu3, fst1, snd1, Option.map_some, Option.getD_some, enA, en, stE, okb, narV, rf_toNat, rf_nn, List.getElem?_cons_zero, List.getElem?_cons_succ, w32_id, w64_id, ite_t, ite_f, Int.toNat_add, Int.toNat_mul, dec_t, dec_f, lp, c, td, hz]
