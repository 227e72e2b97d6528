/-! the dog's way: all tries -/
set_option maxRecDepth 100000 in theorem take_s : ∀ d, gGX12_tries (d + 1) 0 = runB 7 (bX12_tries (gGX12_tries d)) := fun _ => rfl
set_option maxRecDepth 100000 in theorem r_tries {μ : Mem} {n P M N W b : Nat} {f w : Nat → Int} (p : PM μ) (B : FB (μ 6) n P M) (L : LQs μ N) (hw0 : μ 15 0 = (W : Int)) (hw2 : W < 4096) (hb : b < n) (hf : ∀ m, 1 ≤ f m ∧ f m ≤ 99) (hw : ∀ m, 0 ≤ w m ∧ w m ≤ 9999) (ef : ∀ m, m < M → μ 6 (171 + 2 * m + 1) = f m) (ew : ∀ m, m < M → stS_ (μ 6) (μ 15) (LV (μ 7) (μ 8) (μ 6 184) N) n b m = w m) {s : List Nat} (hs : s.Pairwise (prc f w)) (hn : s.Nodup) (hlt : ∀ x ∈ s, x < M) (hall : ∀ x, x < M → x ∈ s) : ∀ (d k : Nat) (m : Mem) (u : Nat) (pre : List Nat), M - k + 1 ≤ d → k ≤ M → pre.length = k → (∀ x ∈ pre, x < M) → (rem s u).length = M - k → u < 64 → TF μ m → (∀ i (hi : i < pre.length), m 20 i = (pre[i] : Int)) → ∃ m', gGX12_tries d 0 shM [(2, rf 0), (0, (b : Int)), (0, (k : Int)), (0, (u : Int))] m = some (0, m') ∧ TF μ m' ∧ (∀ i (hi : i < pre.length), m' 20 i = (pre[i] : Int)) ∧ UPD f w m m' (pre ++ rem s u) := by
  have M1 := B.M1
  intro d
  induction d with
  | zero => intro k m u pre h1; omega
  | succ d ih =>
    intro k m u pre hd hk hp hpl hr hu F hrow
    have pmk : ∀ k : Mem, TF μ k → PM k := fun k F' => p.keep (S := fun x y => x = 13 ∨ x = 14 ∨ x = 20 ∨ x = 21 ∨ (x = 0 ∧ y = 32)) (fun x y hs => F' x y (by omega) (by omega) (by omega) (by omega) (by omega)) (by decide)
    have pm := pmk m F
    have em : ∀ k : Mem, TF μ k → fX12_meadows shM [(2, rf 0)] k = some ((M : Int), k) := fun k F' => by
      have := r_meadows (pmk k F')
      rw [F' 6 2 (by omega) (by omega) (by omega) (by omega) (by omega), B.M0] at this
      exact this
    have emm := em m F
    rw [take_s]
    by_cases ck : k = M
    · subst ck
      have r0 : rem s u = [] := List.eq_nil_of_length_eq_zero (by omega)
      rw [r0, List.append_nil]
      obtain ⟨m1, l1, D1⟩ := r_trySum (g := gGX12_tries d) (u := (u : Int)) p B L hw0 hw2 hb hf hw ef ew F hp hpl hrow
      have F1 : TF μ m1 := fun x y h1 h2 h3 h4 h5 => by rw [D1 x y h1 h2]; exact F x y h1 h2 h3 h4 h5
      have p1 := pmk m1 F1
      have b32 : m1 0 32 = m 0 32 := D1 _ _ (by omega) (by omega)
      by_cases cu : m 0 32 < 0 ∨ cst f w 0 pre < m 0 32
      · generalize hm2 : ud m1 0 32 (cst f w 0 pre) = m2
        have D2 : ∀ x y, ¬ (x = 0 ∧ y = 32) → m2 x y = m1 x y := fun x y h => by rw [← hm2, ud_n h]
        have F2 : TF μ m2 := fun x y h1 h2 h3 h4 h5 => by rw [D2 x y h5]; exact F1 x y h1 h2 h3 h4 h5
        obtain ⟨m3, l3, A3, D3⟩ := r_tryCopy (M := k) (b := b) (g := gGX12_tries d) (u := (u : Int)) (c4 := (pre.map f).sum) (c5 := cst f w 0 pre) (pmk m2 F2) M1
        refine ⟨m3, ?_, fun x y h1 h2 h3 h4 h5 => by rw [D3 x y h4]; exact F2 x y h1 h2 h3 h4 h5, fun i hi => by rw [D3 _ _ (by omega), D2 _ _ (by omega), D1 _ _ (by omega) (by omega)]; exact hrow i hi, .inl ⟨cu, by rw [D3 _ _ (by omega), ← hm2, ud_s], fun i hi => by rw [A3 i (by omega), D2 _ _ (by omega), D1 _ _ (by omega) (by omega)]; exact hrow i hi⟩⟩
        generalize cst f w 0 pre = C at *
        generalize (pre.map f).sum = S at *
        have body : bX12_tries (gGX12_tries d) shM [(2, rf 0), (0, (b : Int)), (0, (k : Int)), (0, (u : Int)), (3, 0), (3, 0), (3, 0)] m = some (1, 0, [(2, rf 0), (0, (b : Int)), (0, (k : Int)), (0, (u : Int)), (0, S), (0, C), (0, (k : Int))], m3) := by
          by_cases c0 : m 0 32 < 0
          · simp -implicitDefEqProofs (disch := omega) [bX12_tries, kX12_tries_0, kX12_tries_1, v_cop, v_c1, v_c2, v_c3, v_c4, v_c5, v_bin, v_bn, v_bn2, v_div, v_dv, v_dv2, v_une, v_un, v_loc, v_num, v_get, v_gt, v_ald, v_al, v_al2, v_len, v_ln, v_rl0, v_rl1, v_rl2, v_rl3, v_rl4, v_rl5, v_cmp, v_cp, v_cp2, v_zC, v_zc, v_con, v_kc, v_and, v_an1, v_an0, v_or, v_or1, v_or0, v_not, v_nt, v_boo, v_bo, v_cnd, v_cd1, v_cd0, v_cnc, v_cc1, v_cc0, v_ev0, v_ev, v_e1, v_e2, v_cve, v_cv, v_cse, v_cs, v_skip, v_seq, v_sq0, v_sq1, v_sqr, v_sts, v_st, v_inc, v_put, v_pt, v_pt2, v_fop, v_fo, v_fo2, v_ast, v_as, v_as2, v_as3, v_aop, v_ao, v_ao2, v_ao3, v_exs, v_ex, v_ifs, v_if1, v_if0, v_ret, v_rt, v_rez, v_rz, v_rev, v_brk, v_sws, v_sw, v_sw2, v_run, v_rb, v_turn, v_tu1, v_tu0, v_tu2, v_tu3, fst1, snd1, Option.map_some, Option.getD_some, enA, en, stE, okb, narV, rf_toNat, rf_nn, List.getElem?_cons_zero, List.getElem?_cons_succ, w32_id, w64_id, ite_t, ite_f, Int.toNat_add, Int.toNat_mul, dec_t, dec_f, sM_0, emm, l1, b32, hm2, l3]
          · simp -implicitDefEqProofs (disch := omega) [bX12_tries, kX12_tries_0, kX12_tries_1, v_cop, v_c1, v_c2, v_c3, v_c4, v_c5, v_bin, v_bn, v_bn2, v_div, v_dv, v_dv2, v_une, v_un, v_loc, v_num, v_get, v_gt, v_ald, v_al, v_al2, v_len, v_ln, v_rl0, v_rl1, v_rl2, v_rl3, v_rl4, v_rl5, v_cmp, v_cp, v_cp2, v_zC, v_zc, v_con, v_kc, v_and, v_an1, v_an0, v_or, v_or1, v_or0, v_not, v_nt, v_boo, v_bo, v_cnd, v_cd1, v_cd0, v_cnc, v_cc1, v_cc0, v_ev0, v_ev, v_e1, v_e2, v_cve, v_cv, v_cse, v_cs, v_skip, v_seq, v_sq0, v_sq1, v_sqr, v_sts, v_st, v_inc, v_put, v_pt, v_pt2, v_fop, v_fo, v_fo2, v_ast, v_as, v_as2, v_as3, v_aop, v_ao, v_ao2, v_ao3, v_exs, v_ex, v_ifs, v_if1, v_if0, v_ret, v_rt, v_rez, v_rz, v_rev, v_brk, v_sws, v_sw, v_sw2, v_run, v_rb, v_turn, v_tu1, v_tu0, v_tu2, v_tu3, fst1, snd1, Option.map_some, Option.getD_some, enA, en, stE, okb, narV, rf_toNat, rf_nn, List.getElem?_cons_zero, List.getElem?_cons_succ, w32_id, w64_id, ite_t, ite_f, Int.toNat_add, Int.toNat_mul, dec_t, dec_f, sM_0, emm, l1, b32, hm2, l3]
        simp -implicitDefEqProofs (disch := omega) [v_cop, v_c1, v_c2, v_c3, v_c4, v_c5, v_bin, v_bn, v_bn2, v_div, v_dv, v_dv2, v_une, v_un, v_loc, v_num, v_get, v_gt, v_ald, v_al, v_al2, v_len, v_ln, v_rl0, v_rl1, v_rl2, v_rl3, v_rl4, v_rl5, v_cmp, v_cp, v_cp2, v_zC, v_zc, v_con, v_kc, v_and, v_an1, v_an0, v_or, v_or1, v_or0, v_not, v_nt, v_boo, v_bo, v_cnd, v_cd1, v_cd0, v_cnc, v_cc1, v_cc0, v_ev0, v_ev, v_e1, v_e2, v_cve, v_cv, v_cse, v_cs, v_skip, v_seq, v_sq0, v_sq1, v_sqr, v_sts, v_st, v_inc, v_put, v_pt, v_pt2, v_fop, v_fo, v_fo2, v_ast, v_as, v_as2, v_as3, v_aop, v_ao, v_ao2, v_ao3, v_exs, v_ex, v_ifs, v_if1, v_if0, v_ret, v_rt, v_rez, v_rz, v_rev, v_brk, v_sws, v_sw, v_sw2, v_run, v_rb, v_turn, v_tu1, v_tu0, v_tu2, v_tu3, fst1, snd1, Option.map_some, Option.getD_some, enA, en, stE, okb, narV, rf_toNat, rf_nn, List.getElem?_cons_zero, List.getElem?_cons_succ, w32_id, w64_id, ite_t, ite_f, Int.toNat_add, Int.toNat_mul, dec_t, dec_f, body]
      · refine ⟨m1, ?_, F1, fun i hi => by rw [D1 _ _ (by omega) (by omega)]; exact hrow i hi, .inr ⟨cu, b32, fun i => D1 _ _ (by omega) (by omega)⟩⟩
        generalize cst f w 0 pre = C at *
        generalize (pre.map f).sum = S at *
        have body : bX12_tries (gGX12_tries d) shM [(2, rf 0), (0, (b : Int)), (0, (k : Int)), (0, (u : Int)), (3, 0), (3, 0), (3, 0)] m = some (1, 0, [(2, rf 0), (0, (b : Int)), (0, (k : Int)), (0, (u : Int)), (0, S), (0, C), (0, (k : Int))], m1) := by
          simp -implicitDefEqProofs (disch := omega) [bX12_tries, kX12_tries_0, v_cop, v_c1, v_c2, v_c3, v_c4, v_c5, v_bin, v_bn, v_bn2, v_div, v_dv, v_dv2, v_une, v_un, v_loc, v_num, v_get, v_gt, v_ald, v_al, v_al2, v_len, v_ln, v_rl0, v_rl1, v_rl2, v_rl3, v_rl4, v_rl5, v_cmp, v_cp, v_cp2, v_zC, v_zc, v_con, v_kc, v_and, v_an1, v_an0, v_or, v_or1, v_or0, v_not, v_nt, v_boo, v_bo, v_cnd, v_cd1, v_cd0, v_cnc, v_cc1, v_cc0, v_ev0, v_ev, v_e1, v_e2, v_cve, v_cv, v_cse, v_cs, v_skip, v_seq, v_sq0, v_sq1, v_sqr, v_sts, v_st, v_inc, v_put, v_pt, v_pt2, v_fop, v_fo, v_fo2, v_ast, v_as, v_as2, v_as3, v_aop, v_ao, v_ao2, v_ao3, v_exs, v_ex, v_ifs, v_if1, v_if0, v_ret, v_rt, v_rez, v_rz, v_rev, v_brk, v_sws, v_sw, v_sw2, v_run, v_rb, v_turn, v_tu1, v_tu0, v_tu2, v_tu3, fst1, snd1, Option.map_some, Option.getD_some, enA, en, stE, okb, narV, rf_toNat, rf_nn, List.getElem?_cons_zero, List.getElem?_cons_succ, w32_id, w64_id, ite_t, ite_f, Int.toNat_add, Int.toNat_mul, dec_t, dec_f, sM_0, emm, l1, b32]
        simp -implicitDefEqProofs (disch := omega) [v_cop, v_c1, v_c2, v_c3, v_c4, v_c5, v_bin, v_bn, v_bn2, v_div, v_dv, v_dv2, v_une, v_un, v_loc, v_num, v_get, v_gt, v_ald, v_al, v_al2, v_len, v_ln, v_rl0, v_rl1, v_rl2, v_rl3, v_rl4, v_rl5, v_cmp, v_cp, v_cp2, v_zC, v_zc, v_con, v_kc, v_and, v_an1, v_an0, v_or, v_or1, v_or0, v_not, v_nt, v_boo, v_bo, v_cnd, v_cd1, v_cd0, v_cnc, v_cc1, v_cc0, v_ev0, v_ev, v_e1, v_e2, v_cve, v_cv, v_cse, v_cs, v_skip, v_seq, v_sq0, v_sq1, v_sqr, v_sts, v_st, v_inc, v_put, v_pt, v_pt2, v_fop, v_fo, v_fo2, v_ast, v_as, v_as2, v_as3, v_aop, v_ao, v_ao2, v_ao3, v_exs, v_ex, v_ifs, v_if1, v_if0, v_ret, v_rt, v_rez, v_rz, v_rev, v_brk, v_sws, v_sw, v_sw2, v_run, v_rb, v_turn, v_tu1, v_tu0, v_tu2, v_tu3, fst1, snd1, Option.map_some, Option.getD_some, enA, en, stE, okb, narV, rf_toNat, rf_nn, List.getElem?_cons_zero, List.getElem?_cons_succ, w32_id, w64_id, ite_t, ite_f, Int.toNat_add, Int.toNat_mul, dec_t, dec_f, body]
    · obtain ⟨s0, R, h0⟩ : ∃ s0 R, rem s u = s0 :: R := by
        cases hx : rem s u with
        | nil => rw [hx] at hr; simp at hr; omega
        | cons a R => exact ⟨a, R, rfl⟩
      have cn : 0 ≤ cst f w 0 (pre ++ rem s u) := cst_nn (fun m => by have := hf m; omega) (fun m => (hw m).1) _ 0 (by omega)
      have s0M : s0 < M := hlt s0 (List.mem_filter.mp (show s0 ∈ rem s u by rw [h0]; exact List.mem_cons_self)).1
      have cost : ∀ j, j ∈ rem s u → cst f w 0 (pre ++ rem s u) ≤ cst f w 0 ((pre ++ [j]) ++ rem s (u ||| 2 ^ j)) ∧ (j < s0 → cst f w 0 (pre ++ rem s u) < cst f w 0 ((pre ++ [j]) ++ rem s (u ||| 2 ^ j))) := by
        intro j hj
        have := best_first (f := f) (w := w) (fun m => (hf m).1) hs hn h0 hj (0 + (pre.map f).sum)
        rw [List.append_assoc, cst_app pre, cst_app pre]
        exact ⟨by have := this.1; simp only [List.singleton_append]; omega, fun z => by have := this.2 z; simp only [List.singleton_append]; omega⟩
      obtain ⟨env', m', lp, ⟨e0, F', hrow', BS⟩⟩ := loop_n (kb := 6) (kc := 7) (c := kX12_tries_2c (gGX12_tries d)) (body := kX12_tries_2b (gGX12_tries d)) (upd := kX12_tries_2u (gGX12_tries d)) (sh := shM) (n := M) (fun j env k' => env = [(2, rf 0), (0, (b : Int)), (0, (k : Int)), (0, (u : Int)), (0, (j : Int)), (3, 0), (3, 0)] ∧ TF μ k' ∧ (∀ i (hi : i < pre.length), k' 20 i = (pre[i] : Int)) ∧ (j ≤ s0 → ((k' 0 32 = m 0 32 ∧ ∀ i, k' 21 i = m 21 i) ∨ (cst f w 0 (pre ++ rem s u) < k' 0 32 ∧ (m 0 32 < 0 ∨ k' 0 32 < m 0 32)))) ∧ (s0 < j → UPD f w m k' (pre ++ rem s u))) (by
        rintro j env k' hj ⟨rfl, F', hrow', hlo, hhi⟩
        have pk := pmk k' F'
        have emk := em k' F'
        have eb := bit_nat (w := u) (b := j) (by omega) (by omega)
        cases hbit : u.testBit j with
        | true =>
          rw [hbit] at eb
          have js : j ≠ s0 := fun z => by
            have : s0 ∈ rem s u := by rw [h0]; exact List.mem_cons_self
            have := (List.mem_filter.mp this).2
            rw [← z, hbit] at this
            cases this
          refine ⟨_, k', ?_, rfl, F', hrow', fun z => hlo (by omega), fun z => hhi (by omega)⟩
          simp -implicitDefEqProofs (disch := omega) [kX12_tries_2c, kX12_tries_2b, kX12_tries_2u, v_cop, v_c1, v_c2, v_c3, v_c4, v_c5, v_bin, v_bn, v_bn2, v_div, v_dv, v_dv2, v_une, v_un, v_loc, v_num, v_get, v_gt, v_ald, v_al, v_al2, v_len, v_ln, v_rl0, v_rl1, v_rl2, v_rl3, v_rl4, v_rl5, v_cmp, v_cp, v_cp2, v_zC, v_zc, v_con, v_kc, v_and, v_an1, v_an0, v_or, v_or1, v_or0, v_not, v_nt, v_boo, v_bo, v_cnd, v_cd1, v_cd0, v_cnc, v_cc1, v_cc0, v_ev0, v_ev, v_e1, v_e2, v_cve, v_cv, v_cse, v_cs, v_skip, v_seq, v_sq0, v_sq1, v_sqr, v_sts, v_st, v_inc, v_put, v_pt, v_pt2, v_fop, v_fo, v_fo2, v_ast, v_as, v_as2, v_as3, v_aop, v_ao, v_ao2, v_ao3, v_exs, v_ex, v_ifs, v_if1, v_if0, v_ret, v_rt, v_rez, v_rz, v_rev, v_brk, v_sws, v_sw, v_sw2, v_run, v_rb, v_turn, v_tu1, v_tu0, v_tu2, v_tu3, fst1, snd1, Option.map_some, Option.getD_some, enA, en, stE, okb, narV, rf_toNat, rf_nn, List.getElem?_cons_zero, List.getElem?_cons_succ, w32_id, w64_id, ite_t, ite_f, Int.toNat_add, Int.toNat_mul, dec_t, dec_f, sM_0, emk, eb]
        | false =>
          rw [hbit] at eb
          have jr : j ∈ rem s u := List.mem_filter.mpr ⟨hall j hj, by rw [hbit]; rfl⟩
          have co := cost j jr
          have lt2 : 2 ^ j < 64 := by
            have : 2 ^ j < 2 ^ 6 := Nat.pow_lt_pow_right (by decide) (by omega)
            omega
          have u2 : u ||| 2 ^ j < 64 := Nat.or_lt_two_pow (n := 6) hu lt2
          have eo : o_ior (u : Int) (o_ishl 1 (j : Int)) = ((u ||| 2 ^ j : Nat) : Int) := by rw [ishl1 (by omega), ior_nat (by omega) (by omega)]
          have F2 : TF μ (ud k' 20 k (j : Int)) := fun x y h1 h2 h3 h4 h5 => by rw [ud_c h3]; exact F' x y h1 h2 h3 h4 h5
          have rl : (rem s (u ||| 2 ^ j)).length = M - (k + 1) := by
            rw [rem_bit]
            obtain ⟨A, C, e⟩ := List.append_of_mem jr
            have hd' : (rem s u).Nodup := hn.filter _
            rw [e] at hd' hr ⊢
            rw [filt_ne hd']
            simp at hr ⊢
            omega
          obtain ⟨k2, t1, F3, hrow3, up⟩ := ih (k + 1) (ud k' 20 k (j : Int)) (u ||| 2 ^ j) (pre ++ [j]) (by omega) (by omega) (by rw [List.length_append, List.length_singleton]; omega) (fun x hx => by
            rcases List.mem_append.mp hx with z | z
            · exact hpl x z
            · rw [List.mem_singleton.mp z]; exact hj) rl u2 F2 (fun i hi => by
            rw [List.length_append, List.length_singleton] at hi
            by_cases c : i = k
            · subst c
              rw [ud_s, List.getElem_append_right (by omega)]
              simp [hp]
            · rw [ud_j c, List.getElem_append_left (by omega)]
              exact hrow' i (by omega))
          rw [show ((k + 1 : Nat) : Int) = (k : Int) + 1 by omega] at t1
          have b32 : ud k' 20 k (j : Int) 0 32 = k' 0 32 := ud_c (by omega)
          have b21 : ∀ i, ud k' 20 k (j : Int) 21 i = k' 21 i := fun i => ud_c (by omega)
          have rowk : ∀ i (hi : i < pre.length), k2 20 i = (pre[i] : Int) := fun i hi => by
            rw [hrow3 i (by rw [List.length_append]; omega), List.getElem_append_left hi]
          have turn : turnS 6 7 (kX12_tries_2c (gGX12_tries d)) (kX12_tries_2b (gGX12_tries d)) (kX12_tries_2u (gGX12_tries d)) shM [(2, rf 0), (0, (b : Int)), (0, (k : Int)), (0, (u : Int)), (0, (j : Int)), (3, 0), (3, 0)] k' = some (.inl ([(2, rf 0), (0, (b : Int)), (0, (k : Int)), (0, (u : Int)), (0, ((j + 1 : Nat) : Int)), (3, 0), (3, 0)], k2)) := by
            generalize ((u ||| 2 ^ j : Nat) : Int) = UU at *
            simp -implicitDefEqProofs (disch := omega) [kX12_tries_2c, kX12_tries_2b, kX12_tries_2u, v_cop, v_c1, v_c2, v_c3, v_c4, v_c5, v_bin, v_bn, v_bn2, v_div, v_dv, v_dv2, v_une, v_un, v_loc, v_num, v_get, v_gt, v_ald, v_al, v_al2, v_len, v_ln, v_rl0, v_rl1, v_rl2, v_rl3, v_rl4, v_rl5, v_cmp, v_cp, v_cp2, v_zC, v_zc, v_con, v_kc, v_and, v_an1, v_an0, v_or, v_or1, v_or0, v_not, v_nt, v_boo, v_bo, v_cnd, v_cd1, v_cd0, v_cnc, v_cc1, v_cc0, v_ev0, v_ev, v_e1, v_e2, v_cve, v_cv, v_cse, v_cs, v_skip, v_seq, v_sq0, v_sq1, v_sqr, v_sts, v_st, v_inc, v_put, v_pt, v_pt2, v_fop, v_fo, v_fo2, v_ast, v_as, v_as2, v_as3, v_aop, v_ao, v_ao2, v_ao3, v_exs, v_ex, v_ifs, v_if1, v_if0, v_ret, v_rt, v_rez, v_rz, v_rev, v_brk, v_sws, v_sw, v_sw2, v_run, v_rb, v_turn, v_tu1, v_tu0, v_tu2, v_tu3, fst1, snd1, Option.map_some, Option.getD_some, enA, en, stE, okb, narV, rf_toNat, rf_nn, List.getElem?_cons_zero, List.getElem?_cons_succ, w32_id, w64_id, ite_t, ite_f, Int.toNat_add, Int.toNat_mul, dec_t, dec_f, sM_0, sM_20, emk, eb, pk.p30, eo, t1]
          refine ⟨_, k2, turn, rfl, F3, rowk, fun z => ?_, fun z => ?_⟩
          · have hlo := hlo (by omega)
            have clt := co.2 (by omega)
            rcases up with ⟨c1, c2, -⟩ | ⟨c1, c2, c3⟩
            · rw [b32] at c1
              refine .inr ⟨by rw [c2]; exact clt, ?_⟩
              rw [c2]
              rcases hlo with ⟨z1, -⟩ | ⟨z1, z2⟩ <;> omega
            · rw [b32] at c1 c2
              rcases hlo with ⟨z1, z2⟩ | ⟨z1, z2⟩
              · exact .inl ⟨by rw [c2]; exact z1, fun i => by rw [c3, b21]; exact z2 i⟩
              · exact .inr ⟨by rw [c2]; exact z1, by rw [c2]; exact z2⟩
          · by_cases cs : j = s0
            · subst cs
              have hlo := hlo (Nat.le_refl _)
              have e1 : (pre ++ [j]) ++ rem s (u ||| 2 ^ j) = pre ++ rem s u := by
                have : rem s (u ||| 2 ^ j) = R := by
                  rw [rem_bit, h0]
                  have hd' : (rem s u).Nodup := hn.filter _
                  rw [h0] at hd'
                  exact filt_ne (A := []) hd'
                rw [this, h0, List.append_assoc, List.singleton_append]
              rw [e1] at up
              rcases up with ⟨c1, c2, c3⟩ | ⟨c1, c2, c3⟩
              · rw [b32] at c1
                refine .inl ⟨?_, c2, c3⟩
                rcases hlo with ⟨z1, -⟩ | ⟨z1, z2⟩ <;> omega
              · rw [b32] at c1 c2
                rcases hlo with ⟨z1, z2⟩ | ⟨z1, z2⟩
                · refine .inr ⟨by rw [← z1]; exact c1, by rw [c2]; exact z1, fun i => by rw [c3, b21]; exact z2 i⟩
                · omega
            · have hhi := hhi (by omega)
              have cle := co.1
              rcases hhi with ⟨c1, c2, c3⟩ | ⟨c1, c2, c3⟩
              · rcases up with ⟨d1, d2, -⟩ | ⟨d1, d2, d3⟩
                · rw [b32] at d1
                  omega
                · rw [b32] at d2
                  exact .inl ⟨c1, by rw [d2]; exact c2, fun i hi => by rw [d3, b21]; exact c3 i hi⟩
              · rcases up with ⟨d1, d2, -⟩ | ⟨d1, d2, d3⟩
                · rw [b32] at d1
                  omega
                · rw [b32] at d2
                  exact .inr ⟨c1, by rw [d2]; exact c2, fun i => by rw [d3, b21]; exact c3 i⟩) (by
        rintro env k' ⟨rfl, F', -⟩
        have emk := em k' F'
        simp -implicitDefEqProofs (disch := omega) [kX12_tries_2c, v_cop, v_c1, v_c2, v_c3, v_c4, v_c5, v_bin, v_bn, v_bn2, v_div, v_dv, v_dv2, v_une, v_un, v_loc, v_num, v_get, v_gt, v_ald, v_al, v_al2, v_len, v_ln, v_rl0, v_rl1, v_rl2, v_rl3, v_rl4, v_rl5, v_cmp, v_cp, v_cp2, v_zC, v_zc, v_con, v_kc, v_and, v_an1, v_an0, v_or, v_or1, v_or0, v_not, v_nt, v_boo, v_bo, v_cnd, v_cd1, v_cd0, v_cnc, v_cc1, v_cc0, v_ev0, v_ev, v_e1, v_e2, v_cve, v_cv, v_cse, v_cs, v_skip, v_seq, v_sq0, v_sq1, v_sqr, v_sts, v_st, v_inc, v_put, v_pt, v_pt2, v_fop, v_fo, v_fo2, v_ast, v_as, v_as2, v_as3, v_aop, v_ao, v_ao2, v_ao3, v_exs, v_ex, v_ifs, v_if1, v_if0, v_ret, v_rt, v_rez, v_rz, v_rev, v_brk, v_sws, v_sw, v_sw2, v_run, v_rb, v_turn, v_tu1, v_tu0, v_tu2, v_tu3, fst1, snd1, Option.map_some, Option.getD_some, enA, en, stE, okb, narV, rf_toNat, rf_nn, List.getElem?_cons_zero, List.getElem?_cons_succ, w32_id, w64_id, ite_t, ite_f, Int.toNat_add, Int.toNat_mul, dec_t, dec_f, sM_0, emk]) (env := [(2, rf 0), (0, (b : Int)), (0, (k : Int)), (0, (u : Int)), (0, 0), (3, 0), (3, 0)]) (μ := m) ⟨rfl, F, hrow, fun _ => .inl ⟨rfl, fun _ => rfl⟩, fun z => by omega⟩
      subst e0
      refine ⟨m', ?_, F', hrow', BS.2 (by omega)⟩
      have ck' : ¬ k = M := ck
      have body : bX12_tries (gGX12_tries d) shM [(2, rf 0), (0, (b : Int)), (0, (k : Int)), (0, (u : Int)), (3, 0), (3, 0), (3, 0)] m = some (1, 0, [(2, rf 0), (0, (b : Int)), (0, (k : Int)), (0, (u : Int)), (0, (M : Int)), (3, 0), (3, 0)], m') := by
        simp -implicitDefEqProofs (disch := omega) [bX12_tries, kX12_tries_2, v_cop, v_c1, v_c2, v_c3, v_c4, v_c5, v_bin, v_bn, v_bn2, v_div, v_dv, v_dv2, v_une, v_un, v_loc, v_num, v_get, v_gt, v_ald, v_al, v_al2, v_len, v_ln, v_rl0, v_rl1, v_rl2, v_rl3, v_rl4, v_rl5, v_cmp, v_cp, v_cp2, v_zC, v_zc, v_con, v_kc, v_and, v_an1, v_an0, v_or, v_or1, v_or0, v_not, v_nt, v_boo, v_bo, v_cnd, v_cd1, v_cd0, v_cnc, v_cc1, v_cc0, v_ev0, v_ev, v_e1, v_e2, v_cve, v_cv, v_cse, v_cs, v_skip, v_seq, v_sq0, v_sq1, v_sqr, v_sts, v_st, v_inc, v_put, v_pt, v_pt2, v_fop, v_fo, v_fo2, v_ast, v_as, v_as2, v_as3, v_aop, v_ao, v_ao2, v_ao3, v_exs, v_ex, v_ifs, v_if1, v_if0, v_ret, v_rt, v_rez, v_rz, v_rev, v_brk, v_sws, v_sw, v_sw2, v_run, v_rb, v_turn, v_tu1, v_tu0, v_tu2, v_tu3, fst1, snd1, Option.map_some, Option.getD_some, enA, en, stE, okb, narV, rf_toNat, rf_nn, List.getElem?_cons_zero, List.getElem?_cons_succ, w32_id, w64_id, ite_t, ite_f, Int.toNat_add, Int.toNat_mul, dec_t, dec_f, sM_0, emm, lp]
      simp -implicitDefEqProofs (disch := omega) [v_cop, v_c1, v_c2, v_c3, v_c4, v_c5, v_bin, v_bn, v_bn2, v_div, v_dv, v_dv2, v_une, v_un, v_loc, v_num, v_get, v_gt, v_ald, v_al, v_al2, v_len, v_ln, v_rl0, v_rl1, v_rl2, v_rl3, v_rl4, v_rl5, v_cmp, v_cp, v_cp2, v_zC, v_zc, v_con, v_kc, v_and, v_an1, v_an0, v_or, v_or1, v_or0, v_not, v_nt, v_boo, v_bo, v_cnd, v_cd1, v_cd0, v_cnc, v_cc1, v_cc0, v_ev0, v_ev, v_e1, v_e2, v_cve, v_cv, v_cse, v_cs, v_skip, v_seq, v_sq0, v_sq1, v_sqr, v_sts, v_st, v_inc, v_put, v_pt, v_pt2, v_fop, v_fo, v_fo2, v_ast, v_as, v_as2, v_as3, v_aop, v_ao, v_ao2, v_ao3, v_exs, v_ex, v_ifs, v_if1, v_if0, v_ret, v_rt, v_rez, v_rz, v_rev, v_brk, v_sws, v_sw, v_sw2, v_run, v_rb, v_turn, v_tu1, v_tu0, v_tu2, v_tu3, fst1, snd1, Option.map_some, Option.getD_some, enA, en, stE, okb, narV, rf_toNat, rf_nn, List.getElem?_cons_zero, List.getElem?_cons_succ, w32_id, w64_id, ite_t, ite_f, Int.toNat_add, Int.toNat_mul, dec_t, dec_f, body]
