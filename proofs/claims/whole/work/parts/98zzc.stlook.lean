/-! few looks: both -/
set_option maxRecDepth 100000 in theorem pc_full : ∀ K, K ≤ 16 → pcN 16 (2 ^ K - 1) = K := by decide
set_option maxRecDepth 100000 in theorem fit_up {fl st : Nat → Int} {n i j : Nat} (hj : j < (fitL fl st n).length) (hi : i < j) : (fitL fl st n)[i]'(by omega) < (fitL fl st n)[j] := by
  have pw : (fitL fl st n).Pairwise (fun a b => a < b) := List.Pairwise.filter _ List.pairwise_lt_range
  exact (List.pairwise_iff_getElem.mp pw) i j (by omega) hj hi
set_option maxRecDepth 100000 in theorem fit_mem {fl st : Nat → Int} {n x : Nat} (h : x ∈ fitL fl st n) : x < 2 ^ n ∧ ∀ b, x.testBit b = true → 0 ≤ st (14 + b) := by
  obtain ⟨h1, h2⟩ := List.mem_filter.mp h
  refine ⟨List.mem_range.mp h1, fun b hb => ?_⟩
  unfold fitB at h2
  rw [Bool.and_eq_true] at h2
  have h3 := of_decide_eq_true h2.1
  have h4 := sub_bits.mp h3 b hb
  unfold layM at h4
  rw [msk_bit, Bool.and_eq_true] at h4
  have h5 := h4.2
  unfold lyB at h5
  exact of_decide_eq_true h5
set_option maxRecDepth 100000 in theorem c_first1 {μ : Mem} {S : Nat → Nat} {n K : Nat} {G : Nat → Nat} (C : ClkG μ S n K G) (hK : K = 1) (a0 : μ 114 0 = ((2 ^ K - 1 : Nat) : Int)) {m : Mem} (L : ClkS μ S n K m) : ∃ m', fX5_firstPlace shC [(2, rf 114)] m = some (-1, m') ∧ ClkS μ S n K m' := by
  have hr : 2 ^ K - 1 < 2 ^ K := by rw [hK]; decide
  obtain ⟨m1, f1, L1⟩ := c_cf C 16 7 (2 ^ K - 1) 0 m hr (by rw [hK]; decide) (by rw [hK]; decide) L
  rw [show 2 * 16 + 1 + 7 = 40 from rfl, show ((0 : Nat) : Int) = 0 from rfl] at f1
  have z : lkM S n K (2 ^ K - 1) = 0 := by
    rw [lk_eq (by rw [hK]; decide), if_pos (by rw [hK]; decide)]
  rw [z] at f1
  have q : m 114 0 = ((2 ^ K - 1 : Nat) : Int) := by rw [L.1 _ _ (by omega)]; exact a0
  generalize ((2 ^ K - 1 : Nat) : Int) = E at *
  have f1' : fX5_fewest shC [(2, rf 114), (0, E), (0, 0)] m = some (((0 : Nat) : Int), m1) := f1
  have lp := loop_run (kb := 2) (kc := 3) (c := kX5_firstPlace_0c) (body := kX5_firstPlace_0b) (upd := kX5_firstPlace_0u) (sh := shC) (fun _ => [(2, rf 114), (0, 0), (0, 0)]) (fun _ => m1) (r := (0, 0, [(2, rf 114), (0, 0), (0, 0)], m1)) 0 (fun j hj => by omega) (by
    simp -implicitDefEqProofs (disch := omega) [kX5_firstPlace_0c, v_cop, v_c1, v_c2, v_c3, v_c4, v_c5, v_bin, v_bn, v_bn2, v_div, v_dv, v_dv2, v_une, v_un, v_loc, v_num, v_get, v_gt, v_ald, v_al, v_al2, v_len, v_ln, v_rl0, v_rl1, v_rl2, v_rl3, v_rl4, v_rl5, v_cmp, v_cp, v_cp2, v_zC, v_zc, v_con, v_kc, v_and, v_an1, v_an0, v_or, v_or1, v_or0, v_not, v_nt, v_boo, v_bo, v_cnd, v_cd1, v_cd0, v_cnc, v_cc1, v_cc0, v_ev0, v_ev, v_e1, v_e2, v_cve, v_cv, v_cse, v_cs, v_skip, v_seq, v_sq0, v_sq1, v_sqr, v_sts, v_st, v_inc, v_put, v_pt, v_pt2, v_fop, v_fo, v_fo2, v_ast, v_as, v_as2, v_as3, v_aop, v_ao, v_ao2, v_ao3, v_exs, v_ex, v_ifs, v_if1, v_if0, v_ret, v_rt, v_rez, v_rz, v_rev, v_brk, v_sws, v_sw, v_sw2, v_run, v_rb, v_turn, v_tu1, v_tu0, v_tu2, v_tu3, fst1, snd1, Option.map_some, Option.getD_some, enA, en, stE, okb, narV, rf_toNat, rf_nn, List.getElem?_cons_zero, List.getElem?_cons_succ, w32_id, w64_id, ite_t, ite_f, Int.toNat_add, Int.toNat_mul, dec_t, dec_f])
  refine ⟨m1, ?_, L1⟩
  simp -implicitDefEqProofs (disch := omega) [fX5_firstPlace, bX5_firstPlace, kX5_firstPlace_0, v_cop, v_c1, v_c2, v_c3, v_c4, v_c5, v_bin, v_bn, v_bn2, v_div, v_dv, v_dv2, v_une, v_un, v_loc, v_num, v_get, v_gt, v_ald, v_al, v_al2, v_len, v_ln, v_rl0, v_rl1, v_rl2, v_rl3, v_rl4, v_rl5, v_cmp, v_cp, v_cp2, v_zC, v_zc, v_con, v_kc, v_and, v_an1, v_an0, v_or, v_or1, v_or0, v_not, v_nt, v_boo, v_bo, v_cnd, v_cd1, v_cd0, v_cnc, v_cc1, v_cc0, v_ev0, v_ev, v_e1, v_e2, v_cve, v_cv, v_cse, v_cs, v_skip, v_seq, v_sq0, v_sq1, v_sqr, v_sts, v_st, v_inc, v_put, v_pt, v_pt2, v_fop, v_fo, v_fo2, v_ast, v_as, v_as2, v_as3, v_aop, v_ao, v_ao2, v_ao3, v_exs, v_ex, v_ifs, v_if1, v_if0, v_ret, v_rt, v_rez, v_rz, v_rev, v_brk, v_sws, v_sw, v_sw2, v_run, v_rb, v_turn, v_tu1, v_tu0, v_tu2, v_tu3, fst1, snd1, Option.map_some, Option.getD_some, enA, en, stE, okb, narV, rf_toNat, rf_nn, List.getElem?_cons_zero, List.getElem?_cons_succ, w32_id, w64_id, ite_t, ite_f, Int.toNat_add, Int.toNat_mul, dec_t, dec_f, sC_114, q, f1', lp]
set_option maxRecDepth 100000 in theorem st_looks (e : Int) : STP RR fX11_looks fX12_looks [(0, e)] := by
  rintro μC μM ⟨h, d, n, P, M, R⟩
  have th := ud_same R.th
  have n1 := R.fb.n1
  have P2 := R.fb.P2
  obtain ⟨m, e1, -, T, D⟩ := c_ponder R.gq (-1)
  have e2 := r_find0 R.pm R.fb R.sl R.sg
  have p1 : m 0 9 = rf 110 := by rw [D _ _ (by omega) (by omega) (by omega) (by omega)]; exact R.pc.p0_9
  have RC : R0 m μM h d n P M := R.cls (fun a b _ h2 h3 _ _ _ _ _ _ _ => D a b (by omega) (by omega) (by omega) h2)
  have ew := r_within shM (ud μM 0 28 ((fitL (μM 6) (μM 15) n).length : Int)) e 0 1
  have RM1 : ∀ {k : Mem}, R0 k μM h d n P M → R0 k (ud μM 0 28 ((fitL (μM 6) (μM 15) n).length : Int)) h d n P M := fun r => r.ref (fun a b _ _ _ h4 => by rw [ud_n (by omega)])
  have t1 := T.1
  have u28 : ud μM 0 28 ((fitL (μM 6) (μM 15) n).length : Int) 0 28 = ((fitL (μM 6) (μM 15) n).length : Int) := ud_s
  by_cases g : e = 0 ∨ e = 1
  · rw [if_pos (by omega)] at ew
    by_cases g2 : 1 ≤ (fitL (μM 6) (μM 15) n).length ∧ (fitL (μM 6) (μM 15) n).length ≤ 16
    · -- the sets
      have hS0 : ∀ k, k < (fitL (μM 6) (μM 15) n).length → (fitL (μM 6) (μM 15) n).getD k 0 ∈ fitL (μM 6) (μM 15) n := fun k hk => by
        rw [List.getD_eq_getElem?_getD, List.getElem?_eq_getElem hk]
        exact List.getElem_mem hk
      have hSi : ∀ k, k < (fitL (μM 6) (μM 15) n).length → getI (fitL (μM 6) (μM 15) n) k = (((fitL (μM 6) (μM 15) n).getD k 0 : Nat) : Int) := fun k hk => by
        unfold getI
        rw [List.getD_eq_getElem?_getD, List.getElem?_eq_getElem hk]
        rfl
      have hSt : ∀ k, k < (fitL (μM 6) (μM 15) n).length → m 111 k = (((fitL (μM 6) (μM 15) n).getD k 0 : Nat) : Int) := fun k hk => by
        rw [T.2.2.2.2 k hk (by omega), List.getD_eq_getElem?_getD, List.getElem?_eq_getElem hk]
        rfl
      have hSu : ∀ i j, i < j → j < (fitL (μM 6) (μM 15) n).length → (fitL (μM 6) (μM 15) n).getD i 0 < (fitL (μM 6) (μM 15) n).getD j 0 := fun i j hi hj => by
        have := fit_up (fl := μM 6) (st := μM 15) (n := n) hj hi
        rw [List.getD_eq_getElem?_getD, List.getElem?_eq_getElem (show i < (fitL (μM 6) (μM 15) n).length by omega), List.getD_eq_getElem?_getD, List.getElem?_eq_getElem hj]
        exact this
      have hSb : ∀ k, k < (fitL (μM 6) (μM 15) n).length → (fitL (μM 6) (μM 15) n).getD k 0 < 2 ^ n := fun k hk => (fit_mem (hS0 k hk)).1
      have hSl : ∀ k b, k < (fitL (μM 6) (μM 15) n).length → ((fitL (μM 6) (μM 15) n).getD k 0).testBit b = true → 0 ≤ μM 15 (14 + b) := fun k b hk => (fit_mem (hS0 k hk)).2 b
      have p12 : 2 ^ n ≤ 4096 := Nat.pow_le_pow_right (n := 2) (by decide) n1
      have fz := r_lk0 (S := fun k => (fitL (μM 6) (μM 15) n).getD k 0) (w := e) (RM1 RC).pm (RM1 RC).fb (RM1 RC).sl (RM1 RC).sg g2.2 u28 hSi
      generalize hS : (fun k => (fitL (μM 6) (μM 15) n).getD k 0) = S at *
      have hSx : ∀ k, (fitL (μM 6) (μM 15) n).getD k 0 = S k := fun k => by rw [← hS]
      simp only [hSx] at hSi hSt hSu hSb hSl fz
      generalize hK : (fitL (μM 6) (μM 15) n).length = K at *
      clear hS0 hS hSx
      obtain ⟨K1, K2⟩ := g2
      have DSx : DS S n K := ⟨K2, hSb, fun i j hi hj he => by
        rcases Nat.lt_trichotomy i j with c | c | c
        · have := hSu i j c hj; omega
        · exact c
        · have := hSu j i c hi; omega⟩
      have hS4 : ∀ k, k < K → S k < 4096 := fun k hk => by have := hSb k hk; omega
      have F : ClkT m S K := ⟨t1, RC.pc.p110_5, RC.pc.p114_1, hSt⟩
      obtain ⟨c1, f1, a0, A1, A2, D1⟩ := c_lprep RC K1 K2 F hS4
      have RC1 : R0 c1 μM h d n P M := RC.cls (fun a b _ _ _ h4 h5 _ _ _ _ _ => D1 a b (by omega) (by omega) h4)
      have PB := plb (S := S) (K := K) n1 P2 R.sl hSl
      have CG : ClkG c1 S n K (gnP (μM 15) S K n) := ⟨DSx, PB, RC1.pc.p114_1, RC1.pc.p114_2, A1, fun p _ => gnP_lt K2⟩
      have CS : ClkS c1 S n K c1 := ⟨fun _ _ _ => rfl, fun w i hi hw => .inl (by rw [A2 w (by generalize 2 ^ K = X at *; omega)]; exact nib_zero hi)⟩
      have q1 : c1 0 10 = rf 114 := RC1.pc.p0_10
      have p10 : m 0 10 = rf 114 := RC.pc.p0_10
      have p4 : m 0 4 = rf 30 := RC.pc.p0_4
      have ph : m 0 1 = rf h := RC.hd.2.1
      have pk : 1 ≤ 2 ^ K := Nat.one_le_two_pow
      have hr : 2 ^ K - 1 < 2 ^ K := by omega
      have pcf := pc_full K K2
      -- the reference
      obtain ⟨r1, y1, Y1, E1⟩ := fz
      have pr1 : PM r1 := (RM1 RC).pm.keep (S := fun x y => x = 18) (fun x y hs => E1 x y hs) (by decide)
      have p16 : 2 ^ K ≤ 65536 := Nat.pow_le_pow_right (n := 2) (by decide) K2
      obtain ⟨r2, y2, Y2, E2⟩ := r_lk1 (w := e) (E := 2 ^ K - 1) pr1 (by omega)
      have E12 : ∀ x y, x ≠ 18 → x ≠ 19 → r2 x y = ud μM 0 28 (K : Int) x y := fun x y h1 h2 => by rw [E2 x y h2, E1 x y h1]
      have LG : LookG r2 S n K := ⟨pr1.keep (S := fun x y => x = 19) (fun x y hs => E2 x y hs) (by decide), by rw [E12 _ _ (by omega) (by omega), ud_n (by omega)]; exact R.fb.n0, n1, DSx, by rw [E12 _ _ (by omega) (by omega)]; exact u28, fun k hk => by rw [E2 _ _ (by omega)]; exact Y1 k hk, hS4⟩
      have LS : LookS r2 S n K r2 := ⟨fun _ _ _ => rfl, fun r hr => .inl (Y2 r (by omega))⟩
      obtain ⟨r3, y3, L3⟩ := r_lf LG 16 7 (2 ^ K - 1) r2 hr (by omega) LS
      rw [show 2 * 16 + 1 + 7 = 40 from rfl] at y3
      have y3' : fX12_looksFor shM [(2, rf 0), (0, ((2 ^ K - 1 : Nat) : Int))] r2 = some (((lkM S n K (2 ^ K - 1) : Nat) : Int), r3) := y3
      have RMk : ∀ {c k : Mem}, R0 c μM h d n P M → LookS r2 S n K k → R0 c k h d n P M := fun r L => r.ref (fun a b _ _ h3 h4 => by rw [L.1 a b (by omega), E12 a b (by omega) (by omega), ud_n (by omega)])
      have RCk : ∀ {k : Mem}, ClkS c1 S n K k → R0 k μM h d n P M := fun L => RC1.cls (fun a b _ _ _ _ h5 _ _ _ _ _ => L.1 a b (by omega))
      have s1 := ishl1 (b := K) (by omega)
      have ez : ((2 ^ K : Nat) : Int) - 1 = ((2 ^ K - 1 : Nat) : Int) := by omega
      have eb : ((2 ^ K : Nat) : Int) ≤ 65536 ∧ 1 ≤ ((2 ^ K : Nat) : Int) := by omega
      have r28 : r1 0 28 = (K : Int) := by rw [E1 _ _ (by omega)]; exact u28
      have lk15 := lk_15 DSx hr
      rcases g with rfl | rfl
      · obtain ⟨c2, f2, C2⟩ := c_cf CG 16 7 (2 ^ K - 1) 0 c1 hr (by omega) (by omega) CS
        rw [show 2 * 16 + 1 + 7 = 40 from rfl, show ((0 : Nat) : Int) = 0 from rfl] at f2
        have f2' : fX5_fewest shC [(2, rf 114), (0, ((2 ^ K - 1 : Nat) : Int)), (0, 0)] c1 = some (((lkM S n K (2 ^ K - 1) : Nat) : Int), c2) := f2
        refine ⟨((lkM S n K (2 ^ K - 1) : Nat) : Int), c2, r3, ?_, ?_, h, d, n, P, M, RMk (RCk C2) L3⟩
        · clear y1 y2 y3 y3' f2 A1 A2 Y1 Y2 hSi hSt hSu hSb hSl hS4 D D1 E1 E2 E12
          generalize ((lkM S n K (2 ^ K - 1) : Nat) : Int) = V at *
          generalize ((2 ^ K - 1 : Nat) : Int) = EE at *
          have f3 : fX5_howMany shC [(2, rf 114)] c1 = some (V, c2) := by
            simp -implicitDefEqProofs (disch := omega) [fX5_howMany, bX5_howMany, v_cop, v_c1, v_c2, v_c3, v_c4, v_c5, v_bin, v_bn, v_bn2, v_div, v_dv, v_dv2, v_une, v_un, v_loc, v_num, v_get, v_gt, v_ald, v_al, v_al2, v_len, v_ln, v_rl0, v_rl1, v_rl2, v_rl3, v_rl4, v_rl5, v_cmp, v_cp, v_cp2, v_zC, v_zc, v_con, v_kc, v_and, v_an1, v_an0, v_or, v_or1, v_or0, v_not, v_nt, v_boo, v_bo, v_cnd, v_cd1, v_cd0, v_cnc, v_cc1, v_cc0, v_ev0, v_ev, v_e1, v_e2, v_cve, v_cv, v_cse, v_cs, v_skip, v_seq, v_sq0, v_sq1, v_sqr, v_sts, v_st, v_inc, v_put, v_pt, v_pt2, v_fop, v_fo, v_fo2, v_ast, v_as, v_as2, v_as3, v_aop, v_ao, v_ao2, v_ao3, v_exs, v_ex, v_ifs, v_if1, v_if0, v_ret, v_rt, v_rez, v_rz, v_rev, v_brk, v_sws, v_sw, v_sw2, v_run, v_rb, v_turn, v_tu1, v_tu0, v_tu2, v_tu3, fst1, snd1, Option.map_some, Option.getD_some, enA, en, stE, okb, narV, rf_toNat, rf_nn, List.getElem?_cons_zero, List.getElem?_cons_succ, w32_id, w64_id, ite_t, ite_f, Int.toNat_add, Int.toNat_mul, dec_t, dec_f, sC_114, a0, f2']
          simp -implicitDefEqProofs (disch := omega) [fX11_looks, bX11_looks, v_cop, v_c1, v_c2, v_c3, v_c4, v_c5, v_bin, v_bn, v_bn2, v_div, v_dv, v_dv2, v_une, v_un, v_loc, v_num, v_get, v_gt, v_ald, v_al, v_al2, v_len, v_ln, v_rl0, v_rl1, v_rl2, v_rl3, v_rl4, v_rl5, v_cmp, v_cp, v_cp2, v_zC, v_zc, v_con, v_kc, v_and, v_an1, v_an0, v_or, v_or1, v_or0, v_not, v_nt, v_boo, v_bo, v_cnd, v_cd1, v_cd0, v_cnc, v_cc1, v_cc0, v_ev0, v_ev, v_e1, v_e2, v_cve, v_cv, v_cse, v_cs, v_skip, v_seq, v_sq0, v_sq1, v_sqr, v_sts, v_st, v_inc, v_put, v_pt, v_pt2, v_fop, v_fo, v_fo2, v_ast, v_as, v_as2, v_as3, v_aop, v_ao, v_ao2, v_ao3, v_exs, v_ex, v_ifs, v_if1, v_if0, v_ret, v_rt, v_rez, v_rz, v_rev, v_brk, v_sws, v_sw, v_sw2, v_run, v_rb, v_turn, v_tu1, v_tu0, v_tu2, v_tu3, fst1, snd1, Option.map_some, Option.getD_some, enA, en, stE, okb, narV, rf_toNat, rf_nn, List.getElem?_cons_zero, List.getElem?_cons_succ, w32_id, w64_id, ite_t, ite_f, Int.toNat_add, Int.toNat_mul, dec_t, dec_f, sC_0, sC_110, sC_114, R.pc.p0_9, R.pc.p0_4, R.pc.p0_6, R.hd.2.1, e1, p1, t1, p10, p4, ph, f1, q1, f3]
        · clear y3 f2 f2' A1 A2 Y1 Y2 hSi hSt hSu hSb hSl hS4 D D1 E1 E2 E12
          generalize ((lkM S n K (2 ^ K - 1) : Nat) : Int) = V at *
          generalize hq : ((2 ^ K - 1 + 1 : Nat) : Int) = QQ at *
          generalize ((2 ^ K - 1 : Nat) : Int) = EE at *
          generalize ((2 ^ K : Nat) : Int) = TT at *
          generalize hu : ud μM 0 28 (K : Int) = u0 at *
          simp -implicitDefEqProofs (disch := omega) [fX12_looks, bX12_looks, kX12_looks_0, kX12_looks_1, v_cop, v_c1, v_c2, v_c3, v_c4, v_c5, v_bin, v_bn, v_bn2, v_div, v_dv, v_dv2, v_une, v_un, v_loc, v_num, v_get, v_gt, v_ald, v_al, v_al2, v_len, v_ln, v_rl0, v_rl1, v_rl2, v_rl3, v_rl4, v_rl5, v_cmp, v_cp, v_cp2, v_zC, v_zc, v_con, v_kc, v_and, v_an1, v_an0, v_or, v_or1, v_or0, v_not, v_nt, v_boo, v_bo, v_cnd, v_cd1, v_cd0, v_cnc, v_cc1, v_cc0, v_ev0, v_ev, v_e1, v_e2, v_cve, v_cv, v_cse, v_cs, v_skip, v_seq, v_sq0, v_sq1, v_sqr, v_sts, v_st, v_inc, v_put, v_pt, v_pt2, v_fop, v_fo, v_fo2, v_ast, v_as, v_as2, v_as3, v_aop, v_ao, v_ao2, v_ao3, v_exs, v_ex, v_ifs, v_if1, v_if0, v_ret, v_rt, v_rez, v_rz, v_rev, v_brk, v_sws, v_sw, v_sw2, v_run, v_rb, v_turn, v_tu1, v_tu0, v_tu2, v_tu3, fst1, snd1, Option.map_some, Option.getD_some, enA, en, stE, okb, narV, rf_toNat, rf_nn, List.getElem?_cons_zero, List.getElem?_cons_succ, w32_id, w64_id, ite_t, ite_f, Int.toNat_add, Int.toNat_mul, dec_t, dec_f, sM_0, th, e2, hu, ew, u28, y1, r28, s1, ez, y2, y3']
      · have ra : ∀ b, b < n → -1 ≤ r2 15 (14 + b) ∧ r2 15 (14 + b) < 16 := fun b hb => by
          rw [E12 _ _ (by omega) (by omega), ud_n (by omega)]
          have := R.sl.la b (by omega)
          omega
        have q15 : r2 15 = μM 15 := by
          funext y
          rw [E12 _ _ (by omega) (by omega), ud_n (by omega)]
        by_cases c : K = 1
        · obtain ⟨c2, f2, C2⟩ := c_first1 CG c a0 CS
          have z : lkM S n K (2 ^ K - 1) = 0 := by
            rw [lk_eq (by rw [c]; decide), if_pos (by rw [c]; decide)]
          rw [z] at y3'
          have lp := loop_run (kb := 6) (kc := 7) (c := kX12_looks_2c) (body := kX12_looks_2b) (upd := kX12_looks_2u) (sh := shM) (fun _ => [(2, rf 0), (0, 1), (0, ((2 ^ K - 1 : Nat) : Int)), (0, 0), (0, -1), (0, 0), (3, 0)]) (fun _ => r3) (r := (0, 0, [(2, rf 0), (0, 1), (0, ((2 ^ K - 1 : Nat) : Int)), (0, 0), (0, -1), (0, 0), (3, 0)], r3)) 0 (fun j hj => by omega) (by
            have eb2 := r_beasts (L3.pm LG.1)
            rw [L3.1 _ _ (by omega), LG.2.1] at eb2
            generalize ((2 ^ K - 1 : Nat) : Int) = EE at *
            by_cases cn : n = 0
            · subst cn
              simp -implicitDefEqProofs (disch := omega) [kX12_looks_2c, v_cop, v_c1, v_c2, v_c3, v_c4, v_c5, v_bin, v_bn, v_bn2, v_div, v_dv, v_dv2, v_une, v_un, v_loc, v_num, v_get, v_gt, v_ald, v_al, v_al2, v_len, v_ln, v_rl0, v_rl1, v_rl2, v_rl3, v_rl4, v_rl5, v_cmp, v_cp, v_cp2, v_zC, v_zc, v_con, v_kc, v_and, v_an1, v_an0, v_or, v_or1, v_or0, v_not, v_nt, v_boo, v_bo, v_cnd, v_cd1, v_cd0, v_cnc, v_cc1, v_cc0, v_ev0, v_ev, v_e1, v_e2, v_cve, v_cv, v_cse, v_cs, v_skip, v_seq, v_sq0, v_sq1, v_sqr, v_sts, v_st, v_inc, v_put, v_pt, v_pt2, v_fop, v_fo, v_fo2, v_ast, v_as, v_as2, v_as3, v_aop, v_ao, v_ao2, v_ao3, v_exs, v_ex, v_ifs, v_if1, v_if0, v_ret, v_rt, v_rez, v_rz, v_rev, v_brk, v_sws, v_sw, v_sw2, v_run, v_rb, v_turn, v_tu1, v_tu0, v_tu2, v_tu3, fst1, snd1, Option.map_some, Option.getD_some, enA, en, stE, okb, narV, rf_toNat, rf_nn, List.getElem?_cons_zero, List.getElem?_cons_succ, w32_id, w64_id, ite_t, ite_f, Int.toNat_add, Int.toNat_mul, dec_t, dec_f, sM_0, eb2]
            · simp -implicitDefEqProofs (disch := omega) [kX12_looks_2c, v_cop, v_c1, v_c2, v_c3, v_c4, v_c5, v_bin, v_bn, v_bn2, v_div, v_dv, v_dv2, v_une, v_un, v_loc, v_num, v_get, v_gt, v_ald, v_al, v_al2, v_len, v_ln, v_rl0, v_rl1, v_rl2, v_rl3, v_rl4, v_rl5, v_cmp, v_cp, v_cp2, v_zC, v_zc, v_con, v_kc, v_and, v_an1, v_an0, v_or, v_or1, v_or0, v_not, v_nt, v_boo, v_bo, v_cnd, v_cd1, v_cd0, v_cnc, v_cc1, v_cc0, v_ev0, v_ev, v_e1, v_e2, v_cve, v_cv, v_cse, v_cs, v_skip, v_seq, v_sq0, v_sq1, v_sqr, v_sts, v_st, v_inc, v_put, v_pt, v_pt2, v_fop, v_fo, v_fo2, v_ast, v_as, v_as2, v_as3, v_aop, v_ao, v_ao2, v_ao3, v_exs, v_ex, v_ifs, v_if1, v_if0, v_ret, v_rt, v_rez, v_rz, v_rev, v_brk, v_sws, v_sw, v_sw2, v_run, v_rb, v_turn, v_tu1, v_tu0, v_tu2, v_tu3, fst1, snd1, Option.map_some, Option.getD_some, enA, en, stE, okb, narV, rf_toNat, rf_nn, List.getElem?_cons_zero, List.getElem?_cons_succ, w32_id, w64_id, ite_t, ite_f, Int.toNat_add, Int.toNat_mul, dec_t, dec_f, sM_0, eb2])
          refine ⟨-1, c2, r3, ?_, ?_, h, d, n, P, M, RMk (RCk C2) L3⟩
          · clear y1 y2 y3 y3' lp A1 A2 Y1 Y2 hSi hSt hSu hSb hSl hS4 D D1 E1 E2 E12
            generalize ((2 ^ K - 1 : Nat) : Int) = EE at *
            simp -implicitDefEqProofs (disch := omega) [fX11_looks, bX11_looks, v_cop, v_c1, v_c2, v_c3, v_c4, v_c5, v_bin, v_bn, v_bn2, v_div, v_dv, v_dv2, v_une, v_un, v_loc, v_num, v_get, v_gt, v_ald, v_al, v_al2, v_len, v_ln, v_rl0, v_rl1, v_rl2, v_rl3, v_rl4, v_rl5, v_cmp, v_cp, v_cp2, v_zC, v_zc, v_con, v_kc, v_and, v_an1, v_an0, v_or, v_or1, v_or0, v_not, v_nt, v_boo, v_bo, v_cnd, v_cd1, v_cd0, v_cnc, v_cc1, v_cc0, v_ev0, v_ev, v_e1, v_e2, v_cve, v_cv, v_cse, v_cs, v_skip, v_seq, v_sq0, v_sq1, v_sqr, v_sts, v_st, v_inc, v_put, v_pt, v_pt2, v_fop, v_fo, v_fo2, v_ast, v_as, v_as2, v_as3, v_aop, v_ao, v_ao2, v_ao3, v_exs, v_ex, v_ifs, v_if1, v_if0, v_ret, v_rt, v_rez, v_rz, v_rev, v_brk, v_sws, v_sw, v_sw2, v_run, v_rb, v_turn, v_tu1, v_tu0, v_tu2, v_tu3, fst1, snd1, Option.map_some, Option.getD_some, enA, en, stE, okb, narV, rf_toNat, rf_nn, List.getElem?_cons_zero, List.getElem?_cons_succ, w32_id, w64_id, ite_t, ite_f, Int.toNat_add, Int.toNat_mul, dec_t, dec_f, sC_0, sC_110, sC_114, R.pc.p0_9, R.pc.p0_4, R.pc.p0_6, R.hd.2.1, e1, p1, t1, p10, p4, ph, f1, q1, f2]
          · clear y3 f2 A1 A2 Y1 Y2 hSi hSt hSu hSb hSl hS4 D D1 E1 E2 E12
            generalize hq : ((2 ^ K - 1 + 1 : Nat) : Int) = QQ at *
            generalize ((2 ^ K - 1 : Nat) : Int) = EE at *
            generalize ((2 ^ K : Nat) : Int) = TT at *
            generalize hu : ud μM 0 28 (K : Int) = u0 at *
            simp -implicitDefEqProofs (disch := omega) [fX12_looks, bX12_looks, kX12_looks_0, kX12_looks_1, kX12_looks_2, v_cop, v_c1, v_c2, v_c3, v_c4, v_c5, v_bin, v_bn, v_bn2, v_div, v_dv, v_dv2, v_une, v_un, v_loc, v_num, v_get, v_gt, v_ald, v_al, v_al2, v_len, v_ln, v_rl0, v_rl1, v_rl2, v_rl3, v_rl4, v_rl5, v_cmp, v_cp, v_cp2, v_zC, v_zc, v_con, v_kc, v_and, v_an1, v_an0, v_or, v_or1, v_or0, v_not, v_nt, v_boo, v_bo, v_cnd, v_cd1, v_cd0, v_cnc, v_cc1, v_cc0, v_ev0, v_ev, v_e1, v_e2, v_cve, v_cv, v_cse, v_cs, v_skip, v_seq, v_sq0, v_sq1, v_sqr, v_sts, v_st, v_inc, v_put, v_pt, v_pt2, v_fop, v_fo, v_fo2, v_ast, v_as, v_as2, v_as3, v_aop, v_ao, v_ao2, v_ao3, v_exs, v_ex, v_ifs, v_if1, v_if0, v_ret, v_rt, v_rez, v_rz, v_rev, v_brk, v_sws, v_sw, v_sw2, v_run, v_rb, v_turn, v_tu1, v_tu0, v_tu2, v_tu3, fst1, snd1, Option.map_some, Option.getD_some, enA, en, stE, okb, narV, rf_toNat, rf_nn, List.getElem?_cons_zero, List.getElem?_cons_succ, w32_id, w64_id, ite_t, ite_f, Int.toNat_add, Int.toNat_mul, dec_t, dec_f, sM_0, th, e2, hu, ew, u28, y1, r28, s1, ez, y2, y3', lp]
        · obtain ⟨c2, f2, C2⟩ := c_first CG hr a0 CS (by omega)
          have lk1 := (lkm_b DSx 16 _ hr (pc_le 16 _)).2 (by omega)
          obtain ⟨ee, r4, y4, z4, L4⟩ := r_lk2 (w := 1) LG hr lk1 ra L3
          rw [q15, same_place n1 P2 R.sl hSl lk15] at z4
          refine ⟨fpN (clV S n K (gnP (μM 15) S K n) (2 ^ K - 1)) (lkM S n K (2 ^ K - 1)) 16, c2, r4, ?_, ?_, h, d, n, P, M, RMk (RCk C2) L4⟩
          · clear y1 y2 y3 y3' y4 z4 A1 A2 Y1 Y2 hSi hSt hSu hSb hSl hS4 D D1 E1 E2 E12
            generalize fpN (clV S n K (gnP (μM 15) S K n) (2 ^ K - 1)) (lkM S n K (2 ^ K - 1)) 16 = W at *
            generalize ((2 ^ K - 1 : Nat) : Int) = EE at *
            simp -implicitDefEqProofs (disch := omega) [fX11_looks, bX11_looks, v_cop, v_c1, v_c2, v_c3, v_c4, v_c5, v_bin, v_bn, v_bn2, v_div, v_dv, v_dv2, v_une, v_un, v_loc, v_num, v_get, v_gt, v_ald, v_al, v_al2, v_len, v_ln, v_rl0, v_rl1, v_rl2, v_rl3, v_rl4, v_rl5, v_cmp, v_cp, v_cp2, v_zC, v_zc, v_con, v_kc, v_and, v_an1, v_an0, v_or, v_or1, v_or0, v_not, v_nt, v_boo, v_bo, v_cnd, v_cd1, v_cd0, v_cnc, v_cc1, v_cc0, v_ev0, v_ev, v_e1, v_e2, v_cve, v_cv, v_cse, v_cs, v_skip, v_seq, v_sq0, v_sq1, v_sqr, v_sts, v_st, v_inc, v_put, v_pt, v_pt2, v_fop, v_fo, v_fo2, v_ast, v_as, v_as2, v_as3, v_aop, v_ao, v_ao2, v_ao3, v_exs, v_ex, v_ifs, v_if1, v_if0, v_ret, v_rt, v_rez, v_rz, v_rev, v_brk, v_sws, v_sw, v_sw2, v_run, v_rb, v_turn, v_tu1, v_tu0, v_tu2, v_tu3, fst1, snd1, Option.map_some, Option.getD_some, enA, en, stE, okb, narV, rf_toNat, rf_nn, List.getElem?_cons_zero, List.getElem?_cons_succ, w32_id, w64_id, ite_t, ite_f, Int.toNat_add, Int.toNat_mul, dec_t, dec_f, sC_0, sC_110, sC_114, R.pc.p0_9, R.pc.p0_4, R.pc.p0_6, R.hd.2.1, e1, p1, t1, p10, p4, ph, f1, q1, f2]
          · clear y3 f2 A1 A2 Y1 Y2 hSi hSt hSu hSb hSl hS4 D D1 E1 E2 E12
            generalize fpN (clV S n K (gnP (μM 15) S K n) (2 ^ K - 1)) (lkM S n K (2 ^ K - 1)) 16 = W at *
            generalize ((lkM S n K (2 ^ K - 1) : Nat) : Int) = V at *
            generalize hq : ((2 ^ K - 1 + 1 : Nat) : Int) = QQ at *
            generalize ((2 ^ K - 1 : Nat) : Int) = EE at *
            generalize ((2 ^ K : Nat) : Int) = TT at *
            generalize hu : ud μM 0 28 (K : Int) = u0 at *
            simp -implicitDefEqProofs (disch := omega) [fX12_looks, bX12_looks, kX12_looks_0, kX12_looks_1, kX12_looks_2, v_cop, v_c1, v_c2, v_c3, v_c4, v_c5, v_bin, v_bn, v_bn2, v_div, v_dv, v_dv2, v_une, v_un, v_loc, v_num, v_get, v_gt, v_ald, v_al, v_al2, v_len, v_ln, v_rl0, v_rl1, v_rl2, v_rl3, v_rl4, v_rl5, v_cmp, v_cp, v_cp2, v_zC, v_zc, v_con, v_kc, v_and, v_an1, v_an0, v_or, v_or1, v_or0, v_not, v_nt, v_boo, v_bo, v_cnd, v_cd1, v_cd0, v_cnc, v_cc1, v_cc0, v_ev0, v_ev, v_e1, v_e2, v_cve, v_cv, v_cse, v_cs, v_skip, v_seq, v_sq0, v_sq1, v_sqr, v_sts, v_st, v_inc, v_put, v_pt, v_pt2, v_fop, v_fo, v_fo2, v_ast, v_as, v_as2, v_as3, v_aop, v_ao, v_ao2, v_ao3, v_exs, v_ex, v_ifs, v_if1, v_if0, v_ret, v_rt, v_rez, v_rz, v_rev, v_brk, v_sws, v_sw, v_sw2, v_run, v_rb, v_turn, v_tu1, v_tu0, v_tu2, v_tu3, fst1, snd1, Option.map_some, Option.getD_some, enA, en, stE, okb, narV, rf_toNat, rf_nn, List.getElem?_cons_zero, List.getElem?_cons_succ, w32_id, w64_id, ite_t, ite_f, Int.toNat_add, Int.toNat_mul, dec_t, dec_f, sM_0, th, e2, hu, ew, u28, y1, r28, s1, ez, y2, y3', y4, z4]
    · refine ⟨-1, m, _, ?_, ?_, h, d, n, P, M, RM1 RC⟩
      · generalize (fitL (μM 6) (μM 15) n).length = K at *
        rcases g with rfl | rfl
        · by_cases c0 : K = 0
          · subst c0
            simp -implicitDefEqProofs (disch := omega) [fX11_looks, bX11_looks, v_cop, v_c1, v_c2, v_c3, v_c4, v_c5, v_bin, v_bn, v_bn2, v_div, v_dv, v_dv2, v_une, v_un, v_loc, v_num, v_get, v_gt, v_ald, v_al, v_al2, v_len, v_ln, v_rl0, v_rl1, v_rl2, v_rl3, v_rl4, v_rl5, v_cmp, v_cp, v_cp2, v_zC, v_zc, v_con, v_kc, v_and, v_an1, v_an0, v_or, v_or1, v_or0, v_not, v_nt, v_boo, v_bo, v_cnd, v_cd1, v_cd0, v_cnc, v_cc1, v_cc0, v_ev0, v_ev, v_e1, v_e2, v_cve, v_cv, v_cse, v_cs, v_skip, v_seq, v_sq0, v_sq1, v_sqr, v_sts, v_st, v_inc, v_put, v_pt, v_pt2, v_fop, v_fo, v_fo2, v_ast, v_as, v_as2, v_as3, v_aop, v_ao, v_ao2, v_ao3, v_exs, v_ex, v_ifs, v_if1, v_if0, v_ret, v_rt, v_rez, v_rz, v_rev, v_brk, v_sws, v_sw, v_sw2, v_run, v_rb, v_turn, v_tu1, v_tu0, v_tu2, v_tu3, fst1, snd1, Option.map_some, Option.getD_some, enA, en, stE, okb, narV, rf_toNat, rf_nn, List.getElem?_cons_zero, List.getElem?_cons_succ, w32_id, w64_id, ite_t, ite_f, Int.toNat_add, Int.toNat_mul, dec_t, dec_f, sC_0, sC_110, R.pc.p0_9, R.pc.p0_4, R.pc.p0_6, R.hd.2.1, e1, p1, t1]
          · simp -implicitDefEqProofs (disch := omega) [fX11_looks, bX11_looks, v_cop, v_c1, v_c2, v_c3, v_c4, v_c5, v_bin, v_bn, v_bn2, v_div, v_dv, v_dv2, v_une, v_un, v_loc, v_num, v_get, v_gt, v_ald, v_al, v_al2, v_len, v_ln, v_rl0, v_rl1, v_rl2, v_rl3, v_rl4, v_rl5, v_cmp, v_cp, v_cp2, v_zC, v_zc, v_con, v_kc, v_and, v_an1, v_an0, v_or, v_or1, v_or0, v_not, v_nt, v_boo, v_bo, v_cnd, v_cd1, v_cd0, v_cnc, v_cc1, v_cc0, v_ev0, v_ev, v_e1, v_e2, v_cve, v_cv, v_cse, v_cs, v_skip, v_seq, v_sq0, v_sq1, v_sqr, v_sts, v_st, v_inc, v_put, v_pt, v_pt2, v_fop, v_fo, v_fo2, v_ast, v_as, v_as2, v_as3, v_aop, v_ao, v_ao2, v_ao3, v_exs, v_ex, v_ifs, v_if1, v_if0, v_ret, v_rt, v_rez, v_rz, v_rev, v_brk, v_sws, v_sw, v_sw2, v_run, v_rb, v_turn, v_tu1, v_tu0, v_tu2, v_tu3, fst1, snd1, Option.map_some, Option.getD_some, enA, en, stE, okb, narV, rf_toNat, rf_nn, List.getElem?_cons_zero, List.getElem?_cons_succ, w32_id, w64_id, ite_t, ite_f, Int.toNat_add, Int.toNat_mul, dec_t, dec_f, sC_0, sC_110, R.pc.p0_9, R.pc.p0_4, R.pc.p0_6, R.hd.2.1, e1, p1, t1]
        · by_cases c0 : K = 0
          · subst c0
            simp -implicitDefEqProofs (disch := omega) [fX11_looks, bX11_looks, v_cop, v_c1, v_c2, v_c3, v_c4, v_c5, v_bin, v_bn, v_bn2, v_div, v_dv, v_dv2, v_une, v_un, v_loc, v_num, v_get, v_gt, v_ald, v_al, v_al2, v_len, v_ln, v_rl0, v_rl1, v_rl2, v_rl3, v_rl4, v_rl5, v_cmp, v_cp, v_cp2, v_zC, v_zc, v_con, v_kc, v_and, v_an1, v_an0, v_or, v_or1, v_or0, v_not, v_nt, v_boo, v_bo, v_cnd, v_cd1, v_cd0, v_cnc, v_cc1, v_cc0, v_ev0, v_ev, v_e1, v_e2, v_cve, v_cv, v_cse, v_cs, v_skip, v_seq, v_sq0, v_sq1, v_sqr, v_sts, v_st, v_inc, v_put, v_pt, v_pt2, v_fop, v_fo, v_fo2, v_ast, v_as, v_as2, v_as3, v_aop, v_ao, v_ao2, v_ao3, v_exs, v_ex, v_ifs, v_if1, v_if0, v_ret, v_rt, v_rez, v_rz, v_rev, v_brk, v_sws, v_sw, v_sw2, v_run, v_rb, v_turn, v_tu1, v_tu0, v_tu2, v_tu3, fst1, snd1, Option.map_some, Option.getD_some, enA, en, stE, okb, narV, rf_toNat, rf_nn, List.getElem?_cons_zero, List.getElem?_cons_succ, w32_id, w64_id, ite_t, ite_f, Int.toNat_add, Int.toNat_mul, dec_t, dec_f, sC_0, sC_110, R.pc.p0_9, R.pc.p0_4, R.pc.p0_6, R.hd.2.1, e1, p1, t1]
          · simp -implicitDefEqProofs (disch := omega) [fX11_looks, bX11_looks, v_cop, v_c1, v_c2, v_c3, v_c4, v_c5, v_bin, v_bn, v_bn2, v_div, v_dv, v_dv2, v_une, v_un, v_loc, v_num, v_get, v_gt, v_ald, v_al, v_al2, v_len, v_ln, v_rl0, v_rl1, v_rl2, v_rl3, v_rl4, v_rl5, v_cmp, v_cp, v_cp2, v_zC, v_zc, v_con, v_kc, v_and, v_an1, v_an0, v_or, v_or1, v_or0, v_not, v_nt, v_boo, v_bo, v_cnd, v_cd1, v_cd0, v_cnc, v_cc1, v_cc0, v_ev0, v_ev, v_e1, v_e2, v_cve, v_cv, v_cse, v_cs, v_skip, v_seq, v_sq0, v_sq1, v_sqr, v_sts, v_st, v_inc, v_put, v_pt, v_pt2, v_fop, v_fo, v_fo2, v_ast, v_as, v_as2, v_as3, v_aop, v_ao, v_ao2, v_ao3, v_exs, v_ex, v_ifs, v_if1, v_if0, v_ret, v_rt, v_rez, v_rz, v_rev, v_brk, v_sws, v_sw, v_sw2, v_run, v_rb, v_turn, v_tu1, v_tu0, v_tu2, v_tu3, fst1, snd1, Option.map_some, Option.getD_some, enA, en, stE, okb, narV, rf_toNat, rf_nn, List.getElem?_cons_zero, List.getElem?_cons_succ, w32_id, w64_id, ite_t, ite_f, Int.toNat_add, Int.toNat_mul, dec_t, dec_f, sC_0, sC_110, R.pc.p0_9, R.pc.p0_4, R.pc.p0_6, R.hd.2.1, e1, p1, t1]
      · generalize (fitL (μM 6) (μM 15) n).length = K at *
        generalize hu : ud μM 0 28 (K : Int) = u0 at *
        by_cases c0 : K = 0
        · subst c0
          have u28' : u0 0 28 = 0 := u28
          have hu' : ud μM 0 28 0 = u0 := hu
          have e2' : fX12_findSet shM [(2, rf 0), (0, -1)] μM = some (0, μM) := e2
          simp -implicitDefEqProofs (disch := omega) [fX12_looks, bX12_looks, v_cop, v_c1, v_c2, v_c3, v_c4, v_c5, v_bin, v_bn, v_bn2, v_div, v_dv, v_dv2, v_une, v_un, v_loc, v_num, v_get, v_gt, v_ald, v_al, v_al2, v_len, v_ln, v_rl0, v_rl1, v_rl2, v_rl3, v_rl4, v_rl5, v_cmp, v_cp, v_cp2, v_zC, v_zc, v_con, v_kc, v_and, v_an1, v_an0, v_or, v_or1, v_or0, v_not, v_nt, v_boo, v_bo, v_cnd, v_cd1, v_cd0, v_cnc, v_cc1, v_cc0, v_ev0, v_ev, v_e1, v_e2, v_cve, v_cv, v_cse, v_cs, v_skip, v_seq, v_sq0, v_sq1, v_sqr, v_sts, v_st, v_inc, v_put, v_pt, v_pt2, v_fop, v_fo, v_fo2, v_ast, v_as, v_as2, v_as3, v_aop, v_ao, v_ao2, v_ao3, v_exs, v_ex, v_ifs, v_if1, v_if0, v_ret, v_rt, v_rez, v_rz, v_rev, v_brk, v_sws, v_sw, v_sw2, v_run, v_rb, v_turn, v_tu1, v_tu0, v_tu2, v_tu3, fst1, snd1, Option.map_some, Option.getD_some, enA, en, stE, okb, narV, rf_toNat, rf_nn, List.getElem?_cons_zero, List.getElem?_cons_succ, w32_id, w64_id, ite_t, ite_f, Int.toNat_add, Int.toNat_mul, dec_t, dec_f, sM_0, th, e2', hu', ew, u28']
        · simp -implicitDefEqProofs (disch := omega) [fX12_looks, bX12_looks, v_cop, v_c1, v_c2, v_c3, v_c4, v_c5, v_bin, v_bn, v_bn2, v_div, v_dv, v_dv2, v_une, v_un, v_loc, v_num, v_get, v_gt, v_ald, v_al, v_al2, v_len, v_ln, v_rl0, v_rl1, v_rl2, v_rl3, v_rl4, v_rl5, v_cmp, v_cp, v_cp2, v_zC, v_zc, v_con, v_kc, v_and, v_an1, v_an0, v_or, v_or1, v_or0, v_not, v_nt, v_boo, v_bo, v_cnd, v_cd1, v_cd0, v_cnc, v_cc1, v_cc0, v_ev0, v_ev, v_e1, v_e2, v_cve, v_cv, v_cse, v_cs, v_skip, v_seq, v_sq0, v_sq1, v_sqr, v_sts, v_st, v_inc, v_put, v_pt, v_pt2, v_fop, v_fo, v_fo2, v_ast, v_as, v_as2, v_as3, v_aop, v_ao, v_ao2, v_ao3, v_exs, v_ex, v_ifs, v_if1, v_if0, v_ret, v_rt, v_rez, v_rz, v_rev, v_brk, v_sws, v_sw, v_sw2, v_run, v_rb, v_turn, v_tu1, v_tu0, v_tu2, v_tu3, fst1, snd1, Option.map_some, Option.getD_some, enA, en, stE, okb, narV, rf_toNat, rf_nn, List.getElem?_cons_zero, List.getElem?_cons_succ, w32_id, w64_id, ite_t, ite_f, Int.toNat_add, Int.toNat_mul, dec_t, dec_f, sM_0, th, e2, hu, ew, u28]
  · rw [if_neg (by omega)] at ew
    refine ⟨-1, μC, _, ?_, ?_, h, d, n, P, M, RM1 R⟩
    · have g0 : ¬ e = 0 := fun z => g (.inl z)
      have g1 : ¬ e = 1 := fun z => g (.inr z)
      simp -implicitDefEqProofs (disch := omega) [fX11_looks, bX11_looks, v_cop, v_c1, v_c2, v_c3, v_c4, v_c5, v_bin, v_bn, v_bn2, v_div, v_dv, v_dv2, v_une, v_un, v_loc, v_num, v_get, v_gt, v_ald, v_al, v_al2, v_len, v_ln, v_rl0, v_rl1, v_rl2, v_rl3, v_rl4, v_rl5, v_cmp, v_cp, v_cp2, v_zC, v_zc, v_con, v_kc, v_and, v_an1, v_an0, v_or, v_or1, v_or0, v_not, v_nt, v_boo, v_bo, v_cnd, v_cd1, v_cd0, v_cnc, v_cc1, v_cc0, v_ev0, v_ev, v_e1, v_e2, v_cve, v_cv, v_cse, v_cs, v_skip, v_seq, v_sq0, v_sq1, v_sqr, v_sts, v_st, v_inc, v_put, v_pt, v_pt2, v_fop, v_fo, v_fo2, v_ast, v_as, v_as2, v_as3, v_aop, v_ao, v_ao2, v_ao3, v_exs, v_ex, v_ifs, v_if1, v_if0, v_ret, v_rt, v_rez, v_rz, v_rev, v_brk, v_sws, v_sw, v_sw2, v_run, v_rb, v_turn, v_tu1, v_tu0, v_tu2, v_tu3, fst1, snd1, Option.map_some, Option.getD_some, enA, en, stE, okb, narV, rf_toNat, rf_nn, List.getElem?_cons_zero, List.getElem?_cons_succ, w32_id, w64_id, ite_t, ite_f, Int.toNat_add, Int.toNat_mul, dec_t, dec_f]
    · generalize (fitL (μM 6) (μM 15) n).length = K at *
      generalize hu : ud μM 0 28 (K : Int) = u0 at *
      simp -implicitDefEqProofs (disch := omega) [fX12_looks, bX12_looks, v_cop, v_c1, v_c2, v_c3, v_c4, v_c5, v_bin, v_bn, v_bn2, v_div, v_dv, v_dv2, v_une, v_un, v_loc, v_num, v_get, v_gt, v_ald, v_al, v_al2, v_len, v_ln, v_rl0, v_rl1, v_rl2, v_rl3, v_rl4, v_rl5, v_cmp, v_cp, v_cp2, v_zC, v_zc, v_con, v_kc, v_and, v_an1, v_an0, v_or, v_or1, v_or0, v_not, v_nt, v_boo, v_bo, v_cnd, v_cd1, v_cd0, v_cnc, v_cc1, v_cc0, v_ev0, v_ev, v_e1, v_e2, v_cve, v_cv, v_cse, v_cs, v_skip, v_seq, v_sq0, v_sq1, v_sqr, v_sts, v_st, v_inc, v_put, v_pt, v_pt2, v_fop, v_fo, v_fo2, v_ast, v_as, v_as2, v_as3, v_aop, v_ao, v_ao2, v_ao3, v_exs, v_ex, v_ifs, v_if1, v_if0, v_ret, v_rt, v_rez, v_rz, v_rev, v_brk, v_sws, v_sw, v_sw2, v_run, v_rb, v_turn, v_tu1, v_tu0, v_tu2, v_tu3, fst1, snd1, Option.map_some, Option.getD_some, enA, en, stE, okb, narV, rf_toNat, rf_nn, List.getElem?_cons_zero, List.getElem?_cons_succ, w32_id, w64_id, ite_t, ite_f, Int.toNat_add, Int.toNat_mul, dec_t, dec_f, sM_0, th, e2, hu, ew]
