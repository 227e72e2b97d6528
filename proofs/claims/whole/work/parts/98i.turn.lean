/-! clear, away, undo, mark -/
set_option maxRecDepth 100000 in theorem ud_n {μ : Mem} {k j a b : Nat} {v : Int} (h : ¬ (a = k ∧ b = j)) : ud μ k j v a b = μ a b := by
  unfold ud
  rw [if_neg h]
set_option maxRecDepth 100000 in theorem R0.fog0 {μC μM : Mem} {h d n P M : Nat} (R : R0 μC μM h d n P M) : R0 (ud μC 40 0 0) (ud μM 15 182 0) h d n P M := by
  have hd := R.hd.1
  refine R.upd (R.pc.ud1 (by decide)) (fun a b _ => ud_n (by omega)) (R.pm.keep (S := fun a b => a = 15 ∧ b = 182) (fun a b hs => ud_n hs) (by decide)) (by rw [ud_n (by omega)]; exact R.th) (fun a b _ => ud_n (by omega)) (R.lr.of (fun a b h1 h2 => ud_n (by omega)) (fun i hi => ud_n (by omega))) ⟨by rw [ud_s, ud_s], fun i hi => ?_, fun i hi => ?_, fun i hi => ?_⟩ (R.sl.of (fun i hi => ud_n (by omega))) ⟨by rw [ud_s]; decide, by rw [ud_s]; decide, fun i hi => ?_, fun i hi => ?_, fun i hi => ?_, fun i hi => ?_⟩ (R.pr.of (fun a b h1 h2 => ud_n (by omega)) (ud_n (by omega)) (fun i h1 h2 => ud_n (by omega))) (R.mr.of R.fb.n1 (ud_n (by omega)) (fun a b h1 h2 => ud_n (by omega)) (fun m hm => ud_n (by omega)) (fun i h1 h2 => ud_n (by omega)))
  all_goals
    rw [ud_s] at hi
    omega
set_option maxRecDepth 100000 in theorem st_clear : STP RR fX11_clear fX12_clear [] := by
  rintro μC μM ⟨h, d, n, P, M, R⟩
  have th := ud_same R.th
  refine ⟨1, ud μC 40 0 0, ud μM 15 182 0, ?_, ?_, h, d, n, P, M, R.fog0⟩
  · simp -implicitDefEqProofs [fX11_clear, bX11_clear, v_cop, v_c1, v_c2, v_c3, v_c4, v_c5, v_bin, v_bn, v_bn2, v_div, v_dv, v_dv2, v_une, v_un, v_loc, v_num, v_get, v_gt, v_ald, v_al, v_al2, v_len, v_ln, v_rl0, v_rl1, v_rl2, v_rl3, v_rl4, v_rl5, v_cmp, v_cp, v_cp2, v_zC, v_zc, v_con, v_kc, v_and, v_an1, v_an0, v_or, v_or1, v_or0, v_not, v_nt, v_boo, v_bo, v_cnd, v_cd1, v_cd0, v_cnc, v_cc1, v_cc0, v_ev0, v_ev, v_e1, v_e2, v_cve, v_cv, v_cse, v_cs, v_skip, v_seq, v_sq0, v_sq1, v_sqr, v_sts, v_st, v_inc, v_put, v_pt, v_pt2, v_fop, v_fo, v_fo2, v_ast, v_as, v_as2, v_as3, v_aop, v_ao, v_ao2, v_ao3, v_exs, v_ex, v_ifs, v_if1, v_if0, v_ret, v_rt, v_rez, v_rz, v_rev, v_brk, v_sws, v_sw, v_sw2, v_run, v_rb, v_turn, v_tu1, v_tu0, v_tu2, v_tu3, fst1, snd1, Option.map_some, Option.getD_some, enA, en, stE, okb, narV, rf_toNat, rf_nn, List.getElem?_cons_zero, List.getElem?_cons_succ, w32_id, w64_id, ite_t, ite_f, Int.toNat_add, Int.toNat_mul, sC_0, sC_40, R.pc.p0_6]
  · simp -implicitDefEqProofs [fX12_clear, bX12_clear, v_cop, v_c1, v_c2, v_c3, v_c4, v_c5, v_bin, v_bn, v_bn2, v_div, v_dv, v_dv2, v_une, v_un, v_loc, v_num, v_get, v_gt, v_ald, v_al, v_al2, v_len, v_ln, v_rl0, v_rl1, v_rl2, v_rl3, v_rl4, v_rl5, v_cmp, v_cp, v_cp2, v_zC, v_zc, v_con, v_kc, v_and, v_an1, v_an0, v_or, v_or1, v_or0, v_not, v_nt, v_boo, v_bo, v_cnd, v_cd1, v_cd0, v_cnc, v_cc1, v_cc0, v_ev0, v_ev, v_e1, v_e2, v_cve, v_cv, v_cse, v_cs, v_skip, v_seq, v_sq0, v_sq1, v_sqr, v_sts, v_st, v_inc, v_put, v_pt, v_pt2, v_fop, v_fo, v_fo2, v_ast, v_as, v_as2, v_as3, v_aop, v_ao, v_ao2, v_ao3, v_exs, v_ex, v_ifs, v_if1, v_if0, v_ret, v_rt, v_rez, v_rz, v_rev, v_brk, v_sws, v_sw, v_sw2, v_run, v_rb, v_turn, v_tu1, v_tu0, v_tu2, v_tu3, fst1, snd1, Option.map_some, Option.getD_some, enA, en, stE, okb, narV, rf_toNat, rf_nn, List.getElem?_cons_zero, List.getElem?_cons_succ, w32_id, w64_id, ite_t, ite_f, Int.toNat_add, Int.toNat_mul, sM_0, sM_15, th, R.pm.p23]
set_option maxRecDepth 100000 in theorem R0.turn {μC μM : Mem} {h d n P M : Nat} (R : R0 μC μM h d n P M) {b w2 : Nat} (hb : b < 12) (hw : w2 < 2 ^ n) : R0 (ud (ud μC 30 0 (w2 : Int)) 31 b (-1)) (ud (ud μM 15 0 (w2 : Int)) 15 (2 + b) (-1)) h d n P M := by
  have hd := R.hd.1
  have eC : ∀ x y, ¬ (x = 30 ∧ y = 0) → ¬ (x = 31 ∧ y = b) → ud (ud μC 30 0 (w2 : Int)) 31 b (-1) x y = μC x y := fun x y h1 h2 => by rw [ud_n h2, ud_n h1]
  have eM : ∀ x y, ¬ (x = 15 ∧ y = 0) → ¬ (x = 15 ∧ y = 2 + b) → ud (ud μM 15 0 (w2 : Int)) 15 (2 + b) (-1) x y = μM x y := fun x y h1 h2 => by rw [ud_n h2, ud_n h1]
  have m0 : ud (ud μM 15 0 (w2 : Int)) 15 (2 + b) (-1) 15 0 = (w2 : Int) := by rw [ud_n (by omega), ud_s]
  have c0 : ud (ud μC 30 0 (w2 : Int)) 31 b (-1) 30 0 = (w2 : Int) := by rw [ud_n (by omega), ud_s]
  have m1 : ud (ud μM 15 0 (w2 : Int)) 15 (2 + b) (-1) 15 (2 + b) = -1 := by rw [ud_s]
  have c1 : ud (ud μC 30 0 (w2 : Int)) 31 b (-1) 31 b = -1 := by rw [ud_s]
  refine R.upd (R.pc.keep (S := fun x y => x = 30 ∧ y = 0 ∨ x = 31) (fun x y hs => eC x y (by omega) (by omega)) (by decide)) (fun x y _ => eC _ _ (by omega) (by omega)) (R.pm.keep (S := fun x y => x = 15) (fun x y hs => eM x y (by omega) (by omega)) (by decide)) (by rw [eM _ _ (by omega) (by omega)]; exact R.th) (fun x y _ => eM _ _ (by omega) (by omega)) ⟨by rw [c0, m0], by rw [eC _ _ (by omega) (by omega), eM _ _ (by omega) (by omega)]; exact R.lr.ev, fun x hx => ?_, fun x hx => ?_, fun x hx => ?_, fun x hx => ?_⟩ (R.gr.of R.sg.f1 (fun x y h1 h2 => eC _ _ (by omega) (by omega)) (fun i _ hi => eM _ _ (by omega) (by omega))) ⟨⟨w2, m0, hw⟩, fun x hx => ?_, fun x h1 h2 => ?_, fun x y h1 h2 h3 h4 => ?_, fun x hx => ?_, fun x h1 h2 => ?_, fun x y h1 h2 h3 h4 => ?_, fun i hi => ?_⟩ (R.sg.of R.fb.n1 (fun i _ hi => eM _ _ (by omega) (by omega)) (fun i _ hi => eM _ _ (by omega) (by omega))) (R.pr.of (fun x y h1 h2 => eC _ _ (by omega) (by omega)) (eM _ _ (by omega) (by omega)) (fun i h1 h2 => eM _ _ (by omega) (by omega))) (R.mr.of R.fb.n1 (eC _ _ (by omega) (by omega)) (fun x y h1 h2 => eC _ _ (by omega) (by omega)) (fun m hm => eM _ _ (by omega) (by omega)) (fun i h1 h2 => eM _ _ (by omega) (by omega)))
  · by_cases c : x = b
    · rw [c, m1]; exact c1
    · rw [eC _ _ (by omega) (by omega), eM _ _ (by omega) (by omega)]; exact R.lr.no x hx
  · rw [eC _ _ (by omega) (by omega), eM _ _ (by omega) (by omega)]; exact R.lr.la x hx
  · rw [eC _ _ (by omega) (by omega), eM _ _ (by omega) (by omega)]; exact R.lr.ln x hx
  · rw [eC _ _ (by omega) (by omega), eM _ _ (by omega) (by omega)]; exact R.lr.bs x hx
  · by_cases c : x = b
    · rw [c, m1]; omega
    · rw [eM _ _ (by omega) (by omega)]; exact R.sl.no x hx
  · by_cases c : x = b
    · rw [c, m1]
    · rw [eM _ _ (by omega) (by omega)]; exact R.sl.nn x h1 h2
  · by_cases c : x = b
    · rw [c, m1] at h4; omega
    · by_cases c' : y = b
      · rw [c', m1, eM _ _ (by omega) (by omega)] at h3
        rw [eM _ _ (by omega) (by omega)] at h4
        omega
      · rw [eM _ _ (by omega) (by omega), eM _ _ (by omega) (by omega)] at h3
        rw [eM _ _ (by omega) (by omega)] at h4
        exact R.sl.ni x y h1 h2 h3 h4
  · rw [eM _ _ (by omega) (by omega)]; exact R.sl.la x hx
  · rw [eM _ _ (by omega) (by omega)]; exact R.sl.ll x h1 h2
  · rw [eM _ _ (by omega) (by omega), eM _ _ (by omega) (by omega)] at h3
    rw [eM _ _ (by omega) (by omega)] at h4
    exact R.sl.li x y h1 h2 h3 h4
  · by_cases c0 : i = 0
    · rw [c0, m0]
      have h5 : w2 < 4096 := Nat.lt_of_lt_of_le hw (Nat.pow_le_pow_right (n := 2) (by decide) R.fb.n1)
      omega
    · by_cases c1 : i = 2 + b
      · rw [c1, m1]; omega
      · rw [eM _ _ (by omega) (by omega)]; exact R.sl.rn i hi
set_option maxRecDepth 100000 in theorem p2_lt {a b : Nat} (h : a < b) : 2 ^ a < 2 ^ b := Nat.pow_lt_pow_right (by decide) h
set_option maxRecDepth 100000 in theorem ishl1 {b : Nat} (hb : b < 31) : o_ishl 1 (b : Int) = ((2 ^ b : Nat) : Int) := by
  have : 2 ^ b < 2147483648 := p2_lt (a := b) (b := 31) hb
  have e := ishl_nat (a := 1) (b := b) (by omega) (by omega)
  rw [Nat.one_mul] at e
  exact e
