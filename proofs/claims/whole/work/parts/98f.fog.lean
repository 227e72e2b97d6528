/-! telling the fog -/
def tlC (μ : Mem) (f : Nat) (k w x : Int) : Mem := ud (ud (ud (ud μ 41 f k) 42 f w) 43 f x) 40 0 ((f : Int) + 1)
def tlM (μ : Mem) (f : Nat) (k w x : Int) : Mem := ud (ud (ud (ud μ 15 (183 + 4 * f) k) 15 (183 + 4 * f + 1) w) 15 (183 + 4 * f + 2) x) 15 182 ((f : Int) + 1)
set_option maxRecDepth 100000 in theorem r_fogs {μ : Mem} (h : PM μ) : fX12_fogs shM [(2, rf 0)] μ = some (μ 15 182, μ) := by
  simp -implicitDefEqProofs [fX12_fogs, bX12_fogs, runB, retS, retZ, retV, boolE, condE, andC, orC, notC, cmpC, zC, constC, aldE, getE, locE, numE, binE, divE, unE, lenE, cvE, csE, evA, enA, en, rl, seqS, stS, stE, incS, putS, fopS, astS, aopS, exS, ifS, skipS, brkS, swS, okb, narV, rf_toNat, rf_nn, sM_0, sM_15, h.p23]
set_option maxRecDepth 100000 in theorem r_tells {μ : Mem} (h : PM μ) {f : Nat} (hf : μ 15 182 = (f : Int)) (hf2 : f < 24) (k w x : Int) : fX12_tells shM [(2, rf 0), (0, k), (0, w), (0, x)] μ = some ((f : Int) + 1, tlM μ f k w x) := by
  have e := r_fogs h
  rw [hf] at e
  have i0 : (183 + 4 * (f : Int)).toNat = 183 + 4 * f := by omega
  have i1 : (183 + 4 * (f : Int) + 1).toNat = 183 + 4 * f + 1 := by omega
  have i2 : (183 + 4 * (f : Int) + 2).toNat = 183 + 4 * f + 2 := by omega
  have j0 : 0 ≤ 183 + 4 * (f : Int) := by omega
  have j1 : 0 ≤ 183 + 4 * (f : Int) + 1 := by omega
  have j2 : 0 ≤ 183 + 4 * (f : Int) + 2 := by omega
  have k0 : 183 + 4 * (f : Int) < 5220 := by omega
  have k1 : 183 + 4 * (f : Int) + 1 < 5220 := by omega
  have k2 : 183 + 4 * (f : Int) + 2 < 5220 := by omega
  have c : ¬ (f : Int) = 24 := by omega
  have p1 : PM (ud μ 15 (183 + 4 * f) k) := h.ud0 (by decide) (by decide) (by decide) (by decide)
  have p2 : PM (ud (ud μ 15 (183 + 4 * f) k) 15 (183 + 4 * f + 1) w) := p1.ud0 (by decide) (by decide) (by decide) (by decide)
  have p3 : PM (ud (ud (ud μ 15 (183 + 4 * f) k) 15 (183 + 4 * f + 1) w) 15 (183 + 4 * f + 2) x) := p2.ud0 (by decide) (by decide) (by decide) (by decide)
  have p4 : PM (tlM μ f k w x) := p3.ud0 (by decide) (by decide) (by decide) (by decide)
  have e4 := r_fogs p4
  have e5 : ud (ud (ud μ 15 (183 + 4 * f) k) 15 (183 + 4 * f + 1) w) 15 (183 + 4 * f + 2) x 15 182 = (f : Int) := by
    rw [ud_j (by omega), ud_j (by omega), ud_j (by omega), hf]
  have e6 : tlM μ f k w x 15 182 = (f : Int) + 1 := by unfold tlM; rw [ud_s]
  rw [e6] at e4
  unfold tlM at e4
  simp -implicitDefEqProofs (disch := omega) [fX12_tells, bX12_tells, v_cop, v_c1, v_c2, v_c3, v_c4, v_c5, v_bin, v_bn, v_bn2, v_div, v_dv, v_dv2, v_une, v_un, v_loc, v_num, v_get, v_gt, v_ald, v_al, v_al2, v_len, v_ln, v_rl0, v_rl1, v_rl2, v_rl3, v_rl4, v_rl5, v_cmp, v_cp, v_cp2, v_zC, v_zc, v_con, v_kc, v_and, v_an1, v_an0, v_or, v_or1, v_or0, v_not, v_nt, v_boo, v_bo, v_cnd, v_cd1, v_cd0, v_cnc, v_cc1, v_cc0, v_ev0, v_ev, v_e1, v_e2, v_cve, v_cv, v_cse, v_cs, v_skip, v_seq, v_sq0, v_sq1, v_sqr, v_sts, v_st, v_inc, v_put, v_pt, v_pt2, v_fop, v_fo, v_fo2, v_ast, v_as, v_as2, v_as3, v_aop, v_ao, v_ao2, v_ao3, v_exs, v_ex, v_ifs, v_if1, v_if0, v_ret, v_rt, v_rez, v_rz, v_rev, v_brk, v_sws, v_sw, v_sw2, v_run, v_rb, v_turn, v_tu1, v_tu0, v_tu2, v_tu3, fst1, snd1, Option.map_some, Option.getD_some, enA, en, stE, okb, narV, rf_toNat, rf_nn, List.getElem?_cons_zero, List.getElem?_cons_succ, w32_id, w64_id, ite_t, ite_f, Int.toNat_add, Int.toNat_mul, sM_0, sM_15, h.p23, p1.p23, p2.p23, p3.p23, e, c, i0, i1, i2, j0, j1, j2, k0, k1, k2, e5, e4, tlM]
set_option maxRecDepth 100000 in theorem r_tells_full {μ : Mem} (h : PM μ) (hf : μ 15 182 = 24) (k w x : Int) : fX12_tells shM [(2, rf 0), (0, k), (0, w), (0, x)] μ = some (-1, μ) := by
  have e := r_fogs h
  rw [hf] at e
  simp -implicitDefEqProofs [fX12_tells, bX12_tells, runB, retS, retZ, retV, boolE, condE, andC, orC, notC, cmpC, zC, constC, aldE, getE, locE, numE, binE, divE, unE, lenE, cvE, csE, evA, enA, en, rl, seqS, stS, stE, incS, putS, fopS, astS, aopS, exS, ifS, skipS, brkS, swS, okb, narV, rf_toNat, rf_nn, sM_0, e]
set_option maxRecDepth 100000 in theorem c_tell {μ : Mem} (p : PC μ) {f : Nat} (hf : μ 40 0 = (f : Int)) (hf2 : f < 24) (k w x : Int) : fX2_tell shC [(2, rf 40), (0, k), (0, w), (0, x)] μ = some ((f : Int) + 1, tlC μ f k w x) := by
  have c : ¬ 24 ≤ (f : Int) := by omega
  have j1 : (f : Int) < 24 := by omega
  simp -implicitDefEqProofs (disch := omega) [fX2_tell, bX2_tell, v_cop, v_c1, v_c2, v_c3, v_c4, v_c5, v_bin, v_bn, v_bn2, v_div, v_dv, v_dv2, v_une, v_un, v_loc, v_num, v_get, v_gt, v_ald, v_al, v_al2, v_len, v_ln, v_rl0, v_rl1, v_rl2, v_rl3, v_rl4, v_rl5, v_cmp, v_cp, v_cp2, v_zC, v_zc, v_con, v_kc, v_and, v_an1, v_an0, v_or, v_or1, v_or0, v_not, v_nt, v_boo, v_bo, v_cnd, v_cd1, v_cd0, v_cnc, v_cc1, v_cc0, v_ev0, v_ev, v_e1, v_e2, v_cve, v_cv, v_cse, v_cs, v_skip, v_seq, v_sq0, v_sq1, v_sqr, v_sts, v_st, v_inc, v_put, v_pt, v_pt2, v_fop, v_fo, v_fo2, v_ast, v_as, v_as2, v_as3, v_aop, v_ao, v_ao2, v_ao3, v_exs, v_ex, v_ifs, v_if1, v_if0, v_ret, v_rt, v_rez, v_rz, v_rev, v_brk, v_sws, v_sw, v_sw2, v_run, v_rb, v_turn, v_tu1, v_tu0, v_tu2, v_tu3, fst1, snd1, Option.map_some, Option.getD_some, enA, en, stE, okb, narV, rf_toNat, rf_nn, List.getElem?_cons_zero, List.getElem?_cons_succ, w32_id, w64_id, ite_t, ite_f, Int.toNat_add, Int.toNat_mul, sC_40, sC_41, sC_42, sC_43, p.p40_1, p.p40_2, p.p40_3, ud_c, hf, c, hf2, tlC, ud_s]
set_option maxRecDepth 100000 in theorem c_tell_full {μ : Mem} (hf : μ 40 0 = 24) (k w x : Int) : fX2_tell shC [(2, rf 40), (0, k), (0, w), (0, x)] μ = some (-1, μ) := by
  simp -implicitDefEqProofs [fX2_tell, bX2_tell, runB, retS, retZ, retV, boolE, condE, andC, orC, notC, cmpC, zC, constC, aldE, getE, locE, numE, binE, divE, unE, lenE, cvE, csE, evA, enA, en, rl, seqS, stS, stE, incS, putS, fopS, astS, aopS, exS, ifS, skipS, brkS, swS, okb, narV, rf_toNat, rf_nn, sC_40, hf]
set_option maxRecDepth 100000 in theorem tlM_old {μ : Mem} {f i : Nat} {k w x : Int} (h : i ≠ 182) (h2 : i ≠ 183 + 4 * f) (h3 : i ≠ 183 + 4 * f + 1) (h4 : i ≠ 183 + 4 * f + 2) : tlM μ f k w x 15 i = μ 15 i := by
  unfold tlM
  rw [ud_j h, ud_j h4, ud_j h3, ud_j h2]
set_option maxRecDepth 100000 in theorem tlM_c {μ : Mem} {f a i : Nat} {k w x : Int} (h : a ≠ 15) : tlM μ f k w x a i = μ a i := by
  unfold tlM
  rw [ud_c h, ud_c h, ud_c h, ud_c h]
set_option maxRecDepth 100000 in theorem tlC_c {μ : Mem} {f a i : Nat} {k w x : Int} (h : ¬ (a = 40 ∧ i = 0)) (h1 : a ≠ 41) (h2 : a ≠ 42) (h3 : a ≠ 43) : tlC μ f k w x a i = μ a i := by
  unfold tlC
  rw [show ud (ud (ud (ud μ 41 f k) 42 f w) 43 f x) 40 0 ((f : Int) + 1) a i = ud (ud (ud μ 41 f k) 42 f w) 43 f x a i by unfold ud; rw [if_neg h], ud_c h3, ud_c h2, ud_c h1]
set_option maxRecDepth 100000 in theorem R0.tell {μC μM : Mem} {h d n P M f : Nat} (R : R0 μC μM h d n P M) (hf : μM 15 182 = (f : Int)) (hf2 : f < 24) {k w x : Int} (hk : 0 ≤ k ∧ k ≤ 4) (hw : 0 ≤ w ∧ w < 16) (hx : 0 ≤ x ∧ x ≤ 99) (hu : 3 ≤ k → ∃ b : Nat, b < n ∧ w = (b : Int) ∧ 0 ≤ μM 15 (14 + b)) : R0 (tlC μC f k w x) (tlM μM f k w x) h d n P M := by
  have hd := R.hd.1
  have hn := R.fb.n1
  have e1 : tlM μM f k w x 15 182 = (f : Int) + 1 := by unfold tlM; rw [ud_s]
  have e2 : tlC μC f k w x 40 0 = (f : Int) + 1 := by unfold tlC; rw [ud_s]
  have m0 : tlM μM f k w x 15 (183 + 4 * f) = k := by unfold tlM; rw [ud_j (by omega), ud_j (by omega), ud_j (by omega), ud_s]
  have m1 : tlM μM f k w x 15 (183 + 4 * f + 1) = w := by unfold tlM; rw [ud_j (by omega), ud_j (by omega), ud_s]
  have m2 : tlM μM f k w x 15 (183 + 4 * f + 2) = x := by unfold tlM; rw [ud_j (by omega), ud_s]
  have c0 : tlC μC f k w x 41 f = k := by unfold tlC; rw [ud_c (by omega), ud_c (by omega), ud_c (by omega), ud_s]
  have c1 : tlC μC f k w x 42 f = w := by unfold tlC; rw [ud_c (by omega), ud_c (by omega), ud_s]
  have c2 : tlC μC f k w x 43 f = x := by unfold tlC; rw [ud_c (by omega), ud_s]
  have q0 : ∀ i, i < f → tlC μC f k w x 41 i = μC 41 i := fun i hi => by unfold tlC; rw [ud_c (by omega), ud_c (by omega), ud_c (by omega), ud_j (by omega)]
  have q1 : ∀ i, i < f → tlC μC f k w x 42 i = μC 42 i := fun i hi => by unfold tlC; rw [ud_c (by omega), ud_c (by omega), ud_j (by omega), ud_c (by omega)]
  have q2 : ∀ i, i < f → tlC μC f k w x 43 i = μC 43 i := fun i hi => by unfold tlC; rw [ud_c (by omega), ud_j (by omega), ud_c (by omega), ud_c (by omega)]
  have es : ∀ i, i < 182 → tlM μM f k w x 15 i = μM 15 i := fun i hi => tlM_old (by omega) (by omega) (by omega) (by omega)
  have eb : ∀ i, 290 ≤ i → tlM μM f k w x 15 i = μM 15 i := fun i hi => tlM_old (by omega) (by omega) (by omega) (by omega)
  have pm : PM (tlM μM f k w x) := R.pm.of (fun b => tlM_c (by decide)) (fun b => tlM_c (by decide)) (fun b => tlM_c (by decide)) (fun b => tlM_c (by decide))
  have pc : PC (tlC μC f k w x) := R.pc.keep (S := fun a b => a = 40 ∧ b = 0 ∨ a = 41 ∨ a = 42 ∨ a = 43) (fun a b hs => tlC_c (by omega) (by omega) (by omega) (by omega)) (by decide)
  refine R.upd pc (fun a b hab => tlC_c (by omega) (by omega) (by omega) (by omega)) pm (by rw [tlM_c (by decide)]; exact R.th) (fun a b hab => tlM_c (by omega)) (R.lr.of (fun a b h1 h2 => tlC_c (by omega) (by omega) (by omega) (by omega)) es) ?_ (R.sl.of es) ?_ (R.pr.of (fun a b h1 h2 => tlC_c (by omega) (by omega) (by omega) (by omega)) (tlM_c (by decide)) (fun i h1 h2 => eb i (by omega))) (R.mr.of hn (tlC_c (by omega) (by omega) (by omega) (by omega)) (fun a b h1 h2 => tlC_c (by omega) (by omega) (by omega) (by omega)) (fun m hm => tlM_c (by decide)) (fun i h1 h2 => eb i (by omega)))
  · have G := R.gr
    refine ⟨by rw [e1, e2], fun i hi => ?_, fun i hi => ?_, fun i hi => ?_⟩
    · rw [e1] at hi
      by_cases c : i = f
      · rw [c, m0]; exact c0
      · rw [tlM_old (by omega) (by omega) (by omega) (by omega)]
        exact (q0 i (by omega)).trans (G.ki i (by omega))
    · rw [e1] at hi
      by_cases c : i = f
      · rw [c, m1]; exact c1
      · rw [tlM_old (by omega) (by omega) (by omega) (by omega)]
        exact (q1 i (by omega)).trans (G.wh i (by omega))
    · rw [e1] at hi
      by_cases c : i = f
      · rw [c, m2]; exact c2
      · rw [tlM_old (by omega) (by omega) (by omega) (by omega)]
        exact (q2 i (by omega)).trans (G.nu i (by omega))
  · have G := R.sg
    refine ⟨by rw [e1]; omega, by rw [e1]; omega, fun i hi => ?_, fun i hi => ?_, fun i hi => ?_, fun i hi h3 => ?_⟩
    · rw [e1] at hi
      by_cases c : i = f
      · rw [c, m0]; exact hk
      · rw [tlM_old (by omega) (by omega) (by omega) (by omega)]; exact G.ki i (by omega)
    · rw [e1] at hi
      by_cases c : i = f
      · rw [c, m1]; exact hw
      · rw [tlM_old (by omega) (by omega) (by omega) (by omega)]; exact G.wh i (by omega)
    · rw [e1] at hi
      by_cases c : i = f
      · rw [c, m2]; exact hx
      · rw [tlM_old (by omega) (by omega) (by omega) (by omega)]; exact G.nu i (by omega)
    · rw [e1] at hi
      by_cases c : i = f
      · rw [c, m0] at h3
        obtain ⟨b, h4, h5, h6⟩ := hu h3
        exact ⟨b, h4, by rw [c, m1]; exact h5, by rw [es _ (by omega)]; exact h6⟩
      · rw [tlM_old (by omega) (by omega) (by omega) (by omega)] at h3
        obtain ⟨b, h4, h5, h6⟩ := G.un i (by omega) h3
        exact ⟨b, h4, by rw [tlM_old (by omega) (by omega) (by omega) (by omega)]; exact h5, by rw [es _ (by omega)]; exact h6⟩
set_option maxRecDepth 100000 in theorem st_tell {μC μM : Mem} {h d n P M : Nat} (R : R0 μC μM h d n P M) {k w x : Int} (hk : 0 ≤ k ∧ k ≤ 4) (hw : 0 ≤ w ∧ w < 16) (hx : 0 ≤ x ∧ x ≤ 99) (hu : 3 ≤ k → ∃ b : Nat, b < n ∧ w = (b : Int) ∧ 0 ≤ μM 15 (14 + b)) : ∃ r μC' μM', fX2_tell shC [(2, rf 40), (0, k), (0, w), (0, x)] μC = some (r, μC') ∧ fX12_tells shM [(2, rf 0), (0, k), (0, w), (0, x)] μM = some (r, μM') ∧ RR μC' μM' := by
  obtain ⟨f, hf⟩ := Int.eq_ofNat_of_zero_le R.sg.f0
  have h1 := R.sg.f1
  have hg := R.gr.ma
  rw [hf] at hg h1
  by_cases c : f < 24
  · exact ⟨_, _, _, c_tell R.pc hg c k w x, r_tells R.pm hf c k w x, h, d, n, P, M, R.tell hf c hk hw hx hu⟩
  · have c2 : f = 24 := by omega
    subst c2
    exact ⟨_, _, _, c_tell_full hg k w x, r_tells_full R.pm hf k w x, h, d, n, P, M, R⟩
set_option maxRecDepth 100000 in theorem st_seen (a e : Int) (he : e = 0 ∨ e = 1) : STP RR fX11_seen fX12_seen [(0, a), (0, e)] := by
  rintro μC μM ⟨h, d, n, P, M, R⟩
  have e1 := c_isPlace R.pc R.hd a
  have e2 := r_isPlace R.pm a
  have th := ud_same R.th
  rw [R.fr.pl, R.fb.P0] at e1
  rw [R.fb.P0] at e2
  have hp := R.fb.P2
  by_cases ca : 0 ≤ a ∧ a < (P : Int)
  · rcases he with rfl | rfl
    · obtain ⟨r, μC', μM', h1, h2, h3⟩ := st_tell R (k := 1) (w := a) (x := 0) (by omega) (by omega) (by omega) (by omega)
      refine ⟨r, μC', μM', ?_, ?_, h3⟩
      · simp -implicitDefEqProofs [fX11_seen, bX11_seen, runB, retS, retZ, retV, boolE, condE, andC, orC, notC, cmpC, zC, constC, aldE, getE, locE, numE, binE, divE, unE, lenE, cvE, csE, evA, enA, en, rl, seqS, stS, stE, incS, putS, fopS, astS, aopS, exS, ifS, skipS, brkS, swS, okb, narV, rf_toNat, rf_nn, sC_0, sC_40, R.pc.p0_6, e1, ca, h1]
      · simp -implicitDefEqProofs [fX12_seen, bX12_seen, runB, retS, retZ, retV, boolE, condE, andC, orC, notC, cmpC, zC, constC, aldE, getE, locE, numE, binE, divE, unE, lenE, cvE, csE, evA, enA, en, rl, seqS, stS, stE, incS, putS, fopS, astS, aopS, exS, ifS, skipS, brkS, swS, okb, narV, rf_toNat, rf_nn, sM_0, e2, ca, th, h2]
    · obtain ⟨r, μC', μM', h1, h2, h3⟩ := st_tell R (k := 0) (w := a) (x := 0) (by omega) (by omega) (by omega) (by omega)
      refine ⟨r, μC', μM', ?_, ?_, h3⟩
      · simp -implicitDefEqProofs [fX11_seen, bX11_seen, runB, retS, retZ, retV, boolE, condE, andC, orC, notC, cmpC, zC, constC, aldE, getE, locE, numE, binE, divE, unE, lenE, cvE, csE, evA, enA, en, rl, seqS, stS, stE, incS, putS, fopS, astS, aopS, exS, ifS, skipS, brkS, swS, okb, narV, rf_toNat, rf_nn, sC_0, sC_40, R.pc.p0_6, e1, ca, h1]
      · simp -implicitDefEqProofs [fX12_seen, bX12_seen, runB, retS, retZ, retV, boolE, condE, andC, orC, notC, cmpC, zC, constC, aldE, getE, locE, numE, binE, divE, unE, lenE, cvE, csE, evA, enA, en, rl, seqS, stS, stE, incS, putS, fopS, astS, aopS, exS, ifS, skipS, brkS, swS, okb, narV, rf_toNat, rf_nn, sM_0, e2, ca, th, h2]
  · refine ⟨-1, μC, μM, ?_, ?_, h, d, n, P, M, R⟩
    · simp -implicitDefEqProofs [fX11_seen, bX11_seen, runB, retS, retZ, retV, boolE, condE, andC, orC, notC, cmpC, zC, constC, aldE, getE, locE, numE, binE, divE, unE, lenE, cvE, csE, evA, enA, en, rl, seqS, stS, stE, incS, putS, fopS, astS, aopS, exS, ifS, skipS, brkS, swS, okb, narV, rf_toNat, rf_nn, sC_0, e1, ca]
    · simp -implicitDefEqProofs [fX12_seen, bX12_seen, runB, retS, retZ, retV, boolE, condE, andC, orC, notC, cmpC, zC, constC, aldE, getE, locE, numE, binE, divE, unE, lenE, cvE, csE, evA, enA, en, rl, seqS, stS, stE, incS, putS, fopS, astS, aopS, exS, ifS, skipS, brkS, swS, okb, narV, rf_toNat, rf_nn, sM_0, e2, ca, th]
set_option maxRecDepth 100000 in theorem st_heard (a b : Int) : STP RR fX11_heard fX12_heard [(0, a), (0, b)] := by
  rintro μC μM ⟨h, d, n, P, M, R⟩
  have th := ud_same R.th
  have e1 := r_within shM μM a 1 9
  have e2 := r_within shM μM b 0 12
  by_cases ca : 1 ≤ a ∧ a ≤ 9
  · by_cases cb : 0 ≤ b ∧ b ≤ 12
    · have a1 : ¬ a < 1 := by omega
      have a2 : ¬ 9 < a := by omega
      have b1 : ¬ b < 0 := by omega
      have b2 : ¬ 12 < b := by omega
      obtain ⟨r, μC', μM', h1, h2, h3⟩ := st_tell R (k := 2) (w := a) (x := b) (by omega) (by omega) (by omega) (by omega)
      refine ⟨r, μC', μM', ?_, ?_, h3⟩
      · simp -implicitDefEqProofs [fX11_heard, bX11_heard, runB, retS, retZ, retV, boolE, condE, andC, orC, notC, cmpC, zC, constC, aldE, getE, locE, numE, binE, divE, unE, lenE, cvE, csE, evA, enA, en, rl, seqS, stS, stE, incS, putS, fopS, astS, aopS, exS, ifS, skipS, brkS, swS, okb, narV, rf_toNat, rf_nn, sC_0, sC_40, R.pc.p0_6, a1, a2, b1, b2, h1]
      · simp -implicitDefEqProofs [fX12_heard, bX12_heard, runB, retS, retZ, retV, boolE, condE, andC, orC, notC, cmpC, zC, constC, aldE, getE, locE, numE, binE, divE, unE, lenE, cvE, csE, evA, enA, en, rl, seqS, stS, stE, incS, putS, fopS, astS, aopS, exS, ifS, skipS, brkS, swS, okb, narV, rf_toNat, rf_nn, sM_0, e1, e2, ca, cb, th, h2]
    · refine ⟨-1, μC, μM, ?_, ?_, h, d, n, P, M, R⟩
      · have b1 : b < 0 ∨ 12 < b := by omega
        have a1 : ¬ a < 1 := by omega
        have a2 : ¬ 9 < a := by omega
        rcases b1 with b1 | b1
        · simp -implicitDefEqProofs [fX11_heard, bX11_heard, runB, retS, retZ, retV, boolE, condE, andC, orC, notC, cmpC, zC, constC, aldE, getE, locE, numE, binE, divE, unE, lenE, cvE, csE, evA, enA, en, rl, seqS, stS, stE, incS, putS, fopS, astS, aopS, exS, ifS, skipS, brkS, swS, okb, narV, rf_toNat, rf_nn, sC_0, a1, a2, b1]
        · have b2 : ¬ b < 0 := by omega
          simp -implicitDefEqProofs [fX11_heard, bX11_heard, runB, retS, retZ, retV, boolE, condE, andC, orC, notC, cmpC, zC, constC, aldE, getE, locE, numE, binE, divE, unE, lenE, cvE, csE, evA, enA, en, rl, seqS, stS, stE, incS, putS, fopS, astS, aopS, exS, ifS, skipS, brkS, swS, okb, narV, rf_toNat, rf_nn, sC_0, a1, a2, b1, b2]
      · simp -implicitDefEqProofs [fX12_heard, bX12_heard, runB, retS, retZ, retV, boolE, condE, andC, orC, notC, cmpC, zC, constC, aldE, getE, locE, numE, binE, divE, unE, lenE, cvE, csE, evA, enA, en, rl, seqS, stS, stE, incS, putS, fopS, astS, aopS, exS, ifS, skipS, brkS, swS, okb, narV, rf_toNat, rf_nn, sM_0, e1, e2, ca, cb, th]
  · refine ⟨-1, μC, μM, ?_, ?_, h, d, n, P, M, R⟩
    · have b1 : a < 1 ∨ 9 < a := by omega
      rcases b1 with b1 | b1
      · simp -implicitDefEqProofs [fX11_heard, bX11_heard, runB, retS, retZ, retV, boolE, condE, andC, orC, notC, cmpC, zC, constC, aldE, getE, locE, numE, binE, divE, unE, lenE, cvE, csE, evA, enA, en, rl, seqS, stS, stE, incS, putS, fopS, astS, aopS, exS, ifS, skipS, brkS, swS, okb, narV, rf_toNat, rf_nn, sC_0, b1]
      · have b2 : ¬ a < 1 := by omega
        simp -implicitDefEqProofs [fX11_heard, bX11_heard, runB, retS, retZ, retV, boolE, condE, andC, orC, notC, cmpC, zC, constC, aldE, getE, locE, numE, binE, divE, unE, lenE, cvE, csE, evA, enA, en, rl, seqS, stS, stE, incS, putS, fopS, astS, aopS, exS, ifS, skipS, brkS, swS, okb, narV, rf_toNat, rf_nn, sC_0, b1, b2]
    · simp -implicitDefEqProofs [fX12_heard, bX12_heard, runB, retS, retZ, retV, boolE, condE, andC, orC, notC, cmpC, zC, constC, aldE, getE, locE, numE, binE, divE, unE, lenE, cvE, csE, evA, enA, en, rl, seqS, stS, stE, incS, putS, fopS, astS, aopS, exS, ifS, skipS, brkS, swS, okb, narV, rf_toNat, rf_nn, sM_0, e1, ca, th]
set_option maxRecDepth 100000 in theorem st_uneasy (a b e : Int) (he : e = 0 ∨ e = 1) : STP RR fX11_uneasy fX12_uneasy [(0, a), (0, b), (0, e)] := by
  rintro μC μM ⟨h, d, n, P, M, R⟩
  have e1 := c_isBeast R.pc R.hd a
  have e2 := r_isBeast R.pm a
  have e3 := r_within shM μM b 1 99
  have th := ud_same R.th
  rw [R.fr.be, R.fb.n0] at e1
  rw [R.fb.n0] at e2
  have hn := R.fb.n1
  by_cases ca : 0 ≤ a ∧ a < (n : Int)
  · obtain ⟨x, rfl⟩ := Int.eq_ofNat_of_zero_le ca.1
    have hx : x < 12 := by omega
    have l1 := R.lr.la x hx
    have l2 := R.sl.la x hx
    have j1 : (14 + (x : Int)).toNat = 14 + x := by omega
    have j2 : 0 ≤ 14 + (x : Int) := by omega
    have j3 : 14 + (x : Int) < 5220 := by omega
    by_cases cl : 0 ≤ μM 15 (14 + x)
    · have cl2 : ¬ μM 15 (14 + x) = -1 := by omega
      by_cases cb : 1 ≤ b ∧ b ≤ 99
      · have b1 : ¬ b < 1 := by omega
        have b2 : ¬ 99 < b := by omega
        rcases he with rfl | rfl
        · obtain ⟨r, μC', μM', h1, h2, h3⟩ := st_tell R (k := 4) (w := (x : Int)) (x := b) (by omega) (by omega) (by omega) (fun _ => ⟨x, by omega, rfl, cl⟩)
          refine ⟨r, μC', μM', ?_, ?_, h3⟩
          · simp -implicitDefEqProofs [fX11_uneasy, bX11_uneasy, runB, retS, retZ, retV, boolE, condE, andC, orC, notC, cmpC, zC, constC, aldE, getE, locE, numE, binE, divE, unE, lenE, cvE, csE, evA, enA, en, rl, seqS, stS, stE, incS, putS, fopS, astS, aopS, exS, ifS, skipS, brkS, swS, okb, narV, rf_toNat, rf_nn, sC_0, sC_30, sC_32, sC_40, R.pc.p0_4, R.pc.p30_3, R.pc.p0_6, e1, ca, h1, hx, l1, cl2, b1, b2]
          · simp -implicitDefEqProofs (disch := omega) [fX12_uneasy, bX12_uneasy, runB, retS, retZ, retV, boolE, condE, andC, orC, notC, cmpC, zC, constC, aldE, getE, locE, numE, binE, divE, unE, lenE, cvE, csE, evA, enA, en, rl, seqS, stS, stE, incS, putS, fopS, astS, aopS, exS, ifS, skipS, brkS, swS, okb, narV, rf_toNat, rf_nn, List.getElem?_cons_zero, List.getElem?_cons_succ, turnS, w32_id, w64_id, ite_t, ite_f, Int.toNat_add, Int.toNat_mul, sM_0, sM_15, R.pm.p23, e2, e3, ca, th, h2, cl, cb, j1, j2, j3]
        · obtain ⟨r, μC', μM', h1, h2, h3⟩ := st_tell R (k := 3) (w := (x : Int)) (x := b) (by omega) (by omega) (by omega) (fun _ => ⟨x, by omega, rfl, cl⟩)
          refine ⟨r, μC', μM', ?_, ?_, h3⟩
          · simp -implicitDefEqProofs [fX11_uneasy, bX11_uneasy, runB, retS, retZ, retV, boolE, condE, andC, orC, notC, cmpC, zC, constC, aldE, getE, locE, numE, binE, divE, unE, lenE, cvE, csE, evA, enA, en, rl, seqS, stS, stE, incS, putS, fopS, astS, aopS, exS, ifS, skipS, brkS, swS, okb, narV, rf_toNat, rf_nn, sC_0, sC_30, sC_32, sC_40, R.pc.p0_4, R.pc.p30_3, R.pc.p0_6, e1, ca, h1, hx, l1, cl2, b1, b2]
          · simp -implicitDefEqProofs (disch := omega) [fX12_uneasy, bX12_uneasy, runB, retS, retZ, retV, boolE, condE, andC, orC, notC, cmpC, zC, constC, aldE, getE, locE, numE, binE, divE, unE, lenE, cvE, csE, evA, enA, en, rl, seqS, stS, stE, incS, putS, fopS, astS, aopS, exS, ifS, skipS, brkS, swS, okb, narV, rf_toNat, rf_nn, List.getElem?_cons_zero, List.getElem?_cons_succ, turnS, w32_id, w64_id, ite_t, ite_f, Int.toNat_add, Int.toNat_mul, sM_0, sM_15, R.pm.p23, e2, e3, ca, th, h2, cl, cb, j1, j2, j3]
      · refine ⟨-1, μC, μM, ?_, ?_, h, d, n, P, M, R⟩
        · have b1 : b < 1 ∨ 99 < b := by omega
          rcases b1 with b1 | b1
          · simp -implicitDefEqProofs [fX11_uneasy, bX11_uneasy, runB, retS, retZ, retV, boolE, condE, andC, orC, notC, cmpC, zC, constC, aldE, getE, locE, numE, binE, divE, unE, lenE, cvE, csE, evA, enA, en, rl, seqS, stS, stE, incS, putS, fopS, astS, aopS, exS, ifS, skipS, brkS, swS, okb, narV, rf_toNat, rf_nn, sC_0, sC_30, sC_32, R.pc.p0_4, R.pc.p30_3, e1, ca, hx, l1, cl2, b1]
          · have b2 : ¬ b < 1 := by omega
            simp -implicitDefEqProofs [fX11_uneasy, bX11_uneasy, runB, retS, retZ, retV, boolE, condE, andC, orC, notC, cmpC, zC, constC, aldE, getE, locE, numE, binE, divE, unE, lenE, cvE, csE, evA, enA, en, rl, seqS, stS, stE, incS, putS, fopS, astS, aopS, exS, ifS, skipS, brkS, swS, okb, narV, rf_toNat, rf_nn, sC_0, sC_30, sC_32, R.pc.p0_4, R.pc.p30_3, e1, ca, hx, l1, cl2, b1, b2]
        · simp -implicitDefEqProofs (disch := omega) [fX12_uneasy, bX12_uneasy, runB, retS, retZ, retV, boolE, condE, andC, orC, notC, cmpC, zC, constC, aldE, getE, locE, numE, binE, divE, unE, lenE, cvE, csE, evA, enA, en, rl, seqS, stS, stE, incS, putS, fopS, astS, aopS, exS, ifS, skipS, brkS, swS, okb, narV, rf_toNat, rf_nn, List.getElem?_cons_zero, List.getElem?_cons_succ, turnS, w32_id, w64_id, ite_t, ite_f, Int.toNat_add, Int.toNat_mul, sM_0, sM_15, R.pm.p23, e2, e3, ca, th, cl, cb, j1, j2, j3]
    · have cl2 : μM 15 (14 + x) = -1 := by omega
      refine ⟨-1, μC, μM, ?_, ?_, h, d, n, P, M, R⟩
      · simp -implicitDefEqProofs [fX11_uneasy, bX11_uneasy, runB, retS, retZ, retV, boolE, condE, andC, orC, notC, cmpC, zC, constC, aldE, getE, locE, numE, binE, divE, unE, lenE, cvE, csE, evA, enA, en, rl, seqS, stS, stE, incS, putS, fopS, astS, aopS, exS, ifS, skipS, brkS, swS, okb, narV, rf_toNat, rf_nn, sC_0, sC_30, sC_32, R.pc.p0_4, R.pc.p30_3, e1, ca, hx, l1, cl2]
      · simp -implicitDefEqProofs (disch := omega) [fX12_uneasy, bX12_uneasy, runB, retS, retZ, retV, boolE, condE, andC, orC, notC, cmpC, zC, constC, aldE, getE, locE, numE, binE, divE, unE, lenE, cvE, csE, evA, enA, en, rl, seqS, stS, stE, incS, putS, fopS, astS, aopS, exS, ifS, skipS, brkS, swS, okb, narV, rf_toNat, rf_nn, List.getElem?_cons_zero, List.getElem?_cons_succ, turnS, w32_id, w64_id, ite_t, ite_f, Int.toNat_add, Int.toNat_mul, sM_0, sM_15, R.pm.p23, e2, e3, ca, th, cl, j1, j2, j3]
  · refine ⟨-1, μC, μM, ?_, ?_, h, d, n, P, M, R⟩
    · simp -implicitDefEqProofs [fX11_uneasy, bX11_uneasy, runB, retS, retZ, retV, boolE, condE, andC, orC, notC, cmpC, zC, constC, aldE, getE, locE, numE, binE, divE, unE, lenE, cvE, csE, evA, enA, en, rl, seqS, stS, stE, incS, putS, fopS, astS, aopS, exS, ifS, skipS, brkS, swS, okb, narV, rf_toNat, rf_nn, sC_0, e1, ca]
    · simp -implicitDefEqProofs [fX12_uneasy, bX12_uneasy, runB, retS, retZ, retV, boolE, condE, andC, orC, notC, cmpC, zC, constC, aldE, getE, locE, numE, binE, divE, unE, lenE, cvE, csE, evA, enA, en, rl, seqS, stS, stE, incS, putS, fopS, astS, aopS, exS, ifS, skipS, brkS, swS, okb, narV, rf_toNat, rf_nn, sM_0, e2, ca, th]
