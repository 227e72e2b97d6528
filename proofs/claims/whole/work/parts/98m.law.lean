/-! what a told law is worth -/
noncomputable def bthI (o x y : Int) : Int := if o = 4 then w32 (x + y) else if o = 5 then w32 (x - y) else if o = 6 then w32 (x * y) else if o = 7 then (if x < y then 1 else 0) else if o = 8 then (if x = y then 1 else 0) else if o = 9 then (if x ≠ 0 ∧ y ≠ 0 then 1 else 0) else (if x ≠ 0 ∨ y ≠ 0 then 1 else 0)
def upf (f : Nat → Int) (k : Nat) (v : Int) : Nat → Int := fun j => if j = k then v else f j
noncomputable def stp (fc : Nat → Int) (o a : Int) (d : Nat) (s : Nat → Int) : Nat → Int := if o = 1 then upf s d a else if o = 2 then upf s d (fc a.toNat) else if o = 3 then upf s (d - 1) (if s (d - 1) = 0 then 1 else 0) else upf s (d - 2) (bthI o (s (d - 2)) (s (d - 1)))
noncomputable def stk (op arg fc : Nat → Int) (t : Nat) : Nat → (Nat → Int)
  | 0 => fun _ => 0
  | i + 1 => stp fc (op (t + i)) (arg (t + i)) (dpt op t i).toNat (stk op arg fc t i)
set_option maxRecDepth 100000 in theorem r_both {sh : Shp} {μ : Mem} {o x y : Int} (ho : 4 ≤ o ∧ o ≤ 10) : fX12_both sh [(0, o), (0, x), (0, y)] μ = some (bthI o x y, μ) := by
  have h : o = 4 ∨ o = 5 ∨ o = 6 ∨ o = 7 ∨ o = 8 ∨ o = 9 ∨ o = 10 := by omega
  rcases h with rfl | rfl | rfl | rfl | rfl | rfl | rfl
  · simp -implicitDefEqProofs [fX12_both, bX12_both, wX12_both_1_sel, runB, retS, retZ, retV, boolE, condE, andC, orC, notC, cmpC, zC, constC, aldE, getE, locE, numE, binE, divE, unE, lenE, cvE, csE, evA, enA, en, rl, seqS, stS, stE, incS, putS, fopS, astS, aopS, exS, ifS, skipS, brkS, swS, okb, narV, rf_toNat, rf_nn, bthI]
  · simp -implicitDefEqProofs [fX12_both, bX12_both, wX12_both_1_sel, runB, retS, retZ, retV, boolE, condE, andC, orC, notC, cmpC, zC, constC, aldE, getE, locE, numE, binE, divE, unE, lenE, cvE, csE, evA, enA, en, rl, seqS, stS, stE, incS, putS, fopS, astS, aopS, exS, ifS, skipS, brkS, swS, okb, narV, rf_toNat, rf_nn, bthI]
  · simp -implicitDefEqProofs [fX12_both, bX12_both, wX12_both_1_sel, runB, retS, retZ, retV, boolE, condE, andC, orC, notC, cmpC, zC, constC, aldE, getE, locE, numE, binE, divE, unE, lenE, cvE, csE, evA, enA, en, rl, seqS, stS, stE, incS, putS, fopS, astS, aopS, exS, ifS, skipS, brkS, swS, okb, narV, rf_toNat, rf_nn, bthI]
  · by_cases c : x < y <;> simp -implicitDefEqProofs [fX12_both, bX12_both, wX12_both_1_sel, runB, retS, retZ, retV, boolE, condE, andC, orC, notC, cmpC, zC, constC, aldE, getE, locE, numE, binE, divE, unE, lenE, cvE, csE, evA, enA, en, rl, seqS, stS, stE, incS, putS, fopS, astS, aopS, exS, ifS, skipS, brkS, swS, okb, narV, rf_toNat, rf_nn, bthI, c]
  · by_cases c : x = y <;> simp -implicitDefEqProofs [fX12_both, bX12_both, wX12_both_1_sel, runB, retS, retZ, retV, boolE, condE, andC, orC, notC, cmpC, zC, constC, aldE, getE, locE, numE, binE, divE, unE, lenE, cvE, csE, evA, enA, en, rl, seqS, stS, stE, incS, putS, fopS, astS, aopS, exS, ifS, skipS, brkS, swS, okb, narV, rf_toNat, rf_nn, bthI, c]
  · by_cases c : x = 0 <;> by_cases c2 : y = 0 <;> simp -implicitDefEqProofs [fX12_both, bX12_both, wX12_both_1_sel, runB, retS, retZ, retV, boolE, condE, andC, orC, notC, cmpC, zC, constC, aldE, getE, locE, numE, binE, divE, unE, lenE, cvE, csE, evA, enA, en, rl, seqS, stS, stE, incS, putS, fopS, astS, aopS, exS, ifS, skipS, brkS, swS, okb, narV, rf_toNat, rf_nn, bthI, c, c2]
  · by_cases c : x = 0 <;> by_cases c2 : y = 0 <;> simp -implicitDefEqProofs [fX12_both, bX12_both, wX12_both_1_sel, runB, retS, retZ, retV, boolE, condE, andC, orC, notC, cmpC, zC, constC, aldE, getE, locE, numE, binE, divE, unE, lenE, cvE, csE, evA, enA, en, rl, seqS, stS, stE, incS, putS, fopS, astS, aopS, exS, ifS, skipS, brkS, swS, okb, narV, rf_toNat, rf_nn, bthI, c, c2]
set_option maxRecDepth 100000 in theorem c_joined {sh : Shp} {μ : Mem} {o x y : Int} (ho : 4 ≤ o ∧ o ≤ 10) : fX4_joined sh [(0, tkI o), (0, x), (0, y)] μ = some (bthI o x y, μ) := by
  have h : o = 4 ∨ o = 5 ∨ o = 6 ∨ o = 7 ∨ o = 8 ∨ o = 9 ∨ o = 10 := by omega
  rcases h with rfl | rfl | rfl | rfl | rfl | rfl | rfl
  · simp -implicitDefEqProofs [fX4_joined, bX4_joined, wX4_joined_1_sel, tkI, runB, retS, retZ, retV, boolE, condE, andC, orC, notC, cmpC, zC, constC, aldE, getE, locE, numE, binE, divE, unE, lenE, cvE, csE, evA, enA, en, rl, seqS, stS, stE, incS, putS, fopS, astS, aopS, exS, ifS, skipS, brkS, swS, okb, narV, rf_toNat, rf_nn, bthI]
  · simp -implicitDefEqProofs [fX4_joined, bX4_joined, wX4_joined_1_sel, tkI, runB, retS, retZ, retV, boolE, condE, andC, orC, notC, cmpC, zC, constC, aldE, getE, locE, numE, binE, divE, unE, lenE, cvE, csE, evA, enA, en, rl, seqS, stS, stE, incS, putS, fopS, astS, aopS, exS, ifS, skipS, brkS, swS, okb, narV, rf_toNat, rf_nn, bthI]
  · simp -implicitDefEqProofs [fX4_joined, bX4_joined, wX4_joined_1_sel, tkI, runB, retS, retZ, retV, boolE, condE, andC, orC, notC, cmpC, zC, constC, aldE, getE, locE, numE, binE, divE, unE, lenE, cvE, csE, evA, enA, en, rl, seqS, stS, stE, incS, putS, fopS, astS, aopS, exS, ifS, skipS, brkS, swS, okb, narV, rf_toNat, rf_nn, bthI]
  · by_cases c : x < y <;> simp -implicitDefEqProofs [fX4_joined, bX4_joined, wX4_joined_1_sel, tkI, runB, retS, retZ, retV, boolE, condE, andC, orC, notC, cmpC, zC, constC, aldE, getE, locE, numE, binE, divE, unE, lenE, cvE, csE, evA, enA, en, rl, seqS, stS, stE, incS, putS, fopS, astS, aopS, exS, ifS, skipS, brkS, swS, okb, narV, rf_toNat, rf_nn, bthI, c]
  · by_cases c : x = y <;> simp -implicitDefEqProofs [fX4_joined, bX4_joined, wX4_joined_1_sel, tkI, runB, retS, retZ, retV, boolE, condE, andC, orC, notC, cmpC, zC, constC, aldE, getE, locE, numE, binE, divE, unE, lenE, cvE, csE, evA, enA, en, rl, seqS, stS, stE, incS, putS, fopS, astS, aopS, exS, ifS, skipS, brkS, swS, okb, narV, rf_toNat, rf_nn, bthI, c]
  · by_cases c : x = 0 <;> by_cases c2 : y = 0 <;> simp -implicitDefEqProofs [fX4_joined, bX4_joined, wX4_joined_1_sel, tkI, runB, retS, retZ, retV, boolE, condE, andC, orC, notC, cmpC, zC, constC, aldE, getE, locE, numE, binE, divE, unE, lenE, cvE, csE, evA, enA, en, rl, seqS, stS, stE, incS, putS, fopS, astS, aopS, exS, ifS, skipS, brkS, swS, okb, narV, rf_toNat, rf_nn, bthI, c, c2]
  · by_cases c : x = 0 <;> by_cases c2 : y = 0 <;> simp -implicitDefEqProofs [fX4_joined, bX4_joined, wX4_joined_1_sel, tkI, runB, retS, retZ, retV, boolE, condE, andC, orC, notC, cmpC, zC, constC, aldE, getE, locE, numE, binE, divE, unE, lenE, cvE, csE, evA, enA, en, rl, seqS, stS, stE, incS, putS, fopS, astS, aopS, exS, ifS, skipS, brkS, swS, okb, narV, rf_toNat, rf_nn, bthI, c, c2]
set_option maxRecDepth 100000 in theorem c_isFact {sh : Shp} {μ : Mem} (t : Int) : fX4_isFact sh [(0, t)] μ = some (if t < 24 ∧ t ≠ 15 ∧ t ≠ 16 ∧ t ≠ 17 then 1 else 0, μ) := by
  by_cases c : t < 24 <;> by_cases c1 : t = 15 <;> by_cases c2 : t = 16 <;> by_cases c3 : t = 17 <;> simp -implicitDefEqProofs [fX4_isFact, bX4_isFact, runB, retS, retZ, retV, boolE, condE, andC, orC, notC, cmpC, zC, constC, aldE, getE, locE, numE, binE, divE, unE, lenE, cvE, csE, evA, enA, en, rl, seqS, stS, stE, incS, putS, fopS, astS, aopS, exS, ifS, skipS, brkS, swS, okb, narV, rf_toNat, rf_nn, c, c1, c2, c3]
set_option maxRecDepth 100000 in theorem tkI_b {o : Int} (ho : 4 ≤ o ∧ o ≤ 10) : 16 ≤ tkI o ∧ tkI o < 100 ∧ ¬ (tkI o < 24 ∧ tkI o ≠ 15 ∧ tkI o ≠ 16 ∧ tkI o ≠ 17) := by
  have h : o = 4 ∨ o = 5 ∨ o = 6 ∨ o = 7 ∨ o = 8 ∨ o = 9 ∨ o = 10 := by omega
  rcases h with rfl | rfl | rfl | rfl | rfl | rfl | rfl <;> decide
def WOK (W : List Int) : Prop := ∀ a : Nat, a < W.length → 0 ≤ W.getD a 0 ∧ W.getD a 0 < 24 ∧ W.getD a 0 ≠ 15 ∧ W.getD a 0 ≠ 16 ∧ W.getD a 0 ≠ 17
set_option maxRecDepth 100000 in theorem lieW_ok : WOK lieW := by unfold WOK; decide
set_option maxRecDepth 100000 in theorem strW_ok : WOK strW := by unfold WOK; decide
def ObLw (sh : Shp) (μ : Mem) (c : Nat) : Prop := sh[c]? = some (4, 0) ∧ sh[c + 1]? = some (100, 1000) ∧ sh[c + 2]? = some (100, 32) ∧ μ c 0 = rf (c + 1) ∧ μ c 1 = rf (c + 2)
set_option maxRecDepth 100000 in theorem upf_s {f : Nat → Int} {k : Nat} {v : Int} : upf f k v k = v := by unfold upf; rw [if_pos rfl]
set_option maxRecDepth 100000 in theorem upf_n {f : Nat → Int} {k j : Nat} {v : Int} (h : j ≠ k) : upf f k v j = f j := by unfold upf; rw [if_neg h]
set_option maxRecDepth 100000 in theorem PG.dle {W : List Int} {op arg : Nat → Int} {t n : Nat} (z_ : PG W op arg t n) : ∀ j, j ≤ n → dpt op t j ≤ 32
  | 0, _ => by show (0 : Int) ≤ 32; decide
  | j + 1, hj => by
    have h1 := z_.dle j (by omega)
    have h2 := z_.up j (by omega)
    show dpt op t j + (if op (t + j) = 1 ∨ op (t + j) = 2 then 1 else if op (t + j) = 3 then 0 else -1) ≤ 32
    by_cases c : op (t + j) = 1 ∨ op (t + j) = 2
    · have := h2.2.1 c
      rw [if_pos c]
      omega
    · rw [if_neg c]
      split <;> omega
set_option maxRecDepth 100000 in theorem c_worth {sh : Shp} {μ : Mem} {c F t n : Nat} {W : List Int} {op arg fc : Nat → Int} (o : ObLw sh μ c) (hF : sh[F]? = some (100, 24)) (hne : F ≠ c + 2) (hW : WOK W) (hp : PG W op arg t n) (hn : μ c 2 = (n : Int)) (hc : ∀ i, i < n → μ (c + 1) i = enI W (op (t + i)) (arg (t + i))) (hf : ∀ a : Nat, a < W.length → μ F (W.getD a 0).toNat = fc a) : ∃ μ', fX4_worth sh [(2, rf c), (2, rf F)] μ = some (stk op arg fc t n 0, μ') ∧ ∀ a b, a ≠ c + 2 → μ' a b = μ a b := by
  obtain ⟨o0, o1, o2, o3, o4⟩ := o
  obtain ⟨env', μ', h1, ⟨tk, tv, h2, h3, h4, h5⟩⟩ := loop_n (kb := 2) (kc := 3) (c := kX4_worth_0c) (body := kX4_worth_0b) (upd := kX4_worth_0u) (sh := sh) (n := n) (fun j env m => ∃ (tk : Nat) (tv : Int), tk ≠ 1 ∧ env = [(2, rf c), (2, rf F), (0, dpt op t j), (0, (j : Int)), (tk, tv)] ∧ (∀ a b, a ≠ c + 2 → m a b = μ a b) ∧ ∀ i : Nat, (i : Int) < dpt op t j → m (c + 2) i = stk op arg fc t j i) (by
    rintro j env m hj ⟨tk, tv, h2, rfl, h4, h5⟩
    have u := hp.up j hj
    have n0 := hp.n0
    obtain ⟨k1, k2, k3, k4⟩ := hp.ok j hj
    have cj := hc j hj
    obtain ⟨d, hd⟩ := Int.eq_ofNat_of_zero_le u.1
    have ds : dpt op t (j + 1) = dpt op t j + (if op (t + j) = 1 ∨ op (t + j) = 2 then 1 else if op (t + j) = 3 then 0 else -1) := rfl
    have ss : stk op arg fc t (j + 1) = stp fc (op (t + j)) (arg (t + j)) (dpt op t j).toNat (stk op arg fc t j) := rfl
    rw [ds, ss]
    rw [hd] at u h5 ⊢
    try simp only [Int.ofNat_eq_natCast, Int.toNat_natCast] at u h5 ⊢
    generalize stk op arg fc t j = s at h5 ⊢
    have m0 : m c 2 = (n : Int) := by rw [h4 _ _ (by omega)]; exact hn
    have m1 : m c 0 = rf (c + 1) := by rw [h4 _ _ (by omega)]; exact o3
    have m2 : m c 1 = rf (c + 2) := by rw [h4 _ _ (by omega)]; exact o4
    have m3 : m (c + 1) j = enI W (op (t + j)) (arg (t + j)) := by rw [h4 _ _ (by omega)]; exact cj
    have hj2 : j < 1000 := by omega
    have hj3 : (j : Int) < (n : Int) := by omega
    have h2' : ¬ tk = 1 := h2
    have g4 : ∀ (v : Int) (y : Nat), ∀ a b, a ≠ c + 2 → ud m (c + 2) y v a b = μ a b := fun v y a b hab => by rw [ud_c hab]; exact h4 a b hab
    by_cases q1 : op (t + j) = 1
    · have r := k3 q1
      have u2 := u.2.1 (.inl q1)
      rw [q1] at m3 ⊢
      simp only [enI, if_pos] at m3
      have d1 : (d : Int) < 32 := u2
      have z1 : -1 - arg (t + j) < 0 := by omega
      have z2 : w32 (-1 - arg (t + j)) = -1 - arg (t + j) := w32_id ⟨by omega, by omega⟩
      refine ⟨[(2, rf c), (2, rf F), (0, (d : Int) + 1), (0, ((j + 1 : Nat) : Int)), (0, -1 - arg (t + j))], ud m (c + 2) d (arg (t + j)), ?_, 0, (-1 - arg (t + j)), by decide, by simp, g4 _ _, fun i hi => ?_⟩
      · simp -implicitDefEqProofs (disch := omega) [kX4_worth_0c, kX4_worth_0b, kX4_worth_0u, v_cop, v_c1, v_c2, v_c3, v_c4, v_c5, v_bin, v_bn, v_bn2, v_div, v_dv, v_dv2, v_une, v_un, v_loc, v_num, v_get, v_gt, v_ald, v_al, v_al2, v_len, v_ln, v_rl0, v_rl1, v_rl2, v_rl3, v_rl4, v_rl5, v_cmp, v_cp, v_cp2, v_zC, v_zc, v_con, v_kc, v_and, v_an1, v_an0, v_or, v_or1, v_or0, v_not, v_nt, v_boo, v_bo, v_cnd, v_cd1, v_cd0, v_cnc, v_cc1, v_cc0, v_ev0, v_ev, v_e1, v_e2, v_cve, v_cv, v_cse, v_cs, v_skip, v_seq, v_sq0, v_sq1, v_sqr, v_sts, v_st, v_inc, v_put, v_pt, v_pt2, v_fop, v_fo, v_fo2, v_ast, v_as, v_as2, v_as3, v_aop, v_ao, v_ao2, v_ao3, v_exs, v_ex, v_ifs, v_if1, v_if0, v_ret, v_rt, v_rez, v_rz, v_rev, v_brk, v_sws, v_sw, v_sw2, v_run, v_rb, v_turn, v_tu1, v_tu0, v_tu2, v_tu3, fst1, snd1, Option.map_some, Option.getD_some, enA, en, stE, okb, narV, rf_toNat, rf_nn, List.getElem?_cons_zero, List.getElem?_cons_succ, w32_id, w64_id, ite_t, ite_f, Int.toNat_add, Int.toNat_mul, o0, o1, o2, m0, m1, m2, m3, hj, hj2, hj3, h2', d1, z1, z2]
      · simp at hi
        by_cases ci : i = d
        · subst ci; rw [ud_s, stp, if_pos rfl, upf_s]
        · rw [ud_j ci, stp, if_pos rfl, upf_n ci]; exact h5 i (by omega)
    by_cases q2 : op (t + j) = 2
    · have r := k4 q2
      have u2 := u.2.1 (.inr q2)
      rw [q2] at m3 ⊢
      obtain ⟨a, ha⟩ := Int.eq_ofNat_of_zero_le r.1
      rw [ha] at r m3 ⊢
      try simp only [Int.ofNat_eq_natCast, Int.toNat_natCast] at r m3 ⊢
      simp only [enI, Int.toNat_natCast] at m3
      have d1 : (d : Int) < 32 := u2
      obtain ⟨w0, w1, w2, w3, w4⟩ := hW a (by omega)
      have hf2 : m F (W.getD a 0).toNat = fc a := by rw [h4 _ _ hne]; exact hf a (by omega)
      generalize W.getD a 0 = x at m3 w0 w1 w2 w3 w4 hf2
      have m4 : m (c + 1) j = -1 - x := by rw [m3]; simp
      have z2 : w32 (-1 - (-1 - x)) = x := by rw [w32_id ⟨by omega, by omega⟩]; omega
      have z3 : ¬ x < 0 := by omega
      have z2' : -1 - (-1 - x) = x := by omega
      have z4 := c_isFact (sh := sh) (μ := m) x
      rw [if_pos ⟨w1, w2, w3, w4⟩] at z4
      refine ⟨[(2, rf c), (2, rf F), (0, (d : Int) + 1), (0, ((j + 1 : Nat) : Int)), (0, x)], ud m (c + 2) d (fc a), ?_, 0, x, by decide, by simp, g4 _ _, fun i hi => ?_⟩
      · simp -implicitDefEqProofs (disch := omega) [kX4_worth_0c, kX4_worth_0b, kX4_worth_0u, v_cop, v_c1, v_c2, v_c3, v_c4, v_c5, v_bin, v_bn, v_bn2, v_div, v_dv, v_dv2, v_une, v_un, v_loc, v_num, v_get, v_gt, v_ald, v_al, v_al2, v_len, v_ln, v_rl0, v_rl1, v_rl2, v_rl3, v_rl4, v_rl5, v_cmp, v_cp, v_cp2, v_zC, v_zc, v_con, v_kc, v_and, v_an1, v_an0, v_or, v_or1, v_or0, v_not, v_nt, v_boo, v_bo, v_cnd, v_cd1, v_cd0, v_cnc, v_cc1, v_cc0, v_ev0, v_ev, v_e1, v_e2, v_cve, v_cv, v_cse, v_cs, v_skip, v_seq, v_sq0, v_sq1, v_sqr, v_sts, v_st, v_inc, v_put, v_pt, v_pt2, v_fop, v_fo, v_fo2, v_ast, v_as, v_as2, v_as3, v_aop, v_ao, v_ao2, v_ao3, v_exs, v_ex, v_ifs, v_if1, v_if0, v_ret, v_rt, v_rez, v_rz, v_rev, v_brk, v_sws, v_sw, v_sw2, v_run, v_rb, v_turn, v_tu1, v_tu0, v_tu2, v_tu3, fst1, snd1, Option.map_some, Option.getD_some, enA, en, stE, okb, narV, rf_toNat, rf_nn, List.getElem?_cons_zero, List.getElem?_cons_succ, w32_id, w64_id, ite_t, ite_f, Int.toNat_add, Int.toNat_mul, o0, o1, o2, hF, m0, m1, m2, m4, hj, hj2, hj3, h2', d1, z2', z3, z4, w0, w1, hf2]
      · simp at hi
        by_cases ci : i = d
        · subst ci; rw [ud_s, stp, if_neg (by decide), if_pos rfl, Int.toNat_natCast, upf_s]
        · rw [ud_j ci, stp, if_neg (by decide), if_pos rfl, upf_n ci]; exact h5 i (by omega)
    have u3 := u.2.2
    by_cases q3 : op (t + j) = 3
    · have u4 := u3.1 q3
      rw [q3] at m3 ⊢
      have m4 : m (c + 1) j = -16 := by rw [m3]; simp [enI, tkI]
      obtain ⟨e, rfl⟩ : ∃ e, d = e + 1 := ⟨d - 1, by omega⟩
      have z4 := c_isFact (sh := sh) (μ := m) 15
      have z2 : w32 (-1 - -16) = 15 := w32_id ⟨by omega, by omega⟩
      have z5 : ((e + 1 : Nat) : Int) - 1 = (e : Int) := by omega
      have z6 : (0 : Int) < ((e + 1 : Nat) : Int) := by omega
      have z9 : e < 32 := by
        have := hp.dle j (by omega)
        omega
      have z7 : m (c + 2) e = s e := h5 e (by omega)
      refine ⟨[(2, rf c), (2, rf F), (0, ((e + 1 : Nat) : Int)), (0, ((j + 1 : Nat) : Int)), (0, 15)], ud m (c + 2) e (if s e = 0 then 1 else 0), ?_, 0, 15, by decide, by simp, g4 _ _, fun i hi => ?_⟩
      · by_cases c0 : s e = 0
        · simp -implicitDefEqProofs (disch := omega) [kX4_worth_0c, kX4_worth_0b, kX4_worth_0u, v_cop, v_c1, v_c2, v_c3, v_c4, v_c5, v_bin, v_bn, v_bn2, v_div, v_dv, v_dv2, v_une, v_un, v_loc, v_num, v_get, v_gt, v_ald, v_al, v_al2, v_len, v_ln, v_rl0, v_rl1, v_rl2, v_rl3, v_rl4, v_rl5, v_cmp, v_cp, v_cp2, v_zC, v_zc, v_con, v_kc, v_and, v_an1, v_an0, v_or, v_or1, v_or0, v_not, v_nt, v_boo, v_bo, v_cnd, v_cd1, v_cd0, v_cnc, v_cc1, v_cc0, v_ev0, v_ev, v_e1, v_e2, v_cve, v_cv, v_cse, v_cs, v_skip, v_seq, v_sq0, v_sq1, v_sqr, v_sts, v_st, v_inc, v_put, v_pt, v_pt2, v_fop, v_fo, v_fo2, v_ast, v_as, v_as2, v_as3, v_aop, v_ao, v_ao2, v_ao3, v_exs, v_ex, v_ifs, v_if1, v_if0, v_ret, v_rt, v_rez, v_rz, v_rev, v_brk, v_sws, v_sw, v_sw2, v_run, v_rb, v_turn, v_tu1, v_tu0, v_tu2, v_tu3, fst1, snd1, Option.map_some, Option.getD_some, enA, en, stE, okb, narV, rf_toNat, rf_nn, List.getElem?_cons_zero, List.getElem?_cons_succ, w32_id, w64_id, ite_t, ite_f, Int.toNat_add, Int.toNat_mul, o0, o1, o2, m0, m1, m2, m4, hj, hj2, hj3, h2', z2, z4, z5, z6, z7, z9, c0]
        · simp -implicitDefEqProofs (disch := omega) [kX4_worth_0c, kX4_worth_0b, kX4_worth_0u, v_cop, v_c1, v_c2, v_c3, v_c4, v_c5, v_bin, v_bn, v_bn2, v_div, v_dv, v_dv2, v_une, v_un, v_loc, v_num, v_get, v_gt, v_ald, v_al, v_al2, v_len, v_ln, v_rl0, v_rl1, v_rl2, v_rl3, v_rl4, v_rl5, v_cmp, v_cp, v_cp2, v_zC, v_zc, v_con, v_kc, v_and, v_an1, v_an0, v_or, v_or1, v_or0, v_not, v_nt, v_boo, v_bo, v_cnd, v_cd1, v_cd0, v_cnc, v_cc1, v_cc0, v_ev0, v_ev, v_e1, v_e2, v_cve, v_cv, v_cse, v_cs, v_skip, v_seq, v_sq0, v_sq1, v_sqr, v_sts, v_st, v_inc, v_put, v_pt, v_pt2, v_fop, v_fo, v_fo2, v_ast, v_as, v_as2, v_as3, v_aop, v_ao, v_ao2, v_ao3, v_exs, v_ex, v_ifs, v_if1, v_if0, v_ret, v_rt, v_rez, v_rz, v_rev, v_brk, v_sws, v_sw, v_sw2, v_run, v_rb, v_turn, v_tu1, v_tu0, v_tu2, v_tu3, fst1, snd1, Option.map_some, Option.getD_some, enA, en, stE, okb, narV, rf_toNat, rf_nn, List.getElem?_cons_zero, List.getElem?_cons_succ, w32_id, w64_id, ite_t, ite_f, Int.toNat_add, Int.toNat_mul, o0, o1, o2, m0, m1, m2, m4, hj, hj2, hj3, h2', z2, z4, z5, z6, z7, z9, c0]
      · simp at hi
        by_cases ci : i = e
        · subst ci; simp [ud_s, stp, upf_s]
        · rw [ud_j ci, stp, if_neg (by decide), if_neg (by decide), if_pos rfl, Nat.add_sub_cancel, upf_n ci]; exact h5 i (by omega)
    · have u4 := u3.2 (by omega) q3
      have ho : 4 ≤ op (t + j) ∧ op (t + j) ≤ 10 := by omega
      generalize op (t + j) = x at *
      obtain ⟨t0, t1, t2⟩ := tkI_b ho
      have m4 : m (c + 1) j = -1 - tkI x := by rw [m3, enI, if_neg q1, if_neg q2]
      obtain ⟨e, rfl⟩ : ∃ e, d = e + 2 := ⟨d - 2, by omega⟩
      have z4 := c_isFact (sh := sh) (μ := m) (tkI x)
      rw [if_neg t2] at z4
      have z2 : w32 (-1 - (-1 - tkI x)) = tkI x := by rw [w32_id ⟨by omega, by omega⟩]; omega
      have z8 : ¬ tkI x < 0 := by omega
      have z2' : -1 - (-1 - tkI x) = tkI x := by omega
      have z10 : ¬ tkI x = 15 := by omega
      have z5 : w32 (((e + 2 : Nat) : Int) + -1) = ((e + 1 : Nat) : Int) := by
        have := hp.dle j (by omega)
        rw [w32_id ⟨by omega, by omega⟩]; omega
      have z5' : ((e + 1 : Nat) : Int) - 1 = (e : Int) := by omega
      have z6' : (1 : Int) < (e : Int) + 2 := by omega
      have y1 : (e : Int) + 2 + -1 = (e : Int) + 1 := by omega
      have z9 : e + 1 < 32 := by
        have := hp.dle j (by omega)
        omega
      have z9' : e < 32 := by omega
      have z7 : m (c + 2) e = s e := h5 e (by omega)
      have z7' : m (c + 2) (e + 1) = s (e + 1) := h5 (e + 1) (by omega)
      have z11 := c_joined (sh := sh) (μ := m) (o := x) (x := s e) (y := s (e + 1)) ho
      refine ⟨[(2, rf c), (2, rf F), (0, ((e + 1 : Nat) : Int)), (0, ((j + 1 : Nat) : Int)), (0, tkI x)], ud m (c + 2) e (bthI x (s e) (s (e + 1))), ?_, 0, (tkI x), by decide, ?_, g4 _ _, fun i hi => ?_⟩
      · simp -implicitDefEqProofs (disch := omega) [kX4_worth_0c, kX4_worth_0b, kX4_worth_0u, v_cop, v_c1, v_c2, v_c3, v_c4, v_c5, v_bin, v_bn, v_bn2, v_div, v_dv, v_dv2, v_une, v_un, v_loc, v_num, v_get, v_gt, v_ald, v_al, v_al2, v_len, v_ln, v_rl0, v_rl1, v_rl2, v_rl3, v_rl4, v_rl5, v_cmp, v_cp, v_cp2, v_zC, v_zc, v_con, v_kc, v_and, v_an1, v_an0, v_or, v_or1, v_or0, v_not, v_nt, v_boo, v_bo, v_cnd, v_cd1, v_cd0, v_cnc, v_cc1, v_cc0, v_ev0, v_ev, v_e1, v_e2, v_cve, v_cv, v_cse, v_cs, v_skip, v_seq, v_sq0, v_sq1, v_sqr, v_sts, v_st, v_inc, v_put, v_pt, v_pt2, v_fop, v_fo, v_fo2, v_ast, v_as, v_as2, v_as3, v_aop, v_ao, v_ao2, v_ao3, v_exs, v_ex, v_ifs, v_if1, v_if0, v_ret, v_rt, v_rez, v_rz, v_rev, v_brk, v_sws, v_sw, v_sw2, v_run, v_rb, v_turn, v_tu1, v_tu0, v_tu2, v_tu3, fst1, snd1, Option.map_some, Option.getD_some, enA, en, stE, okb, narV, rf_toNat, rf_nn, List.getElem?_cons_zero, List.getElem?_cons_succ, w32_id, w64_id, ite_t, ite_f, Int.toNat_add, Int.toNat_mul, o0, o1, o2, m0, m1, m2, m4, hj, hj2, hj3, h2', z2', z4, z6', y1, z7, z7', z8, z9, z9', z10, z11]
      · simp [q1, q2, q3]
        omega
      · simp [q1, q2, q3] at hi
        by_cases ci : i = e
        · subst ci; rw [ud_s, stp, if_neg q1, if_neg q2, if_neg q3, show i + 2 - 2 = i by omega, show i + 2 - 1 = i + 1 by omega, upf_s]
        · rw [ud_j ci, stp, if_neg q1, if_neg q2, if_neg q3, show e + 2 - 2 = e by omega, upf_n ci]; exact h5 i (by omega)) (by
    rintro env m ⟨tk, tv, h2, rfl, h4, h5⟩
    have m0 : m c 2 = (n : Int) := by rw [h4 _ _ (by omega)]; exact hn
    simp -implicitDefEqProofs (disch := omega) [kX4_worth_0c, v_cop, v_c1, v_c2, v_c3, v_c4, v_c5, v_bin, v_bn, v_bn2, v_div, v_dv, v_dv2, v_une, v_un, v_loc, v_num, v_get, v_gt, v_ald, v_al, v_al2, v_len, v_ln, v_rl0, v_rl1, v_rl2, v_rl3, v_rl4, v_rl5, v_cmp, v_cp, v_cp2, v_zC, v_zc, v_con, v_kc, v_and, v_an1, v_an0, v_or, v_or1, v_or0, v_not, v_nt, v_boo, v_bo, v_cnd, v_cd1, v_cd0, v_cnc, v_cc1, v_cc0, v_ev0, v_ev, v_e1, v_e2, v_cve, v_cv, v_cse, v_cs, v_skip, v_seq, v_sq0, v_sq1, v_sqr, v_sts, v_st, v_inc, v_put, v_pt, v_pt2, v_fop, v_fo, v_fo2, v_ast, v_as, v_as2, v_as3, v_aop, v_ao, v_ao2, v_ao3, v_exs, v_ex, v_ifs, v_if1, v_if0, v_ret, v_rt, v_rez, v_rz, v_rev, v_brk, v_sws, v_sw, v_sw2, v_run, v_rb, v_turn, v_tu1, v_tu0, v_tu2, v_tu3, fst1, snd1, Option.map_some, Option.getD_some, enA, en, stE, okb, narV, rf_toNat, rf_nn, List.getElem?_cons_zero, List.getElem?_cons_succ, w32_id, w64_id, ite_t, ite_f, Int.toNat_add, Int.toNat_mul, o0, m0]) (env := [(2, rf c), (2, rf F), (0, 0), (0, 0), (3, 0)]) (μ := μ) ⟨3, 0, by decide, rfl, fun a b _ => rfl, fun i hi => by
      have : dpt op t 0 = 0 := rfl
      omega⟩
  subst h3
  have m2 : μ' c 1 = rf (c + 2) := by rw [h4 _ _ (by omega)]; exact o4
  have e0 := h5 0 (by have := hp.d1; omega)
  refine ⟨μ', ?_, h4⟩
  simp -implicitDefEqProofs (disch := omega) [fX4_worth, bX4_worth, kX4_worth_0, v_cop, v_c1, v_c2, v_c3, v_c4, v_c5, v_bin, v_bn, v_bn2, v_div, v_dv, v_dv2, v_une, v_un, v_loc, v_num, v_get, v_gt, v_ald, v_al, v_al2, v_len, v_ln, v_rl0, v_rl1, v_rl2, v_rl3, v_rl4, v_rl5, v_cmp, v_cp, v_cp2, v_zC, v_zc, v_con, v_kc, v_and, v_an1, v_an0, v_or, v_or1, v_or0, v_not, v_nt, v_boo, v_bo, v_cnd, v_cd1, v_cd0, v_cnc, v_cc1, v_cc0, v_ev0, v_ev, v_e1, v_e2, v_cve, v_cv, v_cse, v_cs, v_skip, v_seq, v_sq0, v_sq1, v_sqr, v_sts, v_st, v_inc, v_put, v_pt, v_pt2, v_fop, v_fo, v_fo2, v_ast, v_as, v_as2, v_as3, v_aop, v_ao, v_ao2, v_ao3, v_exs, v_ex, v_ifs, v_if1, v_if0, v_ret, v_rt, v_rez, v_rz, v_rev, v_brk, v_sws, v_sw, v_sw2, v_run, v_rb, v_turn, v_tu1, v_tu0, v_tu2, v_tu3, fst1, snd1, Option.map_some, Option.getD_some, enA, en, stE, okb, narV, rf_toNat, rf_nn, List.getElem?_cons_zero, List.getElem?_cons_succ, w32_id, w64_id, ite_t, ite_f, Int.toNat_add, Int.toNat_mul, o0, o2, h1, m2, e0]
set_option maxRecDepth 100000 in theorem r_worthAt {μ : Mem} {t n : Nat} {W : List Int} {fc : Nat → Int} (h : PM μ) (hW : W.length ≤ 8) (hp : PG W (μ 7) (μ 8) t n) (hf : ∀ a : Nat, a < W.length → μ 13 a = fc a) : ∃ μ', fX12_worthAt shM [(2, rf 0), (0, (t : Int))] μ = some (stk (μ 7) (μ 8) fc t n 0, μ') ∧ ∀ a b, a ≠ 14 → μ' a b = μ a b := by
  have hle := hp.le
  obtain ⟨env', μ', h1, ⟨tk, tv, h2, h3, h4, h5⟩⟩ := loop_n (kb := 2) (kc := 3) (c := kX12_worthAt_0c) (body := kX12_worthAt_0b) (upd := kX12_worthAt_0u) (sh := shM) (n := n) (fun j env m => ∃ (tk : Nat) (tv : Int), tk ≠ 1 ∧ env = [(2, rf 0), (0, (t : Int)), (0, dpt (μ 7) t j), (0, ((t + j : Nat) : Int)), (tk, tv)] ∧ (∀ a b, a ≠ 14 → m a b = μ a b) ∧ ∀ i : Nat, (i : Int) < dpt (μ 7) t j → m 14 i = stk (μ 7) (μ 8) fc t j i) (by
    rintro j env m hj ⟨tk, tv, h2, rfl, h4, h5⟩
    have u := hp.up j hj
    have dl := hp.dle j (by omega)
    obtain ⟨k1, k2, k3, k4⟩ := hp.ok j hj
    obtain ⟨d, hd⟩ := Int.eq_ofNat_of_zero_le u.1
    have ds : dpt (μ 7) t (j + 1) = dpt (μ 7) t j + (if μ 7 (t + j) = 1 ∨ μ 7 (t + j) = 2 then 1 else if μ 7 (t + j) = 3 then 0 else -1) := rfl
    have ss : stk (μ 7) (μ 8) fc t (j + 1) = stp fc (μ 7 (t + j)) (μ 8 (t + j)) (dpt (μ 7) t j).toNat (stk (μ 7) (μ 8) fc t j) := rfl
    rw [ds, ss]
    rw [hd] at u h5 dl ⊢
    try simp only [Int.ofNat_eq_natCast, Int.toNat_natCast] at u h5 dl ⊢
    generalize stk (μ 7) (μ 8) fc t j = s at h5 ⊢
    have p : PM m := h.of (fun b => h4 _ _ (by decide)) (fun b => h4 _ _ (by decide)) (fun b => h4 _ _ (by decide)) (fun b => h4 _ _ (by decide))
    have m7 : m 7 (t + j) = μ 7 (t + j) := h4 _ _ (by decide)
    have m8 : m 8 (t + j) = μ 8 (t + j) := h4 _ _ (by decide)
    have hj2 : t + j < 2200 := by omega
    have hj3 : ((t + j : Nat) : Int) < 2200 := by omega
    have h2' : ¬ tk = 1 := h2
    have g4 : ∀ (v : Int) (y : Nat), ∀ a b, a ≠ 14 → ud m 14 y v a b = μ a b := fun v y a b hab => by rw [ud_c hab]; exact h4 a b hab
    have g7 : m 7 (t + j) ≠ 0 := by rw [m7]; omega
    have e0 : w32 (((t + j : Nat) : Int) + 1) = ((t + (j + 1) : Nat) : Int) := by rw [w32_id ⟨by omega, by omega⟩]; omega
    by_cases q1 : μ 7 (t + j) = 1
    · rw [q1] at m7 ⊢
      have d1 : (d : Int) < 1100 := by omega
      refine ⟨[(2, rf 0), (0, (t : Int)), (0, (d : Int) + 1), (0, ((t + (j + 1) : Nat) : Int)), (0, 1)], ud m 14 d (μ 8 (t + j)), ?_, 0, 1, by decide, by simp, g4 _ _, fun i hi => ?_⟩
      · simp -implicitDefEqProofs (disch := omega) [-Int.natCast_add, kX12_worthAt_0c, kX12_worthAt_0b, kX12_worthAt_0u, v_cop, v_c1, v_c2, v_c3, v_c4, v_c5, v_bin, v_bn, v_bn2, v_div, v_dv, v_dv2, v_une, v_un, v_loc, v_num, v_get, v_gt, v_ald, v_al, v_al2, v_len, v_ln, v_rl0, v_rl1, v_rl2, v_rl3, v_rl4, v_rl5, v_cmp, v_cp, v_cp2, v_zC, v_zc, v_con, v_kc, v_and, v_an1, v_an0, v_or, v_or1, v_or0, v_not, v_nt, v_boo, v_bo, v_cnd, v_cd1, v_cd0, v_cnc, v_cc1, v_cc0, v_ev0, v_ev, v_e1, v_e2, v_cve, v_cv, v_cse, v_cs, v_skip, v_seq, v_sq0, v_sq1, v_sqr, v_sts, v_st, v_inc, v_put, v_pt, v_pt2, v_fop, v_fo, v_fo2, v_ast, v_as, v_as2, v_as3, v_aop, v_ao, v_ao2, v_ao3, v_exs, v_ex, v_ifs, v_if1, v_if0, v_ret, v_rt, v_rez, v_rz, v_rev, v_brk, v_sws, v_sw, v_sw2, v_run, v_rb, v_turn, v_tu1, v_tu0, v_tu2, v_tu3, fst1, snd1, Option.map_some, Option.getD_some, enA, en, stE, okb, narV, rf_toNat, rf_nn, List.getElem?_cons_zero, List.getElem?_cons_succ, w32_id, w64_id, ite_t, ite_f, Int.toNat_add, Int.toNat_mul, sM_0, sM_7, sM_8, sM_14, p.p11, p.p12, p.p22, m7, m8, hj2, hj3, h2', d1] <;> omega
      · simp at hi
        by_cases ci : i = d
        · subst ci; rw [ud_s, stp, if_pos rfl, upf_s]
        · rw [ud_j ci, stp, if_pos rfl, upf_n ci]; exact h5 i (by omega)
    by_cases q2 : μ 7 (t + j) = 2
    · have r := k4 q2
      rw [q2] at m7 ⊢
      obtain ⟨a, ha⟩ := Int.eq_ofNat_of_zero_le r.1
      rw [ha] at r m8 ⊢
      try simp only [Int.ofNat_eq_natCast, Int.toNat_natCast] at r m8 ⊢
      have d1 : (d : Int) < 1100 := by omega
      have a1 : (a : Int) < 8 := by omega
      have hf2 : m 13 a = fc a := by rw [h4 _ _ (by decide)]; exact hf a (by omega)
      refine ⟨[(2, rf 0), (0, (t : Int)), (0, (d : Int) + 1), (0, ((t + (j + 1) : Nat) : Int)), (0, 2)], ud m 14 d (fc a), ?_, 0, 2, by decide, by simp, g4 _ _, fun i hi => ?_⟩
      · simp -implicitDefEqProofs (disch := omega) [-Int.natCast_add, kX12_worthAt_0c, kX12_worthAt_0b, kX12_worthAt_0u, v_cop, v_c1, v_c2, v_c3, v_c4, v_c5, v_bin, v_bn, v_bn2, v_div, v_dv, v_dv2, v_une, v_un, v_loc, v_num, v_get, v_gt, v_ald, v_al, v_al2, v_len, v_ln, v_rl0, v_rl1, v_rl2, v_rl3, v_rl4, v_rl5, v_cmp, v_cp, v_cp2, v_zC, v_zc, v_con, v_kc, v_and, v_an1, v_an0, v_or, v_or1, v_or0, v_not, v_nt, v_boo, v_bo, v_cnd, v_cd1, v_cd0, v_cnc, v_cc1, v_cc0, v_ev0, v_ev, v_e1, v_e2, v_cve, v_cv, v_cse, v_cs, v_skip, v_seq, v_sq0, v_sq1, v_sqr, v_sts, v_st, v_inc, v_put, v_pt, v_pt2, v_fop, v_fo, v_fo2, v_ast, v_as, v_as2, v_as3, v_aop, v_ao, v_ao2, v_ao3, v_exs, v_ex, v_ifs, v_if1, v_if0, v_ret, v_rt, v_rez, v_rz, v_rev, v_brk, v_sws, v_sw, v_sw2, v_run, v_rb, v_turn, v_tu1, v_tu0, v_tu2, v_tu3, fst1, snd1, Option.map_some, Option.getD_some, enA, en, stE, okb, narV, rf_toNat, rf_nn, List.getElem?_cons_zero, List.getElem?_cons_succ, w32_id, w64_id, ite_t, ite_f, Int.toNat_add, Int.toNat_mul, sM_0, sM_7, sM_8, sM_13, sM_14, p.p11, p.p12, p.p21, p.p22, m7, m8, hj2, hj3, h2', d1, a1, hf2] <;> omega
      · simp at hi
        by_cases ci : i = d
        · subst ci; rw [ud_s, stp, if_neg (by decide), if_pos rfl, Int.toNat_natCast, upf_s]
        · rw [ud_j ci, stp, if_neg (by decide), if_pos rfl, upf_n ci]; exact h5 i (by omega)
    have u3 := u.2.2
    by_cases q3 : μ 7 (t + j) = 3
    · have u4 := u3.1 q3
      rw [q3] at m7 ⊢
      obtain ⟨e, rfl⟩ : ∃ e, d = e + 1 := ⟨d - 1, by omega⟩
      have z5 : w32 (((e + 1 : Nat) : Int) - 1) = (e : Int) := by rw [w32_id ⟨by omega, by omega⟩]; omega
      have z9 : e < 1100 := by omega
      have z7 : m 14 e = s e := h5 e (by omega)
      refine ⟨[(2, rf 0), (0, (t : Int)), (0, ((e + 1 : Nat) : Int)), (0, ((t + (j + 1) : Nat) : Int)), (0, 3)], ud m 14 e (if s e = 0 then 1 else 0), ?_, 0, 3, by decide, by simp, g4 _ _, fun i hi => ?_⟩
      · by_cases c0 : s e = 0
        · simp -implicitDefEqProofs (disch := omega) [-Int.natCast_add, kX12_worthAt_0c, kX12_worthAt_0b, kX12_worthAt_0u, v_cop, v_c1, v_c2, v_c3, v_c4, v_c5, v_bin, v_bn, v_bn2, v_div, v_dv, v_dv2, v_une, v_un, v_loc, v_num, v_get, v_gt, v_ald, v_al, v_al2, v_len, v_ln, v_rl0, v_rl1, v_rl2, v_rl3, v_rl4, v_rl5, v_cmp, v_cp, v_cp2, v_zC, v_zc, v_con, v_kc, v_and, v_an1, v_an0, v_or, v_or1, v_or0, v_not, v_nt, v_boo, v_bo, v_cnd, v_cd1, v_cd0, v_cnc, v_cc1, v_cc0, v_ev0, v_ev, v_e1, v_e2, v_cve, v_cv, v_cse, v_cs, v_skip, v_seq, v_sq0, v_sq1, v_sqr, v_sts, v_st, v_inc, v_put, v_pt, v_pt2, v_fop, v_fo, v_fo2, v_ast, v_as, v_as2, v_as3, v_aop, v_ao, v_ao2, v_ao3, v_exs, v_ex, v_ifs, v_if1, v_if0, v_ret, v_rt, v_rez, v_rz, v_rev, v_brk, v_sws, v_sw, v_sw2, v_run, v_rb, v_turn, v_tu1, v_tu0, v_tu2, v_tu3, fst1, snd1, Option.map_some, Option.getD_some, enA, en, stE, okb, narV, rf_toNat, rf_nn, List.getElem?_cons_zero, List.getElem?_cons_succ, w32_id, w64_id, ite_t, ite_f, Int.toNat_add, Int.toNat_mul, sM_0, sM_7, sM_14, p.p11, p.p22, m7, hj2, hj3, h2', z5, z7, z9, c0] <;> omega
        · simp -implicitDefEqProofs (disch := omega) [-Int.natCast_add, kX12_worthAt_0c, kX12_worthAt_0b, kX12_worthAt_0u, v_cop, v_c1, v_c2, v_c3, v_c4, v_c5, v_bin, v_bn, v_bn2, v_div, v_dv, v_dv2, v_une, v_un, v_loc, v_num, v_get, v_gt, v_ald, v_al, v_al2, v_len, v_ln, v_rl0, v_rl1, v_rl2, v_rl3, v_rl4, v_rl5, v_cmp, v_cp, v_cp2, v_zC, v_zc, v_con, v_kc, v_and, v_an1, v_an0, v_or, v_or1, v_or0, v_not, v_nt, v_boo, v_bo, v_cnd, v_cd1, v_cd0, v_cnc, v_cc1, v_cc0, v_ev0, v_ev, v_e1, v_e2, v_cve, v_cv, v_cse, v_cs, v_skip, v_seq, v_sq0, v_sq1, v_sqr, v_sts, v_st, v_inc, v_put, v_pt, v_pt2, v_fop, v_fo, v_fo2, v_ast, v_as, v_as2, v_as3, v_aop, v_ao, v_ao2, v_ao3, v_exs, v_ex, v_ifs, v_if1, v_if0, v_ret, v_rt, v_rez, v_rz, v_rev, v_brk, v_sws, v_sw, v_sw2, v_run, v_rb, v_turn, v_tu1, v_tu0, v_tu2, v_tu3, fst1, snd1, Option.map_some, Option.getD_some, enA, en, stE, okb, narV, rf_toNat, rf_nn, List.getElem?_cons_zero, List.getElem?_cons_succ, w32_id, w64_id, ite_t, ite_f, Int.toNat_add, Int.toNat_mul, sM_0, sM_7, sM_14, p.p11, p.p22, m7, hj2, hj3, h2', z5, z7, z9, c0] <;> omega
      · simp at hi
        by_cases ci : i = e
        · subst ci; simp [ud_s, stp, upf_s]
        · rw [ud_j ci, stp, if_neg (by decide), if_neg (by decide), if_pos rfl, Nat.add_sub_cancel, upf_n ci]; exact h5 i (by omega)
    · have u4 := u3.2 (by omega) q3
      have ho : 4 ≤ μ 7 (t + j) ∧ μ 7 (t + j) ≤ 10 := by omega
      generalize μ 7 (t + j) = x at *
      obtain ⟨e, rfl⟩ : ∃ e, d = e + 2 := ⟨d - 2, by omega⟩
      have x0 : ¬ x = 0 := by omega
      rw [show ((e + 2 : Nat) : Int) = (e : Int) + 2 by omega] at *
      have z9 : e + 1 < 1100 := by omega
      have z9a : (e : Int) + 1 < 1100 := by omega
      have y1 : (e : Int) + 2 + -1 = (e : Int) + 1 := by omega
      have z9' : e < 1100 := by omega
      have z7 : m 14 e = s e := h5 e (by omega)
      have z7' : m 14 (e + 1) = s (e + 1) := h5 (e + 1) (by omega)
      have z11 := r_both (sh := shM) (μ := m) (o := x) (x := s e) (y := s (e + 1)) ho
      refine ⟨[(2, rf 0), (0, (t : Int)), (0, (e : Int) + 1), (0, ((t + (j + 1) : Nat) : Int)), (0, x)], ud m 14 e (bthI x (s e) (s (e + 1))), ?_, 0, x, by decide, ?_, g4 _ _, fun i hi => ?_⟩
      · simp -implicitDefEqProofs (disch := omega) [-Int.natCast_add, kX12_worthAt_0c, kX12_worthAt_0b, kX12_worthAt_0u, v_cop, v_c1, v_c2, v_c3, v_c4, v_c5, v_bin, v_bn, v_bn2, v_div, v_dv, v_dv2, v_une, v_un, v_loc, v_num, v_get, v_gt, v_ald, v_al, v_al2, v_len, v_ln, v_rl0, v_rl1, v_rl2, v_rl3, v_rl4, v_rl5, v_cmp, v_cp, v_cp2, v_zC, v_zc, v_con, v_kc, v_and, v_an1, v_an0, v_or, v_or1, v_or0, v_not, v_nt, v_boo, v_bo, v_cnd, v_cd1, v_cd0, v_cnc, v_cc1, v_cc0, v_ev0, v_ev, v_e1, v_e2, v_cve, v_cv, v_cse, v_cs, v_skip, v_seq, v_sq0, v_sq1, v_sqr, v_sts, v_st, v_inc, v_put, v_pt, v_pt2, v_fop, v_fo, v_fo2, v_ast, v_as, v_as2, v_as3, v_aop, v_ao, v_ao2, v_ao3, v_exs, v_ex, v_ifs, v_if1, v_if0, v_ret, v_rt, v_rez, v_rz, v_rev, v_brk, v_sws, v_sw, v_sw2, v_run, v_rb, v_turn, v_tu1, v_tu0, v_tu2, v_tu3, fst1, snd1, Option.map_some, Option.getD_some, enA, en, stE, okb, narV, rf_toNat, rf_nn, List.getElem?_cons_zero, List.getElem?_cons_succ, w32_id, w64_id, ite_t, ite_f, Int.toNat_add, Int.toNat_mul, sM_0, sM_7, sM_14, p.p11, p.p22, m7, hj2, hj3, h2', q1, q2, q3, x0, y1, z7, z7', z9, z9a, z9', z11] <;> omega
      · simp [q1, q2, q3]
        omega
      · simp [q1, q2, q3] at hi
        by_cases ci : i = e
        · subst ci; rw [ud_s, stp, if_neg q1, if_neg q2, if_neg q3, show i + 2 - 2 = i by omega, show i + 2 - 1 = i + 1 by omega, upf_s]
        · rw [ud_j ci, stp, if_neg q1, if_neg q2, if_neg q3, show e + 2 - 2 = e by omega, upf_n ci]; exact h5 i (by omega)) (by
    rintro env m ⟨tk, tv, h2, rfl, h4, h5⟩
    have p : PM m := h.of (fun b => h4 _ _ (by decide)) (fun b => h4 _ _ (by decide)) (fun b => h4 _ _ (by decide)) (fun b => h4 _ _ (by decide))
    have m7 : m 7 (t + n) = 0 := by rw [h4 _ _ (by decide)]; exact hp.e0
    have hj2 : t + n < 2200 := by omega
    have hj3 : ((t + n : Nat) : Int) < 2200 := by omega
    simp -implicitDefEqProofs (disch := omega) [-Int.natCast_add, kX12_worthAt_0c, v_cop, v_c1, v_c2, v_c3, v_c4, v_c5, v_bin, v_bn, v_bn2, v_div, v_dv, v_dv2, v_une, v_un, v_loc, v_num, v_get, v_gt, v_ald, v_al, v_al2, v_len, v_ln, v_rl0, v_rl1, v_rl2, v_rl3, v_rl4, v_rl5, v_cmp, v_cp, v_cp2, v_zC, v_zc, v_con, v_kc, v_and, v_an1, v_an0, v_or, v_or1, v_or0, v_not, v_nt, v_boo, v_bo, v_cnd, v_cd1, v_cd0, v_cnc, v_cc1, v_cc0, v_ev0, v_ev, v_e1, v_e2, v_cve, v_cv, v_cse, v_cs, v_skip, v_seq, v_sq0, v_sq1, v_sqr, v_sts, v_st, v_inc, v_put, v_pt, v_pt2, v_fop, v_fo, v_fo2, v_ast, v_as, v_as2, v_as3, v_aop, v_ao, v_ao2, v_ao3, v_exs, v_ex, v_ifs, v_if1, v_if0, v_ret, v_rt, v_rez, v_rz, v_rev, v_brk, v_sws, v_sw, v_sw2, v_run, v_rb, v_turn, v_tu1, v_tu0, v_tu2, v_tu3, fst1, snd1, Option.map_some, Option.getD_some, enA, en, stE, okb, narV, rf_toNat, rf_nn, List.getElem?_cons_zero, List.getElem?_cons_succ, w32_id, w64_id, ite_t, ite_f, Int.toNat_add, Int.toNat_mul, sM_0, sM_7, p.p11, m7, hj2, hj3]) (env := [(2, rf 0), (0, (t : Int)), (0, 0), (0, (t : Int)), (3, 0)]) (μ := μ) ⟨3, 0, by decide, rfl, fun a b _ => rfl, fun i hi => by
      have : dpt (μ 7) t 0 = 0 := rfl
      omega⟩
  subst h3
  have p : PM μ' := h.of (fun b => h4 _ _ (by decide)) (fun b => h4 _ _ (by decide)) (fun b => h4 _ _ (by decide)) (fun b => h4 _ _ (by decide))
  have e0 := h5 0 (by have := hp.d1; omega)
  refine ⟨μ', ?_, h4⟩
  simp -implicitDefEqProofs (disch := omega) [fX12_worthAt, bX12_worthAt, kX12_worthAt_0, v_cop, v_c1, v_c2, v_c3, v_c4, v_c5, v_bin, v_bn, v_bn2, v_div, v_dv, v_dv2, v_une, v_un, v_loc, v_num, v_get, v_gt, v_ald, v_al, v_al2, v_len, v_ln, v_rl0, v_rl1, v_rl2, v_rl3, v_rl4, v_rl5, v_cmp, v_cp, v_cp2, v_zC, v_zc, v_con, v_kc, v_and, v_an1, v_an0, v_or, v_or1, v_or0, v_not, v_nt, v_boo, v_bo, v_cnd, v_cd1, v_cd0, v_cnc, v_cc1, v_cc0, v_ev0, v_ev, v_e1, v_e2, v_cve, v_cv, v_cse, v_cs, v_skip, v_seq, v_sq0, v_sq1, v_sqr, v_sts, v_st, v_inc, v_put, v_pt, v_pt2, v_fop, v_fo, v_fo2, v_ast, v_as, v_as2, v_as3, v_aop, v_ao, v_ao2, v_ao3, v_exs, v_ex, v_ifs, v_if1, v_if0, v_ret, v_rt, v_rez, v_rz, v_rev, v_brk, v_sws, v_sw, v_sw2, v_run, v_rb, v_turn, v_tu1, v_tu0, v_tu2, v_tu3, fst1, snd1, Option.map_some, Option.getD_some, enA, en, stE, okb, narV, rf_toNat, rf_nn, List.getElem?_cons_zero, List.getElem?_cons_succ, w32_id, w64_id, ite_t, ite_f, Int.toNat_add, Int.toNat_mul, sM_0, sM_14, h1, p.p22, e0]
