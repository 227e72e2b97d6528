/-! few looks: the reference -/
set_option maxRecDepth 100000 in theorem or_step16 {f : Nat → Bool} {j : Nat} (hj : j < 16) : (f j = true → o_ior ((msk f j : Nat) : Int) (o_ishl 1 (j : Int)) = ((msk f (j + 1) : Nat) : Int)) ∧ (f j = false → o_ior ((msk f j : Nat) : Int) 0 = ((msk f (j + 1) : Nat) : Int)) := by
  have h1 : msk f j < 2 ^ 16 := Nat.lt_of_lt_of_le (msk_lt f j) (Nat.pow_le_pow_right (by decide) (by omega))
  have h2 : 2 ^ j < 2 ^ 16 := Nat.pow_lt_pow_right (by decide) hj
  have e : msk f (j + 1) = msk f j ||| (if f j then 2 ^ j else 0) := rfl
  rw [e]
  constructor
  · intro h
    rw [h, ishl1 (by omega), ior_nat (by omega) (by omega)]
    rfl
  · intro h
    rw [h, show (0 : Int) = ((0 : Nat) : Int) from rfl, ior_nat (by omega) (by omega)]
    rfl
set_option maxRecDepth 100000 in theorem r_split {m : Mem} {S : Nat → Nat} {K r b : Nat} (p : PM m) (hK : K ≤ 16) (h28 : m 0 28 = (K : Int)) (hS : ∀ k, k < K → m 18 k = (S k : Int)) (hlt : ∀ k, k < K → S k < 4096) (hr : r < 65536) (hb : b < 12) : fX12_split shM [(2, rf 0), (0, (r : Int)), (0, (b : Int))] m = some (((spl S K r b : Nat) : Int), m) := by
  unfold spl
  have lp := loop_run (kb := 2) (kc := 3) (c := kX12_split_0c) (body := kX12_split_0b) (upd := kX12_split_0u) (sh := shM) (fun j => [(2, rf 0), (0, (r : Int)), (0, (b : Int)), (0, ((msk (fun k => r.testBit k && (S k).testBit b) j : Nat) : Int)), (0, (j : Int))]) (fun _ => m) (r := (0, 0, [(2, rf 0), (0, (r : Int)), (0, (b : Int)), (0, ((msk (fun k => r.testBit k && (S k).testBit b) K : Nat) : Int)), (0, (K : Int))], m)) K (by
    intro j hj
    obtain ⟨o1, o2⟩ := or_step16 (f := fun k => r.testBit k && (S k).testBit b) (show j < 16 by omega)
    have e1 := bit_nat (w := r) (b := j) (by omega) (by omega)
    have sj := hlt j hj
    have e2 := bit_nat (w := S j) (b := b) (by omega) (by omega)
    have e3 := hS j hj
    generalize ((msk (fun k => r.testBit k && (S k).testBit b) (j + 1) : Nat) : Int) = V at *
    generalize ((msk (fun k => r.testBit k && (S k).testBit b) j : Nat) : Int) = U at *
    generalize S j = sj_ at *
    clear hS hlt
    cases h1 : r.testBit j <;> cases h2 : sj_.testBit b <;> rw [h1] at e1 <;> rw [h2] at e2
    · have o2 := o2 (by rw [h1]; rfl)
      simp -implicitDefEqProofs (disch := omega) [kX12_split_0c, kX12_split_0b, kX12_split_0u, v_cop, v_c1, v_c2, v_c3, v_c4, v_c5, v_bin, v_bn, v_bn2, v_div, v_dv, v_dv2, v_une, v_un, v_loc, v_num, v_get, v_gt, v_ald, v_al, v_al2, v_len, v_ln, v_rl0, v_rl1, v_rl2, v_rl3, v_rl4, v_rl5, v_cmp, v_cp, v_cp2, v_zC, v_zc, v_con, v_kc, v_and, v_an1, v_an0, v_or, v_or1, v_or0, v_not, v_nt, v_boo, v_bo, v_cnd, v_cd1, v_cd0, v_cnc, v_cc1, v_cc0, v_ev0, v_ev, v_e1, v_e2, v_cve, v_cv, v_cse, v_cs, v_skip, v_seq, v_sq0, v_sq1, v_sqr, v_sts, v_st, v_inc, v_put, v_pt, v_pt2, v_fop, v_fo, v_fo2, v_ast, v_as, v_as2, v_as3, v_aop, v_ao, v_ao2, v_ao3, v_exs, v_ex, v_ifs, v_if1, v_if0, v_ret, v_rt, v_rez, v_rz, v_rev, v_brk, v_sws, v_sw, v_sw2, v_run, v_rb, v_turn, v_tu1, v_tu0, v_tu2, v_tu3, fst1, snd1, Option.map_some, Option.getD_some, enA, en, stE, okb, narV, rf_toNat, rf_nn, List.getElem?_cons_zero, List.getElem?_cons_succ, w32_id, w64_id, ite_t, ite_f, Int.toNat_add, Int.toNat_mul, dec_t, dec_f, sM_0, sM_18, p.p27, h28, e1, e2, e3, o2]
    · have o2 := o2 (by rw [h1]; rfl)
      simp -implicitDefEqProofs (disch := omega) [kX12_split_0c, kX12_split_0b, kX12_split_0u, v_cop, v_c1, v_c2, v_c3, v_c4, v_c5, v_bin, v_bn, v_bn2, v_div, v_dv, v_dv2, v_une, v_un, v_loc, v_num, v_get, v_gt, v_ald, v_al, v_al2, v_len, v_ln, v_rl0, v_rl1, v_rl2, v_rl3, v_rl4, v_rl5, v_cmp, v_cp, v_cp2, v_zC, v_zc, v_con, v_kc, v_and, v_an1, v_an0, v_or, v_or1, v_or0, v_not, v_nt, v_boo, v_bo, v_cnd, v_cd1, v_cd0, v_cnc, v_cc1, v_cc0, v_ev0, v_ev, v_e1, v_e2, v_cve, v_cv, v_cse, v_cs, v_skip, v_seq, v_sq0, v_sq1, v_sqr, v_sts, v_st, v_inc, v_put, v_pt, v_pt2, v_fop, v_fo, v_fo2, v_ast, v_as, v_as2, v_as3, v_aop, v_ao, v_ao2, v_ao3, v_exs, v_ex, v_ifs, v_if1, v_if0, v_ret, v_rt, v_rez, v_rz, v_rev, v_brk, v_sws, v_sw, v_sw2, v_run, v_rb, v_turn, v_tu1, v_tu0, v_tu2, v_tu3, fst1, snd1, Option.map_some, Option.getD_some, enA, en, stE, okb, narV, rf_toNat, rf_nn, List.getElem?_cons_zero, List.getElem?_cons_succ, w32_id, w64_id, ite_t, ite_f, Int.toNat_add, Int.toNat_mul, dec_t, dec_f, sM_0, sM_18, p.p27, h28, e1, e2, e3, o2]
    · have o2 := o2 (by rw [h1, h2]; rfl)
      simp -implicitDefEqProofs (disch := omega) [kX12_split_0c, kX12_split_0b, kX12_split_0u, v_cop, v_c1, v_c2, v_c3, v_c4, v_c5, v_bin, v_bn, v_bn2, v_div, v_dv, v_dv2, v_une, v_un, v_loc, v_num, v_get, v_gt, v_ald, v_al, v_al2, v_len, v_ln, v_rl0, v_rl1, v_rl2, v_rl3, v_rl4, v_rl5, v_cmp, v_cp, v_cp2, v_zC, v_zc, v_con, v_kc, v_and, v_an1, v_an0, v_or, v_or1, v_or0, v_not, v_nt, v_boo, v_bo, v_cnd, v_cd1, v_cd0, v_cnc, v_cc1, v_cc0, v_ev0, v_ev, v_e1, v_e2, v_cve, v_cv, v_cse, v_cs, v_skip, v_seq, v_sq0, v_sq1, v_sqr, v_sts, v_st, v_inc, v_put, v_pt, v_pt2, v_fop, v_fo, v_fo2, v_ast, v_as, v_as2, v_as3, v_aop, v_ao, v_ao2, v_ao3, v_exs, v_ex, v_ifs, v_if1, v_if0, v_ret, v_rt, v_rez, v_rz, v_rev, v_brk, v_sws, v_sw, v_sw2, v_run, v_rb, v_turn, v_tu1, v_tu0, v_tu2, v_tu3, fst1, snd1, Option.map_some, Option.getD_some, enA, en, stE, okb, narV, rf_toNat, rf_nn, List.getElem?_cons_zero, List.getElem?_cons_succ, w32_id, w64_id, ite_t, ite_f, Int.toNat_add, Int.toNat_mul, dec_t, dec_f, sM_0, sM_18, p.p27, h28, e1, e2, e3, o2]
    · have o1 := o1 (by rw [h1, h2]; rfl)
      simp -implicitDefEqProofs (disch := omega) [kX12_split_0c, kX12_split_0b, kX12_split_0u, v_cop, v_c1, v_c2, v_c3, v_c4, v_c5, v_bin, v_bn, v_bn2, v_div, v_dv, v_dv2, v_une, v_un, v_loc, v_num, v_get, v_gt, v_ald, v_al, v_al2, v_len, v_ln, v_rl0, v_rl1, v_rl2, v_rl3, v_rl4, v_rl5, v_cmp, v_cp, v_cp2, v_zC, v_zc, v_con, v_kc, v_and, v_an1, v_an0, v_or, v_or1, v_or0, v_not, v_nt, v_boo, v_bo, v_cnd, v_cd1, v_cd0, v_cnc, v_cc1, v_cc0, v_ev0, v_ev, v_e1, v_e2, v_cve, v_cv, v_cse, v_cs, v_skip, v_seq, v_sq0, v_sq1, v_sqr, v_sts, v_st, v_inc, v_put, v_pt, v_pt2, v_fop, v_fo, v_fo2, v_ast, v_as, v_as2, v_as3, v_aop, v_ao, v_ao2, v_ao3, v_exs, v_ex, v_ifs, v_if1, v_if0, v_ret, v_rt, v_rez, v_rz, v_rev, v_brk, v_sws, v_sw, v_sw2, v_run, v_rb, v_turn, v_tu1, v_tu0, v_tu2, v_tu3, fst1, snd1, Option.map_some, Option.getD_some, enA, en, stE, okb, narV, rf_toNat, rf_nn, List.getElem?_cons_zero, List.getElem?_cons_succ, w32_id, w64_id, ite_t, ite_f, Int.toNat_add, Int.toNat_mul, dec_t, dec_f, sM_0, sM_18, p.p27, h28, e1, e2, e3, o1]) (by simp -implicitDefEqProofs (disch := omega) [kX12_split_0c, v_cop, v_c1, v_c2, v_c3, v_c4, v_c5, v_bin, v_bn, v_bn2, v_div, v_dv, v_dv2, v_une, v_un, v_loc, v_num, v_get, v_gt, v_ald, v_al, v_al2, v_len, v_ln, v_rl0, v_rl1, v_rl2, v_rl3, v_rl4, v_rl5, v_cmp, v_cp, v_cp2, v_zC, v_zc, v_con, v_kc, v_and, v_an1, v_an0, v_or, v_or1, v_or0, v_not, v_nt, v_boo, v_bo, v_cnd, v_cd1, v_cd0, v_cnc, v_cc1, v_cc0, v_ev0, v_ev, v_e1, v_e2, v_cve, v_cv, v_cse, v_cs, v_skip, v_seq, v_sq0, v_sq1, v_sqr, v_sts, v_st, v_inc, v_put, v_pt, v_pt2, v_fop, v_fo, v_fo2, v_ast, v_as, v_as2, v_as3, v_aop, v_ao, v_ao2, v_ao3, v_exs, v_ex, v_ifs, v_if1, v_if0, v_ret, v_rt, v_rez, v_rz, v_rev, v_brk, v_sws, v_sw, v_sw2, v_run, v_rb, v_turn, v_tu1, v_tu0, v_tu2, v_tu3, fst1, snd1, Option.map_some, Option.getD_some, enA, en, stE, okb, narV, rf_toNat, rf_nn, List.getElem?_cons_zero, List.getElem?_cons_succ, w32_id, w64_id, ite_t, ite_f, Int.toNat_add, Int.toNat_mul, dec_t, dec_f, sM_0, h28])
  have e0 : msk (fun k => r.testBit k && (S k).testBit b) 0 = 0 := rfl
  simp only [e0] at lp
  rw [show ((0 : Nat) : Int) = 0 from rfl] at lp
  generalize ((msk (fun k => r.testBit k && (S k).testBit b) K : Nat) : Int) = V at *
  simp -implicitDefEqProofs (disch := omega) [fX12_split, bX12_split, kX12_split_0, v_cop, v_c1, v_c2, v_c3, v_c4, v_c5, v_bin, v_bn, v_bn2, v_div, v_dv, v_dv2, v_une, v_un, v_loc, v_num, v_get, v_gt, v_ald, v_al, v_al2, v_len, v_ln, v_rl0, v_rl1, v_rl2, v_rl3, v_rl4, v_rl5, v_cmp, v_cp, v_cp2, v_zC, v_zc, v_con, v_kc, v_and, v_an1, v_an0, v_or, v_or1, v_or0, v_not, v_nt, v_boo, v_bo, v_cnd, v_cd1, v_cd0, v_cnc, v_cc1, v_cc0, v_ev0, v_ev, v_e1, v_e2, v_cve, v_cv, v_cse, v_cs, v_skip, v_seq, v_sq0, v_sq1, v_sqr, v_sts, v_st, v_inc, v_put, v_pt, v_pt2, v_fop, v_fo, v_fo2, v_ast, v_as, v_as2, v_as3, v_aop, v_ao, v_ao2, v_ao3, v_exs, v_ex, v_ifs, v_if1, v_if0, v_ret, v_rt, v_rez, v_rz, v_rev, v_brk, v_sws, v_sw, v_sw2, v_run, v_rb, v_turn, v_tu1, v_tu0, v_tu2, v_tu3, fst1, snd1, Option.map_some, Option.getD_some, enA, en, stE, okb, narV, rf_toNat, rf_nn, List.getElem?_cons_zero, List.getElem?_cons_succ, w32_id, w64_id, ite_t, ite_f, Int.toNat_add, Int.toNat_mul, dec_t, dec_f, lp]
set_option maxRecDepth 100000 in theorem nar_b : ∀ c : Int, 0 ≤ c → c ≤ 126 → (vp_nar .byte (Int32.ofInt (o_i2b c))).toInt = c := by
  intro c h1 h2
  obtain ⟨n, rfl⟩ := Int.eq_ofNat_of_zero_le h1
  unfold o_i2b
  rw [opq_eq]
  have h : ∀ b : Fin 127, narV 103 ((Int32.ofInt ((b : Nat) : Int)).toInt8.toInt32.toInt) = ((b : Nat) : Int) := by decide +kernel
  exact h ⟨n, by omega⟩
/-- what stays while looks are counted, and what is known -/
def LookS (μ : Mem) (S : Nat → Nat) (n K : Nat) (m : Mem) : Prop := (∀ x y, x ≠ 19 → m x y = μ x y) ∧ ∀ r, r < 2 ^ K → m 19 r = -1 ∨ m 19 r = ((lkM S n K r : Nat) : Int)
def LookG (μ : Mem) (S : Nat → Nat) (n K : Nat) : Prop := PM μ ∧ μ 6 1 = (n : Int) ∧ n ≤ 12 ∧ DS S n K ∧ μ 0 28 = (K : Int) ∧ (∀ k, k < K → μ 18 k = (S k : Int)) ∧ ∀ k, k < K → S k < 4096
def LookF (μ : Mem) (S : Nat → Nat) (n K d c : Nat) : Prop := ∀ r m, r < 2 ^ K → pcN 16 r ≤ c → LookS μ S n K m → ∃ m', gGX12_looksBy d 1 shM [(2, rf 0), (0, (r : Int))] m = some (((lkM S n K r : Nat) : Int), m') ∧ LookS μ S n K m'
set_option maxRecDepth 100000 in theorem LookS.pm {μ m : Mem} {S : Nat → Nat} {n K : Nat} (h : LookS μ S n K m) (p : PM μ) : PM m := p.keep (S := fun x y => x = 19) (fun x y hs => h.1 x y hs) (by decide)
set_option maxRecDepth 100000 in theorem r_by {μ : Mem} {S : Nat → Nat} {n K d c : Nat} (G : LookG μ S n K) (ih : LookF μ S n K d c) {r b : Nat} {m : Mem} (hr : r < 2 ^ K) (hp : pcN 16 r ≤ c + 1) (hb : b < n) (L : LookS μ S n K m) : ∃ m', gGX12_looksBy (d + 1) 0 shM [(2, rf 0), (0, (r : Int)), (0, (b : Int))] m = some (((lkB S K (lkM S n K) r b : Nat) : Int), m') ∧ LookS μ S n K m' := by
  obtain ⟨p, -, n1, D, g28, gS, glt⟩ := G
  have r16 := K16 D.1 hr
  have pm := L.pm p
  have es := r_split (S := S) (K := K) (r := r) (b := b) pm D.1 (by rw [L.1 _ _ (by omega)]; exact g28) (fun k hk => by rw [L.1 _ _ (by omega)]; exact gS k hk) glt r16 (by omega)
  have sub := spl_sub S K r b
  have l1 := sub_le sub
  have sl : spl S K r b < 2 ^ K := spl_lt
  have ad := iandn_an (a := r) (b := spl S K r b) (by omega) (by omega)
  have f0 : gGX12_looksBy (d + 1) 0 = runB 6 (bX12_looksBy (gGX12_looksBy d)) := rfl
  rw [f0]
  unfold lkB
  by_cases c2 : spl S K r b = 0 ∨ spl S K r b = r
  · rw [if_pos c2]
    refine ⟨m, ?_, L⟩
    clear gS glt ad
    by_cases c3 : spl S K r b = 0
    · rw [c3] at es
      simp -implicitDefEqProofs (disch := omega) [bX12_looksBy, v_cop, v_c1, v_c2, v_c3, v_c4, v_c5, v_bin, v_bn, v_bn2, v_div, v_dv, v_dv2, v_une, v_un, v_loc, v_num, v_get, v_gt, v_ald, v_al, v_al2, v_len, v_ln, v_rl0, v_rl1, v_rl2, v_rl3, v_rl4, v_rl5, v_cmp, v_cp, v_cp2, v_zC, v_zc, v_con, v_kc, v_and, v_an1, v_an0, v_or, v_or1, v_or0, v_not, v_nt, v_boo, v_bo, v_cnd, v_cd1, v_cd0, v_cnc, v_cc1, v_cc0, v_ev0, v_ev, v_e1, v_e2, v_cve, v_cv, v_cse, v_cs, v_skip, v_seq, v_sq0, v_sq1, v_sqr, v_sts, v_st, v_inc, v_put, v_pt, v_pt2, v_fop, v_fo, v_fo2, v_ast, v_as, v_as2, v_as3, v_aop, v_ao, v_ao2, v_ao3, v_exs, v_ex, v_ifs, v_if1, v_if0, v_ret, v_rt, v_rez, v_rz, v_rev, v_brk, v_sws, v_sw, v_sw2, v_run, v_rb, v_turn, v_tu1, v_tu0, v_tu2, v_tu3, fst1, snd1, Option.map_some, Option.getD_some, enA, en, stE, okb, narV, rf_toNat, rf_nn, List.getElem?_cons_zero, List.getElem?_cons_succ, w32_id, w64_id, ite_t, ite_f, Int.toNat_add, Int.toNat_mul, dec_t, dec_f, sM_0, es]
    · have c4 : spl S K r b = r := by omega
      rw [c4] at es c3
      simp -implicitDefEqProofs (disch := omega) [bX12_looksBy, v_cop, v_c1, v_c2, v_c3, v_c4, v_c5, v_bin, v_bn, v_bn2, v_div, v_dv, v_dv2, v_une, v_un, v_loc, v_num, v_get, v_gt, v_ald, v_al, v_al2, v_len, v_ln, v_rl0, v_rl1, v_rl2, v_rl3, v_rl4, v_rl5, v_cmp, v_cp, v_cp2, v_zC, v_zc, v_con, v_kc, v_and, v_an1, v_an0, v_or, v_or1, v_or0, v_not, v_nt, v_boo, v_bo, v_cnd, v_cd1, v_cd0, v_cnc, v_cc1, v_cc0, v_ev0, v_ev, v_e1, v_e2, v_cve, v_cv, v_cse, v_cs, v_skip, v_seq, v_sq0, v_sq1, v_sqr, v_sts, v_st, v_inc, v_put, v_pt, v_pt2, v_fop, v_fo, v_fo2, v_ast, v_as, v_as2, v_as3, v_aop, v_ao, v_ao2, v_ao3, v_exs, v_ex, v_ifs, v_if1, v_if0, v_ret, v_rt, v_rez, v_rz, v_rev, v_brk, v_sws, v_sw, v_sw2, v_run, v_rb, v_turn, v_tu1, v_tu0, v_tu2, v_tu3, fst1, snd1, Option.map_some, Option.getD_some, enA, en, stE, okb, narV, rf_toNat, rf_nn, List.getElem?_cons_zero, List.getElem?_cons_succ, w32_id, w64_id, ite_t, ite_f, Int.toNat_add, Int.toNat_mul, dec_t, dec_f, sM_0, es, c3]
  · rw [if_neg c2]
    have pl := part_lt r16 sub (fun z => c2 (.inl z)) (fun z => c2 (.inr z))
    obtain ⟨m1, e1, L1⟩ := ih (spl S K r b) m sl (by omega) L
    obtain ⟨m2, e2, L2⟩ := ih (andn r (spl S K r b)) m1 (andn_lt hr) (by omega) L1
    refine ⟨m2, ?_, L2⟩
    have q1 := lk_15 D sl
    have q2 := lk_15 D (andn_lt (y := spl S K r b) hr)
    have t1 : ¬ spl S K r b = 0 := fun z => c2 (.inl z)
    have t2 : ¬ spl S K r b = r := fun z => c2 (.inr z)
    clear gS glt pl
    generalize lkM S n K (spl S K r b) = x1 at *
    generalize lkM S n K (andn r (spl S K r b)) = x2 at *
    generalize andn r (spl S K r b) = rest at *
    generalize spl S K r b = g at *
    by_cases c5 : x2 < x1
    · rw [if_pos c5]
      simp -implicitDefEqProofs (disch := omega) [bX12_looksBy, v_cop, v_c1, v_c2, v_c3, v_c4, v_c5, v_bin, v_bn, v_bn2, v_div, v_dv, v_dv2, v_une, v_un, v_loc, v_num, v_get, v_gt, v_ald, v_al, v_al2, v_len, v_ln, v_rl0, v_rl1, v_rl2, v_rl3, v_rl4, v_rl5, v_cmp, v_cp, v_cp2, v_zC, v_zc, v_con, v_kc, v_and, v_an1, v_an0, v_or, v_or1, v_or0, v_not, v_nt, v_boo, v_bo, v_cnd, v_cd1, v_cd0, v_cnc, v_cc1, v_cc0, v_ev0, v_ev, v_e1, v_e2, v_cve, v_cv, v_cse, v_cs, v_skip, v_seq, v_sq0, v_sq1, v_sqr, v_sts, v_st, v_inc, v_put, v_pt, v_pt2, v_fop, v_fo, v_fo2, v_ast, v_as, v_as2, v_as3, v_aop, v_ao, v_ao2, v_ao3, v_exs, v_ex, v_ifs, v_if1, v_if0, v_ret, v_rt, v_rez, v_rz, v_rev, v_brk, v_sws, v_sw, v_sw2, v_run, v_rb, v_turn, v_tu1, v_tu0, v_tu2, v_tu3, fst1, snd1, Option.map_some, Option.getD_some, enA, en, stE, okb, narV, rf_toNat, rf_nn, List.getElem?_cons_zero, List.getElem?_cons_succ, w32_id, w64_id, ite_t, ite_f, Int.toNat_add, Int.toNat_mul, dec_t, dec_f, sM_0, es, t1, t2, e1, ad, e2] <;> omega
    · rw [if_neg c5]
      simp -implicitDefEqProofs (disch := omega) [bX12_looksBy, v_cop, v_c1, v_c2, v_c3, v_c4, v_c5, v_bin, v_bn, v_bn2, v_div, v_dv, v_dv2, v_une, v_un, v_loc, v_num, v_get, v_gt, v_ald, v_al, v_al2, v_len, v_ln, v_rl0, v_rl1, v_rl2, v_rl3, v_rl4, v_rl5, v_cmp, v_cp, v_cp2, v_zC, v_zc, v_con, v_kc, v_and, v_an1, v_an0, v_or, v_or1, v_or0, v_not, v_nt, v_boo, v_bo, v_cnd, v_cd1, v_cd0, v_cnc, v_cc1, v_cc0, v_ev0, v_ev, v_e1, v_e2, v_cve, v_cv, v_cse, v_cs, v_skip, v_seq, v_sq0, v_sq1, v_sqr, v_sts, v_st, v_inc, v_put, v_pt, v_pt2, v_fop, v_fo, v_fo2, v_ast, v_as, v_as2, v_as3, v_aop, v_ao, v_ao2, v_ao3, v_exs, v_ex, v_ifs, v_if1, v_if0, v_ret, v_rt, v_rez, v_rz, v_rev, v_brk, v_sws, v_sw, v_sw2, v_run, v_rb, v_turn, v_tu1, v_tu0, v_tu2, v_tu3, fst1, snd1, Option.map_some, Option.getD_some, enA, en, stE, okb, narV, rf_toNat, rf_nn, List.getElem?_cons_zero, List.getElem?_cons_succ, w32_id, w64_id, ite_t, ite_f, Int.toNat_add, Int.toNat_mul, dec_t, dec_f, sM_0, es, t1, t2, e1, ad, e2] <;> omega
set_option maxRecDepth 100000 in theorem r_for {μ : Mem} {S : Nat → Nat} {n K d c : Nat} (G : LookG μ S n K) (ih : LookF μ S n K d c) : LookF μ S n K (d + 2) (c + 1) := by
  intro r m hr hp L
  have G' := G
  obtain ⟨p, g1, n1, D, g28, gS, glt⟩ := G'
  have r16 := K16 D.1 hr
  have f0 : gGX12_looksBy (d + 2) 1 = runB 5 (bX12_looksFor (gGX12_looksBy (d + 1))) := rfl
  rw [f0]
  have and0 : o_iand (r : Int) ((r : Int) - 1) = ((r &&& (r - 1) : Nat) : Int) := by
    by_cases z : r = 0
    · subst z
      have := iandn_nat (a := 0) (b := 0) (by omega) (by omega)
      exact this
    · rw [show (r : Int) - 1 = ((r - 1 : Nat) : Int) by omega, iand_nat (by omega) (by omega)]
  have ob := one_bit r16
  by_cases c1 : pcN 16 r ≤ 1
  · refine ⟨m, ?_, L⟩
    rw [lk_eq r16, if_pos c1]
    have z := ob.mpr c1
    rw [z] at and0
    clear gS glt
    simp -implicitDefEqProofs (disch := omega) [bX12_looksFor, v_cop, v_c1, v_c2, v_c3, v_c4, v_c5, v_bin, v_bn, v_bn2, v_div, v_dv, v_dv2, v_une, v_un, v_loc, v_num, v_get, v_gt, v_ald, v_al, v_al2, v_len, v_ln, v_rl0, v_rl1, v_rl2, v_rl3, v_rl4, v_rl5, v_cmp, v_cp, v_cp2, v_zC, v_zc, v_con, v_kc, v_and, v_an1, v_an0, v_or, v_or1, v_or0, v_not, v_nt, v_boo, v_bo, v_cnd, v_cd1, v_cd0, v_cnc, v_cc1, v_cc0, v_ev0, v_ev, v_e1, v_e2, v_cve, v_cv, v_cse, v_cs, v_skip, v_seq, v_sq0, v_sq1, v_sqr, v_sts, v_st, v_inc, v_put, v_pt, v_pt2, v_fop, v_fo, v_fo2, v_ast, v_as, v_as2, v_as3, v_aop, v_ao, v_ao2, v_ao3, v_exs, v_ex, v_ifs, v_if1, v_if0, v_ret, v_rt, v_rez, v_rz, v_rev, v_brk, v_sws, v_sw, v_sw2, v_run, v_rb, v_turn, v_tu1, v_tu0, v_tu2, v_tu3, fst1, snd1, Option.map_some, Option.getD_some, enA, en, stE, okb, narV, rf_toNat, rf_nn, List.getElem?_cons_zero, List.getElem?_cons_succ, w32_id, w64_id, ite_t, ite_f, Int.toNat_add, Int.toNat_mul, dec_t, dec_f, and0]
  · have z : ¬ r &&& (r - 1) = 0 := fun z => c1 (ob.mp z)
    generalize r &&& (r - 1) = a0 at *
    have pm := L.pm p
    have lk := lk_15 D hr
    have rK : (r : Int) < 65536 := by omega
    by_cases c2 : m 19 r = -1
    · obtain ⟨env', m', lp, ⟨tk, tv, h3, e0, L'⟩⟩ := loop_n (kb := 2) (kc := 3) (c := kX12_looksFor_0c (gGX12_looksBy (d + 1))) (body := kX12_looksFor_0b (gGX12_looksBy (d + 1))) (upd := kX12_looksFor_0u (gGX12_looksBy (d + 1))) (sh := shM) (n := n) (fun j env k => ∃ (tk : Nat) (tv : Int), tk ≠ 1 ∧ env = [(2, rf 0), (0, (r : Int)), (0, ((minN (lkB S K (lkM S n K) r) 99 j : Nat) : Int)), (0, (j : Int)), (tk, tv)] ∧ LookS μ S n K k) (by
        rintro j env k hj ⟨tk, tv, h3, rfl, Lk⟩
        have h3' : ¬ tk = 1 := h3
        obtain ⟨k', e1, Lk'⟩ := r_by G ih hr hp hj Lk
        have eb := r_beasts (Lk.pm p)
        rw [Lk.1 _ _ (by omega), g1] at eb
        refine ⟨[(2, rf 0), (0, (r : Int)), (0, ((minN (lkB S K (lkM S n K) r) 99 (j + 1) : Nat) : Int)), (0, ((j + 1 : Nat) : Int)), (0, ((lkB S K (lkM S n K) r j : Nat) : Int))], k', ?_, 0, _, by decide, rfl, Lk'⟩
        rw [minN_s]
        have mc := min_c (F := lkB S K (lkM S n K) r) (c := 99) j
        generalize minN (lkB S K (lkM S n K) r) 99 j = X at *
        generalize lkB S K (lkM S n K) r j = Y at *
        clear gS glt
        by_cases c : Y < X
        · rw [if_pos c]
          simp -implicitDefEqProofs (disch := omega) [kX12_looksFor_0c, kX12_looksFor_0b, kX12_looksFor_0u, v_cop, v_c1, v_c2, v_c3, v_c4, v_c5, v_bin, v_bn, v_bn2, v_div, v_dv, v_dv2, v_une, v_un, v_loc, v_num, v_get, v_gt, v_ald, v_al, v_al2, v_len, v_ln, v_rl0, v_rl1, v_rl2, v_rl3, v_rl4, v_rl5, v_cmp, v_cp, v_cp2, v_zC, v_zc, v_con, v_kc, v_and, v_an1, v_an0, v_or, v_or1, v_or0, v_not, v_nt, v_boo, v_bo, v_cnd, v_cd1, v_cd0, v_cnc, v_cc1, v_cc0, v_ev0, v_ev, v_e1, v_e2, v_cve, v_cv, v_cse, v_cs, v_skip, v_seq, v_sq0, v_sq1, v_sqr, v_sts, v_st, v_inc, v_put, v_pt, v_pt2, v_fop, v_fo, v_fo2, v_ast, v_as, v_as2, v_as3, v_aop, v_ao, v_ao2, v_ao3, v_exs, v_ex, v_ifs, v_if1, v_if0, v_ret, v_rt, v_rez, v_rz, v_rev, v_brk, v_sws, v_sw, v_sw2, v_run, v_rb, v_turn, v_tu1, v_tu0, v_tu2, v_tu3, fst1, snd1, Option.map_some, Option.getD_some, enA, en, stE, okb, narV, rf_toNat, rf_nn, List.getElem?_cons_zero, List.getElem?_cons_succ, w32_id, w64_id, ite_t, ite_f, Int.toNat_add, Int.toNat_mul, dec_t, dec_f, sM_0, eb, e1, h3']
        · rw [if_neg c]
          simp -implicitDefEqProofs (disch := omega) [kX12_looksFor_0c, kX12_looksFor_0b, kX12_looksFor_0u, v_cop, v_c1, v_c2, v_c3, v_c4, v_c5, v_bin, v_bn, v_bn2, v_div, v_dv, v_dv2, v_une, v_un, v_loc, v_num, v_get, v_gt, v_ald, v_al, v_al2, v_len, v_ln, v_rl0, v_rl1, v_rl2, v_rl3, v_rl4, v_rl5, v_cmp, v_cp, v_cp2, v_zC, v_zc, v_con, v_kc, v_and, v_an1, v_an0, v_or, v_or1, v_or0, v_not, v_nt, v_boo, v_bo, v_cnd, v_cd1, v_cd0, v_cnc, v_cc1, v_cc0, v_ev0, v_ev, v_e1, v_e2, v_cve, v_cv, v_cse, v_cs, v_skip, v_seq, v_sq0, v_sq1, v_sqr, v_sts, v_st, v_inc, v_put, v_pt, v_pt2, v_fop, v_fo, v_fo2, v_ast, v_as, v_as2, v_as3, v_aop, v_ao, v_ao2, v_ao3, v_exs, v_ex, v_ifs, v_if1, v_if0, v_ret, v_rt, v_rez, v_rz, v_rev, v_brk, v_sws, v_sw, v_sw2, v_run, v_rb, v_turn, v_tu1, v_tu0, v_tu2, v_tu3, fst1, snd1, Option.map_some, Option.getD_some, enA, en, stE, okb, narV, rf_toNat, rf_nn, List.getElem?_cons_zero, List.getElem?_cons_succ, w32_id, w64_id, ite_t, ite_f, Int.toNat_add, Int.toNat_mul, dec_t, dec_f, sM_0, eb, e1, h3']) (by
        rintro env k ⟨tk, tv, h3, rfl, Lk⟩
        have eb := r_beasts (Lk.pm p)
        rw [Lk.1 _ _ (by omega), g1] at eb
        simp -implicitDefEqProofs (disch := omega) [kX12_looksFor_0c, v_cop, v_c1, v_c2, v_c3, v_c4, v_c5, v_bin, v_bn, v_bn2, v_div, v_dv, v_dv2, v_une, v_un, v_loc, v_num, v_get, v_gt, v_ald, v_al, v_al2, v_len, v_ln, v_rl0, v_rl1, v_rl2, v_rl3, v_rl4, v_rl5, v_cmp, v_cp, v_cp2, v_zC, v_zc, v_con, v_kc, v_and, v_an1, v_an0, v_or, v_or1, v_or0, v_not, v_nt, v_boo, v_bo, v_cnd, v_cd1, v_cd0, v_cnc, v_cc1, v_cc0, v_ev0, v_ev, v_e1, v_e2, v_cve, v_cv, v_cse, v_cs, v_skip, v_seq, v_sq0, v_sq1, v_sqr, v_sts, v_st, v_inc, v_put, v_pt, v_pt2, v_fop, v_fo, v_fo2, v_ast, v_as, v_as2, v_as3, v_aop, v_ao, v_ao2, v_ao3, v_exs, v_ex, v_ifs, v_if1, v_if0, v_ret, v_rt, v_rez, v_rz, v_rev, v_brk, v_sws, v_sw, v_sw2, v_run, v_rb, v_turn, v_tu1, v_tu0, v_tu2, v_tu3, fst1, snd1, Option.map_some, Option.getD_some, enA, en, stE, okb, narV, rf_toNat, rf_nn, List.getElem?_cons_zero, List.getElem?_cons_succ, w32_id, w64_id, ite_t, ite_f, Int.toNat_add, Int.toNat_mul, dec_t, dec_f, sM_0, eb]) (env := [(2, rf 0), (0, (r : Int)), (0, 99), (0, 0), (3, 0)]) (μ := m) ⟨3, 0, by decide, rfl, L⟩
      subst e0
      have le : lkM S n K r = minN (lkB S K (lkM S n K) r) 99 n := by rw [lk_eq r16, if_neg c1]
      rw [← le] at lp
      have pm' := L'.pm p
      have nb := nar_b ((lkM S n K r : Nat) : Int) (by omega) (by omega)
      refine ⟨ud m' 19 r ((lkM S n K r : Nat) : Int), ?_, fun x y hx => by rw [ud_c hx]; exact L'.1 x y hx, fun r' hr' => ?_⟩
      · have q1 : ud m' 19 r ((lkM S n K r : Nat) : Int) 0 29 = rf 19 := by rw [ud_c (by omega)]; exact pm'.p29
        have q2 : ud m' 19 r ((lkM S n K r : Nat) : Int) 19 r = ((lkM S n K r : Nat) : Int) := ud_s
        clear gS glt le
        generalize ((lkM S n K r : Nat) : Int) = V at *
        simp -implicitDefEqProofs (disch := omega) [bX12_looksFor, kX12_looksFor_0, v_cop, v_c1, v_c2, v_c3, v_c4, v_c5, v_bin, v_bn, v_bn2, v_div, v_dv, v_dv2, v_une, v_un, v_loc, v_num, v_get, v_gt, v_ald, v_al, v_al2, v_len, v_ln, v_rl0, v_rl1, v_rl2, v_rl3, v_rl4, v_rl5, v_cmp, v_cp, v_cp2, v_zC, v_zc, v_con, v_kc, v_and, v_an1, v_an0, v_or, v_or1, v_or0, v_not, v_nt, v_boo, v_bo, v_cnd, v_cd1, v_cd0, v_cnc, v_cc1, v_cc0, v_ev0, v_ev, v_e1, v_e2, v_cve, v_cv, v_cse, v_cs, v_skip, v_seq, v_sq0, v_sq1, v_sqr, v_sts, v_st, v_inc, v_put, v_pt, v_pt2, v_fop, v_fo, v_fo2, v_ast, v_as, v_as2, v_as3, v_aop, v_ao, v_ao2, v_ao3, v_exs, v_ex, v_ifs, v_if1, v_if0, v_ret, v_rt, v_rez, v_rz, v_rev, v_brk, v_sws, v_sw, v_sw2, v_run, v_rb, v_turn, v_tu1, v_tu0, v_tu2, v_tu3, fst1, snd1, Option.map_some, Option.getD_some, enA, en, stE, okb, narV, rf_toNat, rf_nn, List.getElem?_cons_zero, List.getElem?_cons_succ, w32_id, w64_id, ite_t, ite_f, Int.toNat_add, Int.toNat_mul, dec_t, dec_f, sM_0, sM_19, and0, z, pm.p29, pm'.p29, c2, lp, nb, q1, q2]
      · by_cases cr : r' = r
        · subst cr
          exact .inr ud_s
        · rw [ud_j cr]
          exact L'.2 r' hr'
    · have c3 := (L.2 r hr).resolve_left c2
      refine ⟨m, ?_, L⟩
      clear gS glt
      rw [c3] at c2
      have v0 : 0 ≤ ((lkM S n K r : Nat) : Int) := by omega
      generalize ((lkM S n K r : Nat) : Int) = V at *
      simp -implicitDefEqProofs (disch := omega) [bX12_looksFor, v_cop, v_c1, v_c2, v_c3, v_c4, v_c5, v_bin, v_bn, v_bn2, v_div, v_dv, v_dv2, v_une, v_un, v_loc, v_num, v_get, v_gt, v_ald, v_al, v_al2, v_len, v_ln, v_rl0, v_rl1, v_rl2, v_rl3, v_rl4, v_rl5, v_cmp, v_cp, v_cp2, v_zC, v_zc, v_con, v_kc, v_and, v_an1, v_an0, v_or, v_or1, v_or0, v_not, v_nt, v_boo, v_bo, v_cnd, v_cd1, v_cd0, v_cnc, v_cc1, v_cc0, v_ev0, v_ev, v_e1, v_e2, v_cve, v_cv, v_cse, v_cs, v_skip, v_seq, v_sq0, v_sq1, v_sqr, v_sts, v_st, v_inc, v_put, v_pt, v_pt2, v_fop, v_fo, v_fo2, v_ast, v_as, v_as2, v_as3, v_aop, v_ao, v_ao2, v_ao3, v_exs, v_ex, v_ifs, v_if1, v_if0, v_ret, v_rt, v_rez, v_rz, v_rev, v_brk, v_sws, v_sw, v_sw2, v_run, v_rb, v_turn, v_tu1, v_tu0, v_tu2, v_tu3, fst1, snd1, Option.map_some, Option.getD_some, enA, en, stE, okb, narV, rf_toNat, rf_nn, List.getElem?_cons_zero, List.getElem?_cons_succ, w32_id, w64_id, ite_t, ite_f, Int.toNat_add, Int.toNat_mul, dec_t, dec_f, sM_0, sM_19, and0, z, pm.p29, c3]
set_option maxRecDepth 100000 in theorem r_lf {μ : Mem} {S : Nat → Nat} {n K : Nat} (G : LookG μ S n K) : ∀ c e, LookF μ S n K (2 * c + 1 + e) c
  | 0, e => by
    intro r m hr hp L
    have D := G.2.2.2.1
    have z : r = 0 := (pc_pos 16 r (K16 D.1 hr)).mp (by omega)
    subst z
    refine ⟨m, ?_, L⟩
    rw [lk_eq (by omega), if_pos (by omega), show 2 * 0 + 1 + e = e + 1 by omega]
    have f0 : gGX12_looksBy (e + 1) 1 = runB 5 (bX12_looksFor (gGX12_looksBy e)) := rfl
    rw [f0]
    have and0 : o_iand 0 (-1) = 0 := iandn_nat (a := 0) (b := 0) (by omega) (by omega)
    rw [show ((0 : Nat) : Int) = 0 from rfl]
    simp -implicitDefEqProofs (disch := omega) [bX12_looksFor, v_cop, v_c1, v_c2, v_c3, v_c4, v_c5, v_bin, v_bn, v_bn2, v_div, v_dv, v_dv2, v_une, v_un, v_loc, v_num, v_get, v_gt, v_ald, v_al, v_al2, v_len, v_ln, v_rl0, v_rl1, v_rl2, v_rl3, v_rl4, v_rl5, v_cmp, v_cp, v_cp2, v_zC, v_zc, v_con, v_kc, v_and, v_an1, v_an0, v_or, v_or1, v_or0, v_not, v_nt, v_boo, v_bo, v_cnd, v_cd1, v_cd0, v_cnc, v_cc1, v_cc0, v_ev0, v_ev, v_e1, v_e2, v_cve, v_cv, v_cse, v_cs, v_skip, v_seq, v_sq0, v_sq1, v_sqr, v_sts, v_st, v_inc, v_put, v_pt, v_pt2, v_fop, v_fo, v_fo2, v_ast, v_as, v_as2, v_as3, v_aop, v_ao, v_ao2, v_ao3, v_exs, v_ex, v_ifs, v_if1, v_if0, v_ret, v_rt, v_rez, v_rz, v_rev, v_brk, v_sws, v_sw, v_sw2, v_run, v_rb, v_turn, v_tu1, v_tu0, v_tu2, v_tu3, fst1, snd1, Option.map_some, Option.getD_some, enA, en, stE, okb, narV, rf_toNat, rf_nn, List.getElem?_cons_zero, List.getElem?_cons_succ, w32_id, w64_id, ite_t, ite_f, Int.toNat_add, Int.toNat_mul, dec_t, dec_f, and0]
  | c + 1, e => by
    have := r_for G (r_lf G c e)
    rw [show 2 * (c + 1) + 1 + e = 2 * c + 1 + e + 2 by omega]
    exact this
