/-! the dog's way: the reference -/
set_option maxRecDepth 100000 in theorem cst_le {f w : Nat → Int} (hf : ∀ m, 1 ≤ f m ∧ f m ≤ 99) (hw : ∀ m, 0 ≤ w m ∧ w m ≤ 9999) : ∀ (A : List Nat) (T : Int), 0 ≤ T → T + 99 * A.length ≤ 594 → 0 ≤ cst f w T A ∧ cst f w T A ≤ 5939406 * A.length
  | [], T, _, _ => by simp [cst]
  | x :: A, T, h0, h1 => by
    rw [List.length_cons] at h1 ⊢
    have fx := hf x
    have wx := hw x
    have ih := cst_le hf hw A (T + f x) (by omega) (by omega)
    have m1 : 0 ≤ (T + f x) * w x := Int.mul_nonneg (by omega) (by omega)
    have m2 : (T + f x) * w x ≤ 594 * 9999 := Int.mul_le_mul (by omega) wx.2 wx.1 (by omega)
    rw [cst_c]
    constructor
    · omega
    · rw [Int.natCast_add]
      omega
set_option maxRecDepth 100000 in theorem sum_f {f : Nat → Int} (hf : ∀ m, 1 ≤ f m ∧ f m ≤ 99) : ∀ A : List Nat, 0 ≤ (A.map f).sum ∧ (A.map f).sum ≤ 99 * A.length
  | [] => by simp
  | x :: A => by
    have := sum_f hf A
    have := hf x
    rw [List.map_cons, List.sum_cons, List.length_cons, Int.natCast_add]
    omega
set_option maxRecDepth 100000 in theorem sum_app1 {f : Nat → Int} (Z : List Nat) (a : Nat) : ((Z ++ [a]).map f).sum = (Z.map f).sum + f a := by simp
section TRS
variable {μ : Mem} {n P M N W b : Nat} {f w : Nat → Int}
/-- what a try may change -/
def TF (μ m : Mem) : Prop := ∀ x y, x ≠ 13 → x ≠ 14 → x ≠ 20 → x ≠ 21 → ¬ (x = 0 ∧ y = 32) → m x y = μ x y
set_option maxRecDepth 100000 in theorem r_trySum {m : Mem} {g : Nat → Fn} (p : PM μ) (B : FB (μ 6) n P M) (L : LQs μ N) (hw0 : μ 15 0 = (W : Int)) (hw2 : W < 4096) (hb : b < n) (hf : ∀ m, 1 ≤ f m ∧ f m ≤ 99) (hw : ∀ m, 0 ≤ w m ∧ w m ≤ 9999) (ef : ∀ m, m < M → μ 6 (171 + 2 * m + 1) = f m) (ew : ∀ m, m < M → stS_ (μ 6) (μ 15) (LV (μ 7) (μ 8) (μ 6 184) N) n b m = w m) (F : TF μ m) {u : Int} {A : List Nat} (hA : A.length = M) (hlt : ∀ x ∈ A, x < M) (rw_ : ∀ i (hi : i < A.length), m 20 i = (A[i] : Int)) : ∃ m', loopS 2 3 (kX12_tries_0c g) (kX12_tries_0b g) (kX12_tries_0u g) shM [(2, rf 0), (0, (b : Int)), (0, (M : Int)), (0, u), (0, 0), (0, 0), (0, 0)] m = some (0, 0, [(2, rf 0), (0, (b : Int)), (0, (M : Int)), (0, u), (0, (A.map f).sum), (0, cst f w 0 A), (0, (M : Int))], m') ∧ ∀ x y, x ≠ 13 → x ≠ 14 → m' x y = m x y := by
  have M1 := B.M1
  obtain ⟨env', m', lp, ⟨e0, D⟩⟩ := loop_n (kb := 2) (kc := 3) (c := kX12_tries_0c g) (body := kX12_tries_0b g) (upd := kX12_tries_0u g) (sh := shM) (n := M) (fun j env k => env = [(2, rf 0), (0, (b : Int)), (0, (M : Int)), (0, u), (0, ((A.take j).map f).sum), (0, cst f w 0 (A.take j)), (0, (j : Int))] ∧ ∀ x y, x ≠ 13 → x ≠ 14 → k x y = m x y) (by
    rintro j env k hj ⟨rfl, D⟩
    have hjA : j < A.length := by omega
    have F' : TF μ k := fun x y h1 h2 h3 h4 h5 => by rw [D x y h1 h2]; exact F x y h1 h2 h3 h4 h5
    have pk : PM k := p.keep (S := fun x y => x = 13 ∨ x = 14 ∨ x = 20 ∨ x = 21 ∨ (x = 0 ∧ y = 32)) (fun x y hs => F' x y (by omega) (by omega) (by omega) (by omega) (by omega)) (by decide)
    have q6 : k 6 = μ 6 := by funext y; exact F' 6 y (by omega) (by omega) (by omega) (by omega) (by omega)
    have q7 : k 7 = μ 7 := by funext y; exact F' 7 y (by omega) (by omega) (by omega) (by omega) (by omega)
    have q8 : k 8 = μ 8 := by funext y; exact F' 8 y (by omega) (by omega) (by omega) (by omega) (by omega)
    have q15 : k 15 = μ 15 := by funext y; exact F' 15 y (by omega) (by omega) (by omega) (by omega) (by omega)
    have hx := hlt A[j] (List.getElem_mem hjA)
    obtain ⟨k', e1, D'⟩ := r_straysTo (N := N) (b := b) (m := A[j]) pk (by rw [q6]; exact B) (by unfold LQs at L ⊢; rw [q6, q7, q8]; exact L) (by rw [q15]; exact hw0) hw2 hb hx
    rw [q6, q7, q8, q15, ew _ hx] at e1
    have r1 : k 20 j = (A[j] : Int) := by rw [D _ _ (by omega) (by omega)]; exact rw_ j hjA
    have r2 : k 6 (171 + 2 * A[j] + 1) = f A[j] := by rw [q6]; exact ef _ hx
    have tk : A.take (j + 1) = A.take j ++ [A[j]] := List.take_succ_eq_append_getElem hjA
    have len : (A.take j).length = j := by rw [List.length_take]; omega
    have b1 := sum_f hf (A.take j)
    have b2 := cst_le hf hw (A.take j) 0 (by omega) (by omega)
    rw [len] at b1 b2
    have fx := hf A[j]
    have wx := hw A[j]
    have sm : ((A.take (j + 1)).map f).sum = ((A.take j).map f).sum + f A[j] := by rw [tk]; exact sum_app1 _ _
    have cm : cst f w 0 (A.take (j + 1)) = cst f w 0 (A.take j) + (((A.take j).map f).sum + f A[j]) * w A[j] := by
      rw [tk, cst_app]
      simp [cst]
    refine ⟨[(2, rf 0), (0, (b : Int)), (0, (M : Int)), (0, u), (0, ((A.take (j + 1)).map f).sum), (0, cst f w 0 (A.take (j + 1))), (0, ((j + 1 : Nat) : Int))], k', ?_, rfl, fun x y h1 h2 => by rw [D' x y h1 h2]; exact D x y h1 h2⟩
    rw [sm, cm]
    generalize ((A.take j).map f).sum = S1 at *
    generalize cst f w 0 (A.take j) = S2 at *
    generalize A[j] = a at *
    generalize f a = fa at *
    generalize w a = wa at *
    have m1 : 0 ≤ (S1 + fa) * wa := Int.mul_nonneg (by omega) (by omega)
    have m2 : (S1 + fa) * wa ≤ 594 * 9999 := Int.mul_le_mul (by omega) wx.2 wx.1 (by omega)
    have z1 : w32 ((S1 + fa) * wa) = (S1 + fa) * wa := w32_id ⟨by omega, by omega⟩
    generalize hPR : (S1 + fa) * wa = PR at *
    have i2 : (171 + 2 * (a : Int) + 1).toNat = 171 + 2 * a + 1 := by omega
    simp -implicitDefEqProofs (disch := omega) [kX12_tries_0c, kX12_tries_0b, kX12_tries_0u, v_cop, v_c1, v_c2, v_c3, v_c4, v_c5, v_bin, v_bn, v_bn2, v_div, v_dv, v_dv2, v_une, v_un, v_loc, v_num, v_get, v_gt, v_ald, v_al, v_al2, v_len, v_ln, v_rl0, v_rl1, v_rl2, v_rl3, v_rl4, v_rl5, v_cmp, v_cp, v_cp2, v_zC, v_zc, v_con, v_kc, v_and, v_an1, v_an0, v_or, v_or1, v_or0, v_not, v_nt, v_boo, v_bo, v_cnd, v_cd1, v_cd0, v_cnc, v_cc1, v_cc0, v_ev0, v_ev, v_e1, v_e2, v_cve, v_cv, v_cse, v_cs, v_skip, v_seq, v_sq0, v_sq1, v_sqr, v_sts, v_st, v_inc, v_put, v_pt, v_pt2, v_fop, v_fo, v_fo2, v_ast, v_as, v_as2, v_as3, v_aop, v_ao, v_ao2, v_ao3, v_exs, v_ex, v_ifs, v_if1, v_if0, v_ret, v_rt, v_rez, v_rz, v_rev, v_brk, v_sws, v_sw, v_sw2, v_run, v_rb, v_turn, v_tu1, v_tu0, v_tu2, v_tu3, fst1, snd1, Option.map_some, Option.getD_some, enA, en, stE, okb, narV, rf_toNat, rf_nn, List.getElem?_cons_zero, List.getElem?_cons_succ, w32_id, w64_id, ite_t, ite_f, Int.toNat_add, Int.toNat_mul, dec_t, dec_f, sM_0, sM_6, sM_20, pk.p10, pk.p30, r1, r2, i2, e1, hPR]) (by
    rintro env k ⟨rfl, D⟩
    simp -implicitDefEqProofs (disch := omega) [kX12_tries_0c, v_cop, v_c1, v_c2, v_c3, v_c4, v_c5, v_bin, v_bn, v_bn2, v_div, v_dv, v_dv2, v_une, v_un, v_loc, v_num, v_get, v_gt, v_ald, v_al, v_al2, v_len, v_ln, v_rl0, v_rl1, v_rl2, v_rl3, v_rl4, v_rl5, v_cmp, v_cp, v_cp2, v_zC, v_zc, v_con, v_kc, v_and, v_an1, v_an0, v_or, v_or1, v_or0, v_not, v_nt, v_boo, v_bo, v_cnd, v_cd1, v_cd0, v_cnc, v_cc1, v_cc0, v_ev0, v_ev, v_e1, v_e2, v_cve, v_cv, v_cse, v_cs, v_skip, v_seq, v_sq0, v_sq1, v_sqr, v_sts, v_st, v_inc, v_put, v_pt, v_pt2, v_fop, v_fo, v_fo2, v_ast, v_as, v_as2, v_as3, v_aop, v_ao, v_ao2, v_ao3, v_exs, v_ex, v_ifs, v_if1, v_if0, v_ret, v_rt, v_rez, v_rz, v_rev, v_brk, v_sws, v_sw, v_sw2, v_run, v_rb, v_turn, v_tu1, v_tu0, v_tu2, v_tu3, fst1, snd1, Option.map_some, Option.getD_some, enA, en, stE, okb, narV, rf_toNat, rf_nn, List.getElem?_cons_zero, List.getElem?_cons_succ, w32_id, w64_id, ite_t, ite_f, Int.toNat_add, Int.toNat_mul, dec_t, dec_f]) (env := [(2, rf 0), (0, (b : Int)), (0, (M : Int)), (0, u), (0, 0), (0, 0), (0, 0)]) (μ := m) ⟨by simp -implicitDefEqProofs [cst], fun _ _ _ _ => rfl⟩
  have ta : A.take M = A := List.take_of_length_le (by omega)
  rw [ta] at e0
  subst e0
  exact ⟨m', lp, D⟩
set_option maxRecDepth 100000 in theorem r_tryCopy {m : Mem} {g : Nat → Fn} (pk : PM m) (M1 : M ≤ 6) {u c4 c5 : Int} : ∃ m', loopS 4 5 (kX12_tries_1c g) (kX12_tries_1b g) (kX12_tries_1u g) shM [(2, rf 0), (0, (b : Int)), (0, (M : Int)), (0, u), (0, c4), (0, c5), (0, 0)] m = some (0, 0, [(2, rf 0), (0, (b : Int)), (0, (M : Int)), (0, u), (0, c4), (0, c5), (0, (M : Int))], m') ∧ (∀ i, i < M → m' 21 i = m 20 i) ∧ ∀ x y, x ≠ 21 → m' x y = m x y := by
  obtain ⟨env', m', lp, ⟨e0, A, D⟩⟩ := loop_n (kb := 4) (kc := 5) (c := kX12_tries_1c g) (body := kX12_tries_1b g) (upd := kX12_tries_1u g) (sh := shM) (n := M) (fun j env k => env = [(2, rf 0), (0, (b : Int)), (0, (M : Int)), (0, u), (0, c4), (0, c5), (0, (j : Int))] ∧ (∀ i, i < j → k 21 i = m 20 i) ∧ ∀ x y, x ≠ 21 → k x y = m x y) (by
    rintro j env k hj ⟨rfl, A, D⟩
    have p' : PM k := pk.keep (S := fun x y => x = 21) (fun x y hs => D x y hs) (by decide)
    have r1 : k 20 j = m 20 j := D _ _ (by omega)
    refine ⟨_, ud k 21 j (m 20 j), ?_, rfl, fun i hi => ?_, fun x y hx => by rw [ud_c hx]; exact D x y hx⟩
    · simp -implicitDefEqProofs (disch := omega) [kX12_tries_1c, kX12_tries_1b, kX12_tries_1u, v_cop, v_c1, v_c2, v_c3, v_c4, v_c5, v_bin, v_bn, v_bn2, v_div, v_dv, v_dv2, v_une, v_un, v_loc, v_num, v_get, v_gt, v_ald, v_al, v_al2, v_len, v_ln, v_rl0, v_rl1, v_rl2, v_rl3, v_rl4, v_rl5, v_cmp, v_cp, v_cp2, v_zC, v_zc, v_con, v_kc, v_and, v_an1, v_an0, v_or, v_or1, v_or0, v_not, v_nt, v_boo, v_bo, v_cnd, v_cd1, v_cd0, v_cnc, v_cc1, v_cc0, v_ev0, v_ev, v_e1, v_e2, v_cve, v_cv, v_cse, v_cs, v_skip, v_seq, v_sq0, v_sq1, v_sqr, v_sts, v_st, v_inc, v_put, v_pt, v_pt2, v_fop, v_fo, v_fo2, v_ast, v_as, v_as2, v_as3, v_aop, v_ao, v_ao2, v_ao3, v_exs, v_ex, v_ifs, v_if1, v_if0, v_ret, v_rt, v_rez, v_rz, v_rev, v_brk, v_sws, v_sw, v_sw2, v_run, v_rb, v_turn, v_tu1, v_tu0, v_tu2, v_tu3, fst1, snd1, Option.map_some, Option.getD_some, enA, en, stE, okb, narV, rf_toNat, rf_nn, List.getElem?_cons_zero, List.getElem?_cons_succ, w32_id, w64_id, ite_t, ite_f, Int.toNat_add, Int.toNat_mul, dec_t, dec_f, sM_0, sM_20, sM_21, p'.p30, p'.p31, r1]
    · by_cases e : i = j
      · rw [e, ud_s]
      · rw [ud_j e]; exact A i (by omega)) (by
    rintro env k ⟨rfl, A, D⟩
    simp -implicitDefEqProofs (disch := omega) [kX12_tries_1c, v_cop, v_c1, v_c2, v_c3, v_c4, v_c5, v_bin, v_bn, v_bn2, v_div, v_dv, v_dv2, v_une, v_un, v_loc, v_num, v_get, v_gt, v_ald, v_al, v_al2, v_len, v_ln, v_rl0, v_rl1, v_rl2, v_rl3, v_rl4, v_rl5, v_cmp, v_cp, v_cp2, v_zC, v_zc, v_con, v_kc, v_and, v_an1, v_an0, v_or, v_or1, v_or0, v_not, v_nt, v_boo, v_bo, v_cnd, v_cd1, v_cd0, v_cnc, v_cc1, v_cc0, v_ev0, v_ev, v_e1, v_e2, v_cve, v_cv, v_cse, v_cs, v_skip, v_seq, v_sq0, v_sq1, v_sqr, v_sts, v_st, v_inc, v_put, v_pt, v_pt2, v_fop, v_fo, v_fo2, v_ast, v_as, v_as2, v_as3, v_aop, v_ao, v_ao2, v_ao3, v_exs, v_ex, v_ifs, v_if1, v_if0, v_ret, v_rt, v_rez, v_rz, v_rev, v_brk, v_sws, v_sw, v_sw2, v_run, v_rb, v_turn, v_tu1, v_tu0, v_tu2, v_tu3, fst1, snd1, Option.map_some, Option.getD_some, enA, en, stE, okb, narV, rf_toNat, rf_nn, List.getElem?_cons_zero, List.getElem?_cons_succ, w32_id, w64_id, ite_t, ite_f, Int.toNat_add, Int.toNat_mul, dec_t, dec_f]) (env := [(2, rf 0), (0, (b : Int)), (0, (M : Int)), (0, u), (0, c4), (0, c5), (0, 0)]) (μ := m) ⟨rfl, fun i hi => by omega, fun _ _ _ => rfl⟩
  subst e0
  exact ⟨m', lp, A, D⟩
/-- the best so far, with one more -/
def UPD (f w : Nat → Int) (m m' : Mem) (A : List Nat) : Prop := ((m 0 32 < 0 ∨ cst f w 0 A < m 0 32) ∧ m' 0 32 = cst f w 0 A ∧ ∀ i (hi : i < A.length), m' 21 i = (A[i] : Int)) ∨ (¬ (m 0 32 < 0 ∨ cst f w 0 A < m 0 32) ∧ m' 0 32 = m 0 32 ∧ ∀ i, m' 21 i = m 21 i)
end TRS
