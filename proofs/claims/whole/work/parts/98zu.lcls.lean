/-! few looks: the class -/
def clV (S : Nat → Nat) (n K : Nat) (G : Nat → Nat) (r p : Nat) : Nat := if r &&& G p ≠ 0 ∧ andn r (G p) ≠ 0 then 1 + (if lkM S n K (r &&& G p) < lkM S n K (andn r (G p)) then lkM S n K (andn r (G p)) else lkM S n K (r &&& G p)) else 99
/-- places and beasts tell the same -/
def PlB (S : Nat → Nat) (n K : Nat) (G : Nat → Nat) : Prop := (∀ p r, p < 16 → r < 2 ^ K → r &&& G p ≠ 0 → andn r (G p) ≠ 0 → ∃ b, b < n ∧ spl S K r b = r &&& G p) ∧ ∀ b r, b < n → r < 2 ^ K → spl S K r b ≠ 0 → ∃ p, p < 16 ∧ r &&& G p = spl S K r b
set_option maxRecDepth 100000 in theorem andn_and (r g : Nat) : andn r (r &&& g) = andn r g := by
  unfold andn
  rw [← Nat.and_assoc, Nat.and_self]
set_option maxRecDepth 100000 in theorem andn_ne {r g : Nat} (hs : g &&& r = g) : andn r g ≠ 0 ↔ g ≠ r := by
  rw [Ne, andn0, Nat.and_comm, hs]
set_option maxRecDepth 100000 in theorem cl_b {S : Nat → Nat} {n K : Nat} {G : Nat → Nat} {r p b : Nat} (h0 : r &&& G p ≠ 0) (h1 : andn r (G p) ≠ 0) (e : spl S K r b = r &&& G p) : lkB S K (lkM S n K) r b = clV S n K G r p := by
  unfold lkB clV
  have hs : (r &&& G p) &&& r = r &&& G p := by rw [Nat.and_comm, ← Nat.and_assoc, Nat.and_self]
  have h2 : r &&& G p ≠ r := (andn_ne hs).mp (by rw [andn_and]; exact h1)
  rw [e, if_neg (fun z => z.elim h0 h2), if_pos (show r &&& G p ≠ 0 ∧ andn r (G p) ≠ 0 from ⟨h0, h1⟩), andn_and]
  split <;> split <;> omega
set_option maxRecDepth 100000 in theorem cl_min {S : Nat → Nat} {n K : Nat} {G : Nat → Nat} {r : Nat} (D : DS S n K) (B : PlB S n K G) (hr : r < 2 ^ K) (h : 2 ≤ pcN 16 r) : minN (clV S n K G r) 16 16 = lkM S n K r := by
  have r16 := K16 D.1 hr
  have l15 := lk_15 D hr
  have le := lk_eq (S := S) (n := n) (K := K) r16
  rw [if_neg (by omega)] at le
  apply Nat.le_antisymm
  · rcases min_at (F := lkB S K (lkM S n K) r) (c := 99) n with z | ⟨b, hb, z⟩
    · omega
    · have t : ¬ (spl S K r b = 0 ∨ spl S K r b = r) := fun t => by
        have z2 : lkB S K (lkM S n K) r b = 99 := by unfold lkB; rw [if_pos t]
        omega
      have t0 : spl S K r b ≠ 0 := fun y => t (.inl y)
      have t1 : spl S K r b ≠ r := fun y => t (.inr y)
      obtain ⟨p, hp, e⟩ := B.2 b r hb hr t0
      have hs := spl_sub S K r b
      have h1 : andn r (G p) ≠ 0 := by
        rw [← andn_and, e]
        exact (andn_ne hs).mpr t1
      have h0 : r &&& G p ≠ 0 := by rw [e]; exact t0
      have := min_le (F := clV S n K G r) (c := 16) hp
      rw [← cl_b h0 h1 e.symm, ← z, ← le] at this
      exact this
  · rcases min_at (F := clV S n K G r) (c := 16) 16 with z | ⟨p, hp, z⟩
    · omega
    · rw [z]
      by_cases t : r &&& G p ≠ 0 ∧ andn r (G p) ≠ 0
      · obtain ⟨b, hb, e⟩ := B.1 p r hp hr t.1 t.2
        have := min_le (F := lkB S K (lkM S n K) r) (c := 99) hb
        rw [cl_b t.1 t.2 e, ← le] at this
        exact this
      · unfold clV
        rw [if_neg t]
        omega
def ClkG (μ : Mem) (S : Nat → Nat) (n K : Nat) (G : Nat → Nat) : Prop := DS S n K ∧ PlB S n K G ∧ μ 114 1 = rf 115 ∧ μ 114 2 = rf 116 ∧ (∀ p, p < 16 → μ 115 p = (G p : Int)) ∧ ∀ p, p < 16 → G p < 65536
def ClkS (μ : Mem) (S : Nat → Nat) (n K : Nat) (m : Mem) : Prop := (∀ x y, x ≠ 116 → m x y = μ x y) ∧ ∀ w i, i < 16 → 16 * w + i < 2 ^ K → nib (m 116 w) i = 0 ∨ nib (m 116 w) i = ((lkM S n K (16 * w + i) : Nat) : Int)
set_option maxRecDepth 100000 in theorem c_tells {μ m : Mem} {S : Nat → Nat} {n K : Nat} {G : Nat → Nat} {r p : Nat} (C : ClkG μ S n K G) (L : ClkS μ S n K m) (hp : p < 16) (hr : r < 65536) : fX5_tells shC [(2, rf 114), (0, (p : Int)), (0, (r : Int))] m = some (if r &&& G p ≠ 0 ∧ andn r (G p) ≠ 0 then 1 else 0, m) := by
  obtain ⟨-, -, c1, -, c3, c4⟩ := C
  have e1 : m 114 1 = rf 115 := by rw [L.1 _ _ (by omega)]; exact c1
  have e2 : m 115 p = (G p : Int) := by rw [L.1 _ _ (by omega)]; exact c3 p hp
  have g := c4 p hp
  have a1 := iand_nat (a := r) (b := G p) (by omega) (by omega)
  have a2 := iandn_an (a := r) (b := G p) hr g
  clear c3 c4 L
  generalize r &&& G p = x at *
  generalize andn r (G p) = y at *
  by_cases t1 : x = 0
  · rw [if_neg (fun z => z.1 t1)]
    subst t1
    simp -implicitDefEqProofs (disch := omega) [fX5_tells, bX5_tells, v_cop, v_c1, v_c2, v_c3, v_c4, v_c5, v_bin, v_bn, v_bn2, v_div, v_dv, v_dv2, v_une, v_un, v_loc, v_num, v_get, v_gt, v_ald, v_al, v_al2, v_len, v_ln, v_rl0, v_rl1, v_rl2, v_rl3, v_rl4, v_rl5, v_cmp, v_cp, v_cp2, v_zC, v_zc, v_con, v_kc, v_and, v_an1, v_an0, v_or, v_or1, v_or0, v_not, v_nt, v_boo, v_bo, v_cnd, v_cd1, v_cd0, v_cnc, v_cc1, v_cc0, v_ev0, v_ev, v_e1, v_e2, v_cve, v_cv, v_cse, v_cs, v_skip, v_seq, v_sq0, v_sq1, v_sqr, v_sts, v_st, v_inc, v_put, v_pt, v_pt2, v_fop, v_fo, v_fo2, v_ast, v_as, v_as2, v_as3, v_aop, v_ao, v_ao2, v_ao3, v_exs, v_ex, v_ifs, v_if1, v_if0, v_ret, v_rt, v_rez, v_rz, v_rev, v_brk, v_sws, v_sw, v_sw2, v_run, v_rb, v_turn, v_tu1, v_tu0, v_tu2, v_tu3, fst1, snd1, Option.map_some, Option.getD_some, enA, en, stE, okb, narV, rf_toNat, rf_nn, List.getElem?_cons_zero, List.getElem?_cons_succ, w32_id, w64_id, ite_t, ite_f, Int.toNat_add, Int.toNat_mul, dec_t, dec_f, sC_114, sC_115, e1, e2, a1]
  · by_cases t2 : y = 0
    · rw [if_neg (fun z => z.2 t2)]
      subst t2
      simp -implicitDefEqProofs (disch := omega) [fX5_tells, bX5_tells, v_cop, v_c1, v_c2, v_c3, v_c4, v_c5, v_bin, v_bn, v_bn2, v_div, v_dv, v_dv2, v_une, v_un, v_loc, v_num, v_get, v_gt, v_ald, v_al, v_al2, v_len, v_ln, v_rl0, v_rl1, v_rl2, v_rl3, v_rl4, v_rl5, v_cmp, v_cp, v_cp2, v_zC, v_zc, v_con, v_kc, v_and, v_an1, v_an0, v_or, v_or1, v_or0, v_not, v_nt, v_boo, v_bo, v_cnd, v_cd1, v_cd0, v_cnc, v_cc1, v_cc0, v_ev0, v_ev, v_e1, v_e2, v_cve, v_cv, v_cse, v_cs, v_skip, v_seq, v_sq0, v_sq1, v_sqr, v_sts, v_st, v_inc, v_put, v_pt, v_pt2, v_fop, v_fo, v_fo2, v_ast, v_as, v_as2, v_as3, v_aop, v_ao, v_ao2, v_ao3, v_exs, v_ex, v_ifs, v_if1, v_if0, v_ret, v_rt, v_rez, v_rz, v_rev, v_brk, v_sws, v_sw, v_sw2, v_run, v_rb, v_turn, v_tu1, v_tu0, v_tu2, v_tu3, fst1, snd1, Option.map_some, Option.getD_some, enA, en, stE, okb, narV, rf_toNat, rf_nn, List.getElem?_cons_zero, List.getElem?_cons_succ, w32_id, w64_id, ite_t, ite_f, Int.toNat_add, Int.toNat_mul, dec_t, dec_f, sC_114, sC_115, e1, e2, a1, a2, t1]
    · rw [if_pos ⟨t1, t2⟩]
      simp -implicitDefEqProofs (disch := omega) [fX5_tells, bX5_tells, v_cop, v_c1, v_c2, v_c3, v_c4, v_c5, v_bin, v_bn, v_bn2, v_div, v_dv, v_dv2, v_une, v_un, v_loc, v_num, v_get, v_gt, v_ald, v_al, v_al2, v_len, v_ln, v_rl0, v_rl1, v_rl2, v_rl3, v_rl4, v_rl5, v_cmp, v_cp, v_cp2, v_zC, v_zc, v_con, v_kc, v_and, v_an1, v_an0, v_or, v_or1, v_or0, v_not, v_nt, v_boo, v_bo, v_cnd, v_cd1, v_cd0, v_cnc, v_cc1, v_cc0, v_ev0, v_ev, v_e1, v_e2, v_cve, v_cv, v_cse, v_cs, v_skip, v_seq, v_sq0, v_sq1, v_sqr, v_sts, v_st, v_inc, v_put, v_pt, v_pt2, v_fop, v_fo, v_fo2, v_ast, v_as, v_as2, v_as3, v_aop, v_ao, v_ao2, v_ao3, v_exs, v_ex, v_ifs, v_if1, v_if0, v_ret, v_rt, v_rez, v_rz, v_rev, v_brk, v_sws, v_sw, v_sw2, v_run, v_rb, v_turn, v_tu1, v_tu0, v_tu2, v_tu3, fst1, snd1, Option.map_some, Option.getD_some, enA, en, stE, okb, narV, rf_toNat, rf_nn, List.getElem?_cons_zero, List.getElem?_cons_succ, w32_id, w64_id, ite_t, ite_f, Int.toNat_add, Int.toNat_mul, dec_t, dec_f, sC_114, sC_115, e1, e2, a1, a2, t1, t2]
def ClkF (μ : Mem) (S : Nat → Nat) (n K d c : Nat) : Prop := ∀ r o m, r < 2 ^ K → pcN 16 r ≤ c → o + pcN 16 r ≤ 16 → ClkS μ S n K m → ∃ m', gGX5_afterLook d 1 shC [(2, rf 114), (0, (r : Int)), (0, (o : Int))] m = some (((lkM S n K r : Nat) : Int), m') ∧ ClkS μ S n K m'
set_option maxRecDepth 100000 in theorem c_after {μ : Mem} {S : Nat → Nat} {n K d c : Nat} {G : Nat → Nat} (C : ClkG μ S n K G) (ih : ClkF μ S n K d c) {r p o : Nat} {m : Mem} (hr : r < 2 ^ K) (hp : p < 16) (hc : pcN 16 r ≤ c + 1) (ho : o + pcN 16 r ≤ 16) (t0 : r &&& G p ≠ 0) (t1 : andn r (G p) ≠ 0) (L : ClkS μ S n K m) : ∃ m', gGX5_afterLook (d + 1) 0 shC [(2, rf 114), (0, (p : Int)), (0, (r : Int)), (0, (o : Int))] m = some (((clV S n K G r p : Nat) : Int), m') ∧ ClkS μ S n K m' := by
  obtain ⟨D, -, c1, -, c3, c4⟩ := C
  have r16 := K16 D.1 hr
  have e1 : ∀ m, ClkS μ S n K m → m 114 1 = rf 115 ∧ m 115 p = (G p : Int) := fun m L => ⟨by rw [L.1 _ _ (by omega)]; exact c1, by rw [L.1 _ _ (by omega)]; exact c3 p hp⟩
  have g := c4 p hp
  have a1 := iand_nat (a := r) (b := G p) (by omega) (by omega)
  have a2 := iandn_an (a := r) (b := G p) r16 g
  have hs : (r &&& G p) &&& r = r &&& G p := by rw [Nat.and_comm, ← Nat.and_assoc, Nat.and_self]
  have h2 : r &&& G p ≠ r := (andn_ne hs).mp (by rw [andn_and]; exact t1)
  have pl := part_lt r16 hs t0 h2
  rw [andn_and] at pl
  have lt1 : r &&& G p < 2 ^ K := Nat.lt_of_le_of_lt Nat.and_le_left hr
  obtain ⟨m1, f1, L1⟩ := ih (r &&& G p) (o + 1) m lt1 (by omega) (by omega) L
  obtain ⟨m2, f2, L2⟩ := ih (andn r (G p)) (o + 1) m1 (andn_lt hr) (by omega) (by omega) L1
  have q1 := lk_15 D lt1
  have q2 := lk_15 D (andn_lt (y := G p) hr)
  obtain ⟨u1, u2⟩ := e1 m L
  obtain ⟨v1, v2⟩ := e1 m1 L1
  refine ⟨m2, ?_, L2⟩
  have f0 : gGX5_afterLook (d + 1) 0 = runB 6 (bX5_afterLook (gGX5_afterLook d)) := rfl
  rw [f0]
  unfold clV
  rw [if_pos ⟨t0, t1⟩]
  clear c3 c4 e1 pl
  rw [show ((o + 1 : Nat) : Int) = (o : Int) + 1 by omega] at f1 f2
  generalize lkM S n K (r &&& G p) = x1 at *
  generalize lkM S n K (andn r (G p)) = x2 at *
  generalize andn r (G p) = y2 at *
  generalize r &&& G p = y1 at *
  by_cases c5 : x1 < x2
  · rw [if_pos c5]
    simp -implicitDefEqProofs (disch := omega) [bX5_afterLook, v_cop, v_c1, v_c2, v_c3, v_c4, v_c5, v_bin, v_bn, v_bn2, v_div, v_dv, v_dv2, v_une, v_un, v_loc, v_num, v_get, v_gt, v_ald, v_al, v_al2, v_len, v_ln, v_rl0, v_rl1, v_rl2, v_rl3, v_rl4, v_rl5, v_cmp, v_cp, v_cp2, v_zC, v_zc, v_con, v_kc, v_and, v_an1, v_an0, v_or, v_or1, v_or0, v_not, v_nt, v_boo, v_bo, v_cnd, v_cd1, v_cd0, v_cnc, v_cc1, v_cc0, v_ev0, v_ev, v_e1, v_e2, v_cve, v_cv, v_cse, v_cs, v_skip, v_seq, v_sq0, v_sq1, v_sqr, v_sts, v_st, v_inc, v_put, v_pt, v_pt2, v_fop, v_fo, v_fo2, v_ast, v_as, v_as2, v_as3, v_aop, v_ao, v_ao2, v_ao3, v_exs, v_ex, v_ifs, v_if1, v_if0, v_ret, v_rt, v_rez, v_rz, v_rev, v_brk, v_sws, v_sw, v_sw2, v_run, v_rb, v_turn, v_tu1, v_tu0, v_tu2, v_tu3, fst1, snd1, Option.map_some, Option.getD_some, enA, en, stE, okb, narV, rf_toNat, rf_nn, List.getElem?_cons_zero, List.getElem?_cons_succ, w32_id, w64_id, ite_t, ite_f, Int.toNat_add, Int.toNat_mul, dec_t, dec_f, sC_114, sC_115, u1, u2, v1, v2, a1, a2, f1, f2] <;> omega
  · rw [if_neg c5]
    simp -implicitDefEqProofs (disch := omega) [bX5_afterLook, v_cop, v_c1, v_c2, v_c3, v_c4, v_c5, v_bin, v_bn, v_bn2, v_div, v_dv, v_dv2, v_une, v_un, v_loc, v_num, v_get, v_gt, v_ald, v_al, v_al2, v_len, v_ln, v_rl0, v_rl1, v_rl2, v_rl3, v_rl4, v_rl5, v_cmp, v_cp, v_cp2, v_zC, v_zc, v_con, v_kc, v_and, v_an1, v_an0, v_or, v_or1, v_or0, v_not, v_nt, v_boo, v_bo, v_cnd, v_cd1, v_cd0, v_cnc, v_cc1, v_cc0, v_ev0, v_ev, v_e1, v_e2, v_cve, v_cv, v_cse, v_cs, v_skip, v_seq, v_sq0, v_sq1, v_sqr, v_sts, v_st, v_inc, v_put, v_pt, v_pt2, v_fop, v_fo, v_fo2, v_ast, v_as, v_as2, v_as3, v_aop, v_ao, v_ao2, v_ao3, v_exs, v_ex, v_ifs, v_if1, v_if0, v_ret, v_rt, v_rez, v_rz, v_rev, v_brk, v_sws, v_sw, v_sw2, v_run, v_rb, v_turn, v_tu1, v_tu0, v_tu2, v_tu3, fst1, snd1, Option.map_some, Option.getD_some, enA, en, stE, okb, narV, rf_toNat, rf_nn, List.getElem?_cons_zero, List.getElem?_cons_succ, w32_id, w64_id, ite_t, ite_f, Int.toNat_add, Int.toNat_mul, dec_t, dec_f, sC_114, sC_115, u1, u2, v1, v2, a1, a2, f1, f2] <;> omega
set_option maxRecDepth 100000 in theorem ishr4 {r : Nat} (hr : r < 65536) : o_ishr (r : Int) 4 = ((r / 16 : Nat) : Int) := by
  have := ishr_nat (a := r) (b := 4) (by omega) (by omega)
  rw [Nat.shiftRight_eq_div_pow] at this
  exact this
set_option maxRecDepth 100000 in theorem iand15 {r : Nat} (hr : r < 65536) : o_iand (r : Int) 15 = ((r % 16 : Nat) : Int) := by
  have := iand_nat (a := r) (b := 15) (by omega) (by omega)
  rw [show (15 : Nat) = 2 ^ 4 - 1 from rfl, Nat.and_two_pow_sub_one_eq_mod] at this
  exact this
