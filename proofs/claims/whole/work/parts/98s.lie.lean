/-! one beast lies down: the class -/
noncomputable def flkS (fl : Nat → Int) (n P : Nat) (nw : Nat → Int) (b : Nat) : Int := by
  classical
  exact if nearS fl n P nw b then byS fl nw b else -1
set_option maxRecDepth 100000 in theorem fre01 (n P : Nat) (nw : Nat → Int) (p : Int) : (fre1 n P nw p = 1 ∧ freS nw n P p) ∨ (fre1 n P nw p = 0 ∧ ¬ freS nw n P p) := by
  unfold fre1
  by_cases c : freS nw n P p
  · exact .inl ⟨if_pos c, c⟩
  · exact .inr ⟨if_neg c, c⟩
set_option maxRecDepth 100000 in theorem c_flankOf {μ : Mem} {h k n P M : Nat} {fl st nw : Nat → Int} (Q : DQ μ h k n P M fl st) (C : CD μ k n nw) (W : NW nw n P) {b : Nat} (hb : b < n) : fX0_flankOf shC [(2, rf 106), (2, rf h), (2, rf k), (0, (b : Int))] μ = some (flkS fl n P nw b, μ) := by
  have efr : ∀ p : Nat, p < P → _ := fun p hp => c_freeNextTo Q C hp
  obtain ⟨h1, h2, ⟨f0, f1, f2, -, -, -, -, -, -, -, -, -, g1, g2, -⟩, ⟨k0, k1, k2, k3, k4, k5, k6, k7, k8⟩, B, FR, ⟨p0, p1, p2⟩, -⟩ := Q
  have n1 := B.n1
  have hki := FR.ki b hb
  have b12 : b < 12 := by omega
  unfold flkS nearS
  by_cases c1 : fl (3 + 2 * b) = 2
  · by_cases c2 : 0 < b
    · obtain ⟨c, rfl⟩ : ∃ c, b = c + 1 := ⟨b - 1, by omega⟩
      have e1 : byS fl nw (c + 1) = nw c := by unfold byS; rw [if_pos ⟨c1, by omega⟩]; rfl
      rw [e1]
      rw [c1] at hki
      have a1 := C.1 c (by omega)
      have w := W.rg c
      have c12 : c < 12 := by omega
      have d1 : ¬ (c : Int) + 1 < 1 := by omega
      by_cases c3 : nw c = -1
      · rw [c3] at a1
        rw [if_neg (fun z => by have := z.1; omega)]
        simp -implicitDefEqProofs (disch := omega) [fX0_flankOf, bX0_flankOf, v_cop, v_c1, v_c2, v_c3, v_c4, v_c5, v_bin, v_bn, v_bn2, v_div, v_dv, v_dv2, v_une, v_un, v_loc, v_num, v_get, v_gt, v_ald, v_al, v_al2, v_len, v_ln, v_rl0, v_rl1, v_rl2, v_rl3, v_rl4, v_rl5, v_cmp, v_cp, v_cp2, v_zC, v_zc, v_con, v_kc, v_and, v_an1, v_an0, v_or, v_or1, v_or0, v_not, v_nt, v_boo, v_bo, v_cnd, v_cd1, v_cd0, v_cnc, v_cc1, v_cc0, v_ev0, v_ev, v_e1, v_e2, v_cve, v_cv, v_cse, v_cs, v_skip, v_seq, v_sq0, v_sq1, v_sqr, v_sts, v_st, v_inc, v_put, v_pt, v_pt2, v_fop, v_fo, v_fo2, v_ast, v_as, v_as2, v_as3, v_aop, v_ao, v_ao2, v_ao3, v_exs, v_ex, v_ifs, v_if1, v_if0, v_ret, v_rt, v_rez, v_rz, v_rev, v_brk, v_sws, v_sw, v_sw2, v_run, v_rb, v_turn, v_tu1, v_tu0, v_tu2, v_tu3, fst1, snd1, Option.map_some, Option.getD_some, enA, en, stE, okb, narV, rf_toNat, rf_nn, List.getElem?_cons_zero, List.getElem?_cons_succ, w32_id, w64_id, ite_t, ite_f, Int.toNat_add, Int.toNat_mul, dec_t, dec_f, f0, f1, g1, k0, k1, k5, hki, a1, d1]
      · obtain ⟨p, hp⟩ := Int.eq_ofNat_of_zero_le (show 0 ≤ nw c by omega)
        rw [hp] at a1 w c3 ⊢
        try simp only [Int.ofNat_eq_natCast] at a1 w c3 ⊢
        have e2 := efr p (by omega)
        rcases fre01 n P nw ((p : Int) - 1) with ⟨z1, z2⟩ | ⟨z1, z2⟩
        · rw [if_pos ⟨by omega, .inl z2⟩]
          rcases fre01 n P nw ((p : Int) + 1) with ⟨z3, z4⟩ | ⟨z3, z4⟩ <;> rw [z1, z3] at e2 <;> simp -implicitDefEqProofs (disch := omega) [fX0_flankOf, bX0_flankOf, v_cop, v_c1, v_c2, v_c3, v_c4, v_c5, v_bin, v_bn, v_bn2, v_div, v_dv, v_dv2, v_une, v_un, v_loc, v_num, v_get, v_gt, v_ald, v_al, v_al2, v_len, v_ln, v_rl0, v_rl1, v_rl2, v_rl3, v_rl4, v_rl5, v_cmp, v_cp, v_cp2, v_zC, v_zc, v_con, v_kc, v_and, v_an1, v_an0, v_or, v_or1, v_or0, v_not, v_nt, v_boo, v_bo, v_cnd, v_cd1, v_cd0, v_cnc, v_cc1, v_cc0, v_ev0, v_ev, v_e1, v_e2, v_cve, v_cv, v_cse, v_cs, v_skip, v_seq, v_sq0, v_sq1, v_sqr, v_sts, v_st, v_inc, v_put, v_pt, v_pt2, v_fop, v_fo, v_fo2, v_ast, v_as, v_as2, v_as3, v_aop, v_ao, v_ao2, v_ao3, v_exs, v_ex, v_ifs, v_if1, v_if0, v_ret, v_rt, v_rez, v_rz, v_rev, v_brk, v_sws, v_sw, v_sw2, v_run, v_rb, v_turn, v_tu1, v_tu0, v_tu2, v_tu3, fst1, snd1, Option.map_some, Option.getD_some, enA, en, stE, okb, narV, rf_toNat, rf_nn, List.getElem?_cons_zero, List.getElem?_cons_succ, w32_id, w64_id, ite_t, ite_f, Int.toNat_add, Int.toNat_mul, dec_t, dec_f, f0, f1, g1, k0, k1, k5, hki, a1, d1, c3, sC_106, e2]
        · rcases fre01 n P nw ((p : Int) + 1) with ⟨z3, z4⟩ | ⟨z3, z4⟩
          · rw [if_pos ⟨by omega, .inr z4⟩]
            rw [z1, z3] at e2
            simp -implicitDefEqProofs (disch := omega) [fX0_flankOf, bX0_flankOf, v_cop, v_c1, v_c2, v_c3, v_c4, v_c5, v_bin, v_bn, v_bn2, v_div, v_dv, v_dv2, v_une, v_un, v_loc, v_num, v_get, v_gt, v_ald, v_al, v_al2, v_len, v_ln, v_rl0, v_rl1, v_rl2, v_rl3, v_rl4, v_rl5, v_cmp, v_cp, v_cp2, v_zC, v_zc, v_con, v_kc, v_and, v_an1, v_an0, v_or, v_or1, v_or0, v_not, v_nt, v_boo, v_bo, v_cnd, v_cd1, v_cd0, v_cnc, v_cc1, v_cc0, v_ev0, v_ev, v_e1, v_e2, v_cve, v_cv, v_cse, v_cs, v_skip, v_seq, v_sq0, v_sq1, v_sqr, v_sts, v_st, v_inc, v_put, v_pt, v_pt2, v_fop, v_fo, v_fo2, v_ast, v_as, v_as2, v_as3, v_aop, v_ao, v_ao2, v_ao3, v_exs, v_ex, v_ifs, v_if1, v_if0, v_ret, v_rt, v_rez, v_rz, v_rev, v_brk, v_sws, v_sw, v_sw2, v_run, v_rb, v_turn, v_tu1, v_tu0, v_tu2, v_tu3, fst1, snd1, Option.map_some, Option.getD_some, enA, en, stE, okb, narV, rf_toNat, rf_nn, List.getElem?_cons_zero, List.getElem?_cons_succ, w32_id, w64_id, ite_t, ite_f, Int.toNat_add, Int.toNat_mul, dec_t, dec_f, f0, f1, g1, k0, k1, k5, hki, a1, d1, c3, sC_106, e2]
          · rw [if_neg (fun z => by rcases z.2 with q | q; exact z2 q; exact z4 q)]
            rw [z1, z3] at e2
            simp -implicitDefEqProofs (disch := omega) [fX0_flankOf, bX0_flankOf, v_cop, v_c1, v_c2, v_c3, v_c4, v_c5, v_bin, v_bn, v_bn2, v_div, v_dv, v_dv2, v_une, v_un, v_loc, v_num, v_get, v_gt, v_ald, v_al, v_al2, v_len, v_ln, v_rl0, v_rl1, v_rl2, v_rl3, v_rl4, v_rl5, v_cmp, v_cp, v_cp2, v_zC, v_zc, v_con, v_kc, v_and, v_an1, v_an0, v_or, v_or1, v_or0, v_not, v_nt, v_boo, v_bo, v_cnd, v_cd1, v_cd0, v_cnc, v_cc1, v_cc0, v_ev0, v_ev, v_e1, v_e2, v_cve, v_cv, v_cse, v_cs, v_skip, v_seq, v_sq0, v_sq1, v_sqr, v_sts, v_st, v_inc, v_put, v_pt, v_pt2, v_fop, v_fo, v_fo2, v_ast, v_as, v_as2, v_as3, v_aop, v_ao, v_ao2, v_ao3, v_exs, v_ex, v_ifs, v_if1, v_if0, v_ret, v_rt, v_rez, v_rz, v_rev, v_brk, v_sws, v_sw, v_sw2, v_run, v_rb, v_turn, v_tu1, v_tu0, v_tu2, v_tu3, fst1, snd1, Option.map_some, Option.getD_some, enA, en, stE, okb, narV, rf_toNat, rf_nn, List.getElem?_cons_zero, List.getElem?_cons_succ, w32_id, w64_id, ite_t, ite_f, Int.toNat_add, Int.toNat_mul, dec_t, dec_f, f0, f1, g1, k0, k1, k5, hki, a1, d1, c3, sC_106, e2]
    · have e1 : byS fl nw b = -1 := by unfold byS; rw [if_neg (fun z => c2 z.2)]
      rw [e1, if_neg (fun z => by have := z.1; omega)]
      have c0 : b = 0 := by omega
      subst c0
      rw [show (3 + 2 * 0) = 3 from rfl] at *
      simp -implicitDefEqProofs (disch := omega) [fX0_flankOf, bX0_flankOf, v_cop, v_c1, v_c2, v_c3, v_c4, v_c5, v_bin, v_bn, v_bn2, v_div, v_dv, v_dv2, v_une, v_un, v_loc, v_num, v_get, v_gt, v_ald, v_al, v_al2, v_len, v_ln, v_rl0, v_rl1, v_rl2, v_rl3, v_rl4, v_rl5, v_cmp, v_cp, v_cp2, v_zC, v_zc, v_con, v_kc, v_and, v_an1, v_an0, v_or, v_or1, v_or0, v_not, v_nt, v_boo, v_bo, v_cnd, v_cd1, v_cd0, v_cnc, v_cc1, v_cc0, v_ev0, v_ev, v_e1, v_e2, v_cve, v_cv, v_cse, v_cs, v_skip, v_seq, v_sq0, v_sq1, v_sqr, v_sts, v_st, v_inc, v_put, v_pt, v_pt2, v_fop, v_fo, v_fo2, v_ast, v_as, v_as2, v_as3, v_aop, v_ao, v_ao2, v_ao3, v_exs, v_ex, v_ifs, v_if1, v_if0, v_ret, v_rt, v_rez, v_rz, v_rev, v_brk, v_sws, v_sw, v_sw2, v_run, v_rb, v_turn, v_tu1, v_tu0, v_tu2, v_tu3, fst1, snd1, Option.map_some, Option.getD_some, enA, en, stE, okb, narV, rf_toNat, rf_nn, List.getElem?_cons_zero, List.getElem?_cons_succ, w32_id, w64_id, ite_t, ite_f, Int.toNat_add, Int.toNat_mul, dec_t, dec_f, f0, f1, g1, hki, c1]
  · have e1 : byS fl nw b = -1 := by unfold byS; rw [if_neg (fun z => c1 z.1)]
    rw [e1, if_neg (fun z => by have := z.1; omega)]
    simp -implicitDefEqProofs (disch := omega) [fX0_flankOf, bX0_flankOf, v_cop, v_c1, v_c2, v_c3, v_c4, v_c5, v_bin, v_bn, v_bn2, v_div, v_dv, v_dv2, v_une, v_un, v_loc, v_num, v_get, v_gt, v_ald, v_al, v_al2, v_len, v_ln, v_rl0, v_rl1, v_rl2, v_rl3, v_rl4, v_rl5, v_cmp, v_cp, v_cp2, v_zC, v_zc, v_con, v_kc, v_and, v_an1, v_an0, v_or, v_or1, v_or0, v_not, v_nt, v_boo, v_bo, v_cnd, v_cd1, v_cd0, v_cnc, v_cc1, v_cc0, v_ev0, v_ev, v_e1, v_e2, v_cve, v_cv, v_cse, v_cs, v_skip, v_seq, v_sq0, v_sq1, v_sqr, v_sts, v_st, v_inc, v_put, v_pt, v_pt2, v_fop, v_fo, v_fo2, v_ast, v_as, v_as2, v_as3, v_aop, v_ao, v_ao2, v_ao3, v_exs, v_ex, v_ifs, v_if1, v_if0, v_ret, v_rt, v_rez, v_rz, v_rev, v_brk, v_sws, v_sw, v_sw2, v_run, v_rb, v_turn, v_tu1, v_tu0, v_tu2, v_tu3, fst1, snd1, Option.map_some, Option.getD_some, enA, en, stE, okb, narV, rf_toNat, rf_nn, List.getElem?_cons_zero, List.getElem?_cons_succ, w32_id, w64_id, ite_t, ite_f, Int.toNat_add, Int.toNat_mul, dec_t, dec_f, f0, f1, g1, hki, c1, b12]
set_option maxRecDepth 100000 in theorem flk_may {fl nw : Nat → Int} {n P b : Nat} (p : Int) : mayS fl n P nw b p ↔ freS nw n P p ∧ (flkS fl n P nw b = -1 ∨ p - flkS fl n P nw b = 1 ∨ p - flkS fl n P nw b = -1) := by
  unfold mayS flkS
  by_cases c : nearS fl n P nw b
  · rw [if_pos c]
    have := c.1
    constructor
    · rintro ⟨h1, h2⟩
      exact ⟨h1, by have := h2 c; omega⟩
    · rintro ⟨h1, h2⟩
      exact ⟨h1, fun _ => by omega⟩
  · rw [if_neg c]
    exact ⟨fun z => ⟨z.1, .inl rfl⟩, fun z => ⟨z.1, fun q => absurd q c⟩⟩
set_option maxRecDepth 100000 in theorem bst_r {fl st nw : Nat → Int} {V : (Nat → Int) → Int} {n P b : Nat} (p : Nat) : (bstS fl st V n P nw b p).1 = -1 ∨ 0 ≤ (bstS fl st V n P nw b p).1 := by
  rcases bst_may (fl := fl) (st := st) (V := V) (n := n) (P := P) (nw := nw) (b := b) p with h | ⟨q, -, h, -⟩
  · exact .inl h
  · exact .inr (by omega)
set_option maxRecDepth 100000 in theorem bst1_t {fl st nw : Nat → Int} {V : (Nat → Int) → Int} {n P b p : Nat} {r : Int × Int} (h : mayS fl n P nw b p ∧ (r.1 < 0 ∨ r.2 < wnS fl st V n P nw b p ∨ wnS fl st V n P nw b p = r.2 ∧ fl (3 + 2 * b) = 3)) : bst1 fl st V n P nw b p r = ((p : Int), wnS fl st V n P nw b p) := by
  unfold bst1
  exact if_pos h
set_option maxRecDepth 100000 in theorem bst1_f {fl st nw : Nat → Int} {V : (Nat → Int) → Int} {n P b p : Nat} {r : Int × Int} (h : ¬ (mayS fl n P nw b p ∧ (r.1 < 0 ∨ r.2 < wnS fl st V n P nw b p ∨ wnS fl st V n P nw b p = r.2 ∧ fl (3 + 2 * b) = 3))) : bst1 fl st V n P nw b p r = r := by
  unfold bst1
  exact if_neg h
set_option maxRecDepth 100000 in theorem who_upf {nw : Nat → Int} {n P b : Nat} {q : Int} (W : NW nw n P) (hb : b < n) (hnb : nw b = -1) (hq : freS nw n P q) (p : Int) : whoS (upf nw b q) n p = if p = q then (b : Int) else whoS nw n p := by
  by_cases c : p = q
  · rw [if_pos c, c]
    have W2 := W.uf_ hb (.inr hq)
    exact who_at hq.1 (fun x y _ _ h1 h2 => W2.inj h1 h2) hb upf_s
  · rw [if_neg c]
    refine fst_congr (fun e he => ?_)
    by_cases ce : e = b
    · subst ce
      rw [upf_s, hnb]
      exact ⟨fun z => absurd z.2.symm c, fun z => by omega⟩
    · rw [upf_n ce]
set_option maxRecDepth 100000 in theorem go_st {i t : Nat} {e : Ex} {b : Sx} {sh : Shp} {env : Ev} {μ μ' : Mem} {x : Int} (he : e sh env μ = some (x, μ')) (hl : i + t % 2 < env.length) : seqS (stS i t e) b sh env μ = b sh (stE env i t x) μ' := by
  simp [seqS, stS, he, hl]
set_option maxRecDepth 100000 in theorem c_lieDown {μ : Mem} {h k n P M N : Nat} {fl st nw op arg : Nat → Int} {s : Int} (Q : DQ μ h k n P M fl st) (C : CD μ k n nw) (W : NW nw n P) {b : Nat} (hb : b < n) (hnb : nw b = -1) (L : LWN μ (h + 6) lieW (-19) op arg s N) : ∃ μ', fX0_lieDown shC [(2, rf 106), (2, rf h), (2, rf k), (0, (b : Int))] μ = some (0, μ') ∧ CD μ' k n (upf nw b (bstS fl st (LV op arg s N) n P nw b P).1) ∧ ∀ x y, x ≠ 107 → x ≠ 109 → x ≠ h + 8 → x ≠ k + 1 → μ' x y = μ x y := by
  have e1 := c_flankOf Q C W hb
  have B := Q.2.2.2.2.1
  have hh := Q.1
  have hk := Q.2.1
  have P2 := B.P2
  have n1 := B.n1
  have b12 : b < 12 := by omega
  generalize hV : LV op arg s N = V
  obtain ⟨env', m, lp, ⟨tk, tv, h2, h3, D⟩⟩ := loop_n (kb := 2) (kc := 3) (c := kX0_lieDown_0c) (body := kX0_lieDown_0b) (upd := kX0_lieDown_0u) (sh := shC) (n := P) (fun j env m => ∃ (tk : Nat) (tv : Int), tk ≠ 1 ∧ env = [(2, rf 106), (2, rf h), (2, rf k), (0, (b : Int)), (0, flkS fl n P nw b), (0, if fl (3 + 2 * b) = 3 then 1 else 0), (0, (bstS fl st V n P nw b j).1), (0, (bstS fl st V n P nw b j).2), (0, (j : Int)), (tk, tv)] ∧ ∀ x y, x ≠ 109 → x ≠ h + 8 → m x y = μ x y) (by
    rintro j env m hj ⟨tk, tv, h2, rfl, D⟩
    have Q1 := Q.of (μ' := m) (fun x y _ _ h3 _ h5 => D x y h3 h5)
    have C1 := C.of (μ' := m) (fun x y hx => D x y (by omega) (by omega))
    have L1 := L.of (μ' := m) (fun x y hx => D x y (by omega) (by omega))
    obtain ⟨μ', ew, D'⟩ := c_worthOf Q1 C1 W hb hnb hj L1
    rw [hV] at ew
    have h2' : ¬ tk = 1 := h2
    have br := bst_r (fl := fl) (st := st) (V := V) (n := n) (P := P) (nw := nw) (b := b) j
    have bs : bstS fl st V n P nw b (j + 1) = bst1 fl st V n P nw b j (bstS fl st V n P nw b j) := rfl
    have mm := flk_may (fl := fl) (nw := nw) (n := n) (P := P) (b := b) (j : Int)
    have wf := who_free (nw := nw) (n := n) (P := P) (p := (j : Int)) (by omega) (by omega)
    have a1 := C1.2 j (by omega)
    obtain ⟨-, -, ⟨f0, -⟩, -, -, FR, ⟨p0, -⟩, -⟩ := Q1
    have hpl := FR.pl
    rw [B.P0] at hpl
    have hj16 : j < 16 := by omega
    have hjP : (j : Int) < (P : Int) := by omega
    have fb : -1 ≤ flkS fl n P nw b ∧ flkS fl n P nw b < 16 := by
      unfold flkS byS
      have := W.rg (b - 1)
      split
      · split <;> omega
      · omega
    rw [bs]
    generalize flkS fl n P nw b = fk at *
    generalize bstS fl st V n P nw b j = r at *
    obtain ⟨r1, r2⟩ := r
    by_cases c1 : whoS nw n (j : Int) = -1
    · rw [c1] at a1
      by_cases c2 : fk = -1 ∨ (j : Int) - fk = 1 ∨ (j : Int) - fk = -1
      · have may := mm.mpr ⟨wf.mpr c1, c2⟩
        generalize hv : wnS fl st V n P nw b (j : Int) = v at ew
        have ok : ∀ (v1 v2 : Int), bst1 fl st V n P nw b j (r1, r2) = (v1, v2) → kX0_lieDown_0b shC [(2, rf 106), (2, rf h), (2, rf k), (0, (b : Int)), (0, fk), (0, if fl (3 + 2 * b) = 3 then 1 else 0), (0, r1), (0, r2), (0, (j : Int)), (tk, tv)] m = some (0, 0, [(2, rf 106), (2, rf h), (2, rf k), (0, (b : Int)), (0, fk), (0, if fl (3 + 2 * b) = 3 then 1 else 0), (0, v1), (0, v2), (0, (j : Int)), (0, v)], μ') := by
          intro v1 v2 hb1
          have first : ifS (orC (cmpC 1 (aldE 100 (getE 0 0 2 (locE 2 0)) (locE 0 8)) (numE (-1))) (andC (cmpC 1 (locE 0 4) (numE (-1))) (cmpC 1 (unE (fun x => if 0 ≤ x then x else w32 (0 - x)) (binE (fun x y => w32 (x - y)) (locE 0 8) (locE 0 4))) (numE 1)))) (brkS 3) skipS shC [(2, rf 106), (2, rf h), (2, rf k), (0, (b : Int)), (0, fk), (0, if fl (3 + 2 * b) = 3 then 1 else 0), (0, r1), (0, r2), (0, (j : Int)), (tk, tv)] m = some (0, 0, [(2, rf 106), (2, rf h), (2, rf k), (0, (b : Int)), (0, fk), (0, if fl (3 + 2 * b) = 3 then 1 else 0), (0, r1), (0, r2), (0, (j : Int)), (tk, tv)], m) := by
            by_cases d1 : fk = -1
            · simp -implicitDefEqProofs (disch := omega) [v_cop, v_c1, v_c2, v_c3, v_c4, v_c5, v_bin, v_bn, v_bn2, v_div, v_dv, v_dv2, v_une, v_un, v_loc, v_num, v_get, v_gt, v_ald, v_al, v_al2, v_len, v_ln, v_rl0, v_rl1, v_rl2, v_rl3, v_rl4, v_rl5, v_cmp, v_cp, v_cp2, v_zC, v_zc, v_con, v_kc, v_and, v_an1, v_an0, v_or, v_or1, v_or0, v_not, v_nt, v_boo, v_bo, v_cnd, v_cd1, v_cd0, v_cnc, v_cc1, v_cc0, v_ev0, v_ev, v_e1, v_e2, v_cve, v_cv, v_cse, v_cs, v_skip, v_seq, v_sq0, v_sq1, v_sqr, v_sts, v_st, v_inc, v_put, v_pt, v_pt2, v_fop, v_fo, v_fo2, v_ast, v_as, v_as2, v_as3, v_aop, v_ao, v_ao2, v_ao3, v_exs, v_ex, v_ifs, v_if1, v_if0, v_ret, v_rt, v_rez, v_rz, v_rev, v_brk, v_sws, v_sw, v_sw2, v_run, v_rb, v_turn, v_tu1, v_tu0, v_tu2, v_tu3, fst1, snd1, Option.map_some, Option.getD_some, enA, en, stE, okb, narV, rf_toNat, rf_nn, List.getElem?_cons_zero, List.getElem?_cons_succ, w32_id, w64_id, ite_t, ite_f, Int.toNat_add, Int.toNat_mul, dec_t, dec_f, sC_106, sC_107, p0, a1, hj16, d1]
            · by_cases d2 : (j : Int) - fk = 1
              · have d3 : 0 ≤ (j : Int) - fk := by omega
                simp -implicitDefEqProofs (disch := omega) [v_cop, v_c1, v_c2, v_c3, v_c4, v_c5, v_bin, v_bn, v_bn2, v_div, v_dv, v_dv2, v_une, v_un, v_loc, v_num, v_get, v_gt, v_ald, v_al, v_al2, v_len, v_ln, v_rl0, v_rl1, v_rl2, v_rl3, v_rl4, v_rl5, v_cmp, v_cp, v_cp2, v_zC, v_zc, v_con, v_kc, v_and, v_an1, v_an0, v_or, v_or1, v_or0, v_not, v_nt, v_boo, v_bo, v_cnd, v_cd1, v_cd0, v_cnc, v_cc1, v_cc0, v_ev0, v_ev, v_e1, v_e2, v_cve, v_cv, v_cse, v_cs, v_skip, v_seq, v_sq0, v_sq1, v_sqr, v_sts, v_st, v_inc, v_put, v_pt, v_pt2, v_fop, v_fo, v_fo2, v_ast, v_as, v_as2, v_as3, v_aop, v_ao, v_ao2, v_ao3, v_exs, v_ex, v_ifs, v_if1, v_if0, v_ret, v_rt, v_rez, v_rz, v_rev, v_brk, v_sws, v_sw, v_sw2, v_run, v_rb, v_turn, v_tu1, v_tu0, v_tu2, v_tu3, fst1, snd1, Option.map_some, Option.getD_some, enA, en, stE, okb, narV, rf_toNat, rf_nn, List.getElem?_cons_zero, List.getElem?_cons_succ, w32_id, w64_id, ite_t, ite_f, Int.toNat_add, Int.toNat_mul, dec_t, dec_f, sC_106, sC_107, p0, a1, hj16, d1, d2]
              · have d3 : (j : Int) - fk = -1 := by omega
                simp -implicitDefEqProofs (disch := omega) [v_cop, v_c1, v_c2, v_c3, v_c4, v_c5, v_bin, v_bn, v_bn2, v_div, v_dv, v_dv2, v_une, v_un, v_loc, v_num, v_get, v_gt, v_ald, v_al, v_al2, v_len, v_ln, v_rl0, v_rl1, v_rl2, v_rl3, v_rl4, v_rl5, v_cmp, v_cp, v_cp2, v_zC, v_zc, v_con, v_kc, v_and, v_an1, v_an0, v_or, v_or1, v_or0, v_not, v_nt, v_boo, v_bo, v_cnd, v_cd1, v_cd0, v_cnc, v_cc1, v_cc0, v_ev0, v_ev, v_e1, v_e2, v_cve, v_cv, v_cse, v_cs, v_skip, v_seq, v_sq0, v_sq1, v_sqr, v_sts, v_st, v_inc, v_put, v_pt, v_pt2, v_fop, v_fo, v_fo2, v_ast, v_as, v_as2, v_as3, v_aop, v_ao, v_ao2, v_ao3, v_exs, v_ex, v_ifs, v_if1, v_if0, v_ret, v_rt, v_rez, v_rz, v_rev, v_brk, v_sws, v_sw, v_sw2, v_run, v_rb, v_turn, v_tu1, v_tu0, v_tu2, v_tu3, fst1, snd1, Option.map_some, Option.getD_some, enA, en, stE, okb, narV, rf_toNat, rf_nn, List.getElem?_cons_zero, List.getElem?_cons_succ, w32_id, w64_id, ite_t, ite_f, Int.toNat_add, Int.toNat_mul, dec_t, dec_f, sC_106, sC_107, p0, a1, hj16, d1, d3]
          unfold kX0_lieDown_0b
          rw [v_seq, first, v_sq0]
          by_cases q1 : r1 < 0
          · have q1' : r1 = -1 := by omega
            rw [bst1_t ⟨may, .inl q1⟩, hv] at hb1
            cases hb1
            simp -implicitDefEqProofs (disch := omega) [v_cop, v_c1, v_c2, v_c3, v_c4, v_c5, v_bin, v_bn, v_bn2, v_div, v_dv, v_dv2, v_une, v_un, v_loc, v_num, v_get, v_gt, v_ald, v_al, v_al2, v_len, v_ln, v_rl0, v_rl1, v_rl2, v_rl3, v_rl4, v_rl5, v_cmp, v_cp, v_cp2, v_zC, v_zc, v_con, v_kc, v_and, v_an1, v_an0, v_or, v_or1, v_or0, v_not, v_nt, v_boo, v_bo, v_cnd, v_cd1, v_cd0, v_cnc, v_cc1, v_cc0, v_ev0, v_ev, v_e1, v_e2, v_cve, v_cv, v_cse, v_cs, v_skip, v_seq, v_sq0, v_sq1, v_sqr, v_sts, v_st, v_inc, v_put, v_pt, v_pt2, v_fop, v_fo, v_fo2, v_ast, v_as, v_as2, v_as3, v_aop, v_ao, v_ao2, v_ao3, v_exs, v_ex, v_ifs, v_if1, v_if0, v_ret, v_rt, v_rez, v_rz, v_rev, v_brk, v_sws, v_sw, v_sw2, v_run, v_rb, v_turn, v_tu1, v_tu0, v_tu2, v_tu3, fst1, snd1, Option.map_some, Option.getD_some, enA, en, stE, okb, narV, rf_toNat, rf_nn, List.getElem?_cons_zero, List.getElem?_cons_succ, w32_id, w64_id, ite_t, ite_f, Int.toNat_add, Int.toNat_mul, dec_t, dec_f, sC_106, ew, h2', q1']
          · have q1' : ¬ r1 = -1 := by omega
            by_cases q2 : r2 < v
            · rw [bst1_t ⟨may, .inr (.inl (by rw [hv]; exact q2))⟩, hv] at hb1
              cases hb1
              simp -implicitDefEqProofs (disch := omega) [v_cop, v_c1, v_c2, v_c3, v_c4, v_c5, v_bin, v_bn, v_bn2, v_div, v_dv, v_dv2, v_une, v_un, v_loc, v_num, v_get, v_gt, v_ald, v_al, v_al2, v_len, v_ln, v_rl0, v_rl1, v_rl2, v_rl3, v_rl4, v_rl5, v_cmp, v_cp, v_cp2, v_zC, v_zc, v_con, v_kc, v_and, v_an1, v_an0, v_or, v_or1, v_or0, v_not, v_nt, v_boo, v_bo, v_cnd, v_cd1, v_cd0, v_cnc, v_cc1, v_cc0, v_ev0, v_ev, v_e1, v_e2, v_cve, v_cv, v_cse, v_cs, v_skip, v_seq, v_sq0, v_sq1, v_sqr, v_sts, v_st, v_inc, v_put, v_pt, v_pt2, v_fop, v_fo, v_fo2, v_ast, v_as, v_as2, v_as3, v_aop, v_ao, v_ao2, v_ao3, v_exs, v_ex, v_ifs, v_if1, v_if0, v_ret, v_rt, v_rez, v_rz, v_rev, v_brk, v_sws, v_sw, v_sw2, v_run, v_rb, v_turn, v_tu1, v_tu0, v_tu2, v_tu3, fst1, snd1, Option.map_some, Option.getD_some, enA, en, stE, okb, narV, rf_toNat, rf_nn, List.getElem?_cons_zero, List.getElem?_cons_succ, w32_id, w64_id, ite_t, ite_f, Int.toNat_add, Int.toNat_mul, dec_t, dec_f, sC_106, ew, h2', q1', q2]
            · by_cases q3 : v = r2
              · by_cases q4 : fl (3 + 2 * b) = 3
                · rw [bst1_t ⟨may, .inr (.inr ⟨by rw [hv]; exact q3, q4⟩)⟩, hv] at hb1
                  cases hb1
                  simp -implicitDefEqProofs (disch := omega) [v_cop, v_c1, v_c2, v_c3, v_c4, v_c5, v_bin, v_bn, v_bn2, v_div, v_dv, v_dv2, v_une, v_un, v_loc, v_num, v_get, v_gt, v_ald, v_al, v_al2, v_len, v_ln, v_rl0, v_rl1, v_rl2, v_rl3, v_rl4, v_rl5, v_cmp, v_cp, v_cp2, v_zC, v_zc, v_con, v_kc, v_and, v_an1, v_an0, v_or, v_or1, v_or0, v_not, v_nt, v_boo, v_bo, v_cnd, v_cd1, v_cd0, v_cnc, v_cc1, v_cc0, v_ev0, v_ev, v_e1, v_e2, v_cve, v_cv, v_cse, v_cs, v_skip, v_seq, v_sq0, v_sq1, v_sqr, v_sts, v_st, v_inc, v_put, v_pt, v_pt2, v_fop, v_fo, v_fo2, v_ast, v_as, v_as2, v_as3, v_aop, v_ao, v_ao2, v_ao3, v_exs, v_ex, v_ifs, v_if1, v_if0, v_ret, v_rt, v_rez, v_rz, v_rev, v_brk, v_sws, v_sw, v_sw2, v_run, v_rb, v_turn, v_tu1, v_tu0, v_tu2, v_tu3, fst1, snd1, Option.map_some, Option.getD_some, enA, en, stE, okb, narV, rf_toNat, rf_nn, List.getElem?_cons_zero, List.getElem?_cons_succ, w32_id, w64_id, ite_t, ite_f, Int.toNat_add, Int.toNat_mul, dec_t, dec_f, sC_106, ew, h2', q1', q3, q4]
                · rw [bst1_f (by rw [hv]; rintro ⟨-, z | z | z⟩; exact q1 z; exact q2 z; exact q4 z.2)] at hb1
                  cases hb1
                  simp -implicitDefEqProofs (disch := omega) [v_cop, v_c1, v_c2, v_c3, v_c4, v_c5, v_bin, v_bn, v_bn2, v_div, v_dv, v_dv2, v_une, v_un, v_loc, v_num, v_get, v_gt, v_ald, v_al, v_al2, v_len, v_ln, v_rl0, v_rl1, v_rl2, v_rl3, v_rl4, v_rl5, v_cmp, v_cp, v_cp2, v_zC, v_zc, v_con, v_kc, v_and, v_an1, v_an0, v_or, v_or1, v_or0, v_not, v_nt, v_boo, v_bo, v_cnd, v_cd1, v_cd0, v_cnc, v_cc1, v_cc0, v_ev0, v_ev, v_e1, v_e2, v_cve, v_cv, v_cse, v_cs, v_skip, v_seq, v_sq0, v_sq1, v_sqr, v_sts, v_st, v_inc, v_put, v_pt, v_pt2, v_fop, v_fo, v_fo2, v_ast, v_as, v_as2, v_as3, v_aop, v_ao, v_ao2, v_ao3, v_exs, v_ex, v_ifs, v_if1, v_if0, v_ret, v_rt, v_rez, v_rz, v_rev, v_brk, v_sws, v_sw, v_sw2, v_run, v_rb, v_turn, v_tu1, v_tu0, v_tu2, v_tu3, fst1, snd1, Option.map_some, Option.getD_some, enA, en, stE, okb, narV, rf_toNat, rf_nn, List.getElem?_cons_zero, List.getElem?_cons_succ, w32_id, w64_id, ite_t, ite_f, Int.toNat_add, Int.toNat_mul, dec_t, dec_f, sC_106, ew, h2', q1', q3, q4]
              · rw [bst1_f (by rw [hv]; rintro ⟨-, z | z | z⟩; exact q1 z; exact q2 z; exact q3 z.1)] at hb1
                cases hb1
                simp -implicitDefEqProofs (disch := omega) [v_cop, v_c1, v_c2, v_c3, v_c4, v_c5, v_bin, v_bn, v_bn2, v_div, v_dv, v_dv2, v_une, v_un, v_loc, v_num, v_get, v_gt, v_ald, v_al, v_al2, v_len, v_ln, v_rl0, v_rl1, v_rl2, v_rl3, v_rl4, v_rl5, v_cmp, v_cp, v_cp2, v_zC, v_zc, v_con, v_kc, v_and, v_an1, v_an0, v_or, v_or1, v_or0, v_not, v_nt, v_boo, v_bo, v_cnd, v_cd1, v_cd0, v_cnc, v_cc1, v_cc0, v_ev0, v_ev, v_e1, v_e2, v_cve, v_cv, v_cse, v_cs, v_skip, v_seq, v_sq0, v_sq1, v_sqr, v_sts, v_st, v_inc, v_put, v_pt, v_pt2, v_fop, v_fo, v_fo2, v_ast, v_as, v_as2, v_as3, v_aop, v_ao, v_ao2, v_ao3, v_exs, v_ex, v_ifs, v_if1, v_if0, v_ret, v_rt, v_rez, v_rz, v_rev, v_brk, v_sws, v_sw, v_sw2, v_run, v_rb, v_turn, v_tu1, v_tu0, v_tu2, v_tu3, fst1, snd1, Option.map_some, Option.getD_some, enA, en, stE, okb, narV, rf_toNat, rf_nn, List.getElem?_cons_zero, List.getElem?_cons_succ, w32_id, w64_id, ite_t, ite_f, Int.toNat_add, Int.toNat_mul, dec_t, dec_f, sC_106, ew, h2', q1', q2, q3]
        have ok' := ok (bst1 fl st V n P nw b j (r1, r2)).1 (bst1 fl st V n P nw b j (r1, r2)).2 rfl
        refine ⟨_, μ', ?_, 0, v, by decide, rfl, fun x y h1 h2 => by rw [D' x y h1 h2]; exact D x y h1 h2⟩
        simp -implicitDefEqProofs (disch := omega) [kX0_lieDown_0c, kX0_lieDown_0u, v_cop, v_c1, v_c2, v_c3, v_c4, v_c5, v_bin, v_bn, v_bn2, v_div, v_dv, v_dv2, v_une, v_un, v_loc, v_num, v_get, v_gt, v_ald, v_al, v_al2, v_len, v_ln, v_rl0, v_rl1, v_rl2, v_rl3, v_rl4, v_rl5, v_cmp, v_cp, v_cp2, v_zC, v_zc, v_con, v_kc, v_and, v_an1, v_an0, v_or, v_or1, v_or0, v_not, v_nt, v_boo, v_bo, v_cnd, v_cd1, v_cd0, v_cnc, v_cc1, v_cc0, v_ev0, v_ev, v_e1, v_e2, v_cve, v_cv, v_cse, v_cs, v_skip, v_seq, v_sq0, v_sq1, v_sqr, v_sts, v_st, v_inc, v_put, v_pt, v_pt2, v_fop, v_fo, v_fo2, v_ast, v_as, v_as2, v_as3, v_aop, v_ao, v_ao2, v_ao3, v_exs, v_ex, v_ifs, v_if1, v_if0, v_ret, v_rt, v_rez, v_rz, v_rev, v_brk, v_sws, v_sw, v_sw2, v_run, v_rb, v_turn, v_tu1, v_tu0, v_tu2, v_tu3, fst1, snd1, Option.map_some, Option.getD_some, enA, en, stE, okb, narV, rf_toNat, rf_nn, List.getElem?_cons_zero, List.getElem?_cons_succ, w32_id, w64_id, ite_t, ite_f, Int.toNat_add, Int.toNat_mul, dec_t, dec_f, f0, hpl, hj, ok']
      · have nmay : ¬ mayS fl n P nw b (j : Int) := fun z => c2 (mm.mp z).2
        rw [bst1_f (fun z => nmay z.1)]
        refine ⟨_, m, ?_, tk, tv, h2, rfl, D⟩
        have d1 : ¬ fk = -1 := by omega
        have d2 : ¬ (if 0 ≤ (j : Int) - fk then (j : Int) - fk else w32 (0 - ((j : Int) - fk))) = 1 := by
          split
          · omega
          · rw [w32_id ⟨by omega, by omega⟩]; omega
        simp -implicitDefEqProofs (disch := omega) [kX0_lieDown_0c, kX0_lieDown_0b, kX0_lieDown_0u, v_cop, v_c1, v_c2, v_c3, v_c4, v_c5, v_bin, v_bn, v_bn2, v_div, v_dv, v_dv2, v_une, v_un, v_loc, v_num, v_get, v_gt, v_ald, v_al, v_al2, v_len, v_ln, v_rl0, v_rl1, v_rl2, v_rl3, v_rl4, v_rl5, v_cmp, v_cp, v_cp2, v_zC, v_zc, v_con, v_kc, v_and, v_an1, v_an0, v_or, v_or1, v_or0, v_not, v_nt, v_boo, v_bo, v_cnd, v_cd1, v_cd0, v_cnc, v_cc1, v_cc0, v_ev0, v_ev, v_e1, v_e2, v_cve, v_cv, v_cse, v_cs, v_skip, v_seq, v_sq0, v_sq1, v_sqr, v_sts, v_st, v_inc, v_put, v_pt, v_pt2, v_fop, v_fo, v_fo2, v_ast, v_as, v_as2, v_as3, v_aop, v_ao, v_ao2, v_ao3, v_exs, v_ex, v_ifs, v_if1, v_if0, v_ret, v_rt, v_rez, v_rz, v_rev, v_brk, v_sws, v_sw, v_sw2, v_run, v_rb, v_turn, v_tu1, v_tu0, v_tu2, v_tu3, fst1, snd1, Option.map_some, Option.getD_some, enA, en, stE, okb, narV, rf_toNat, rf_nn, List.getElem?_cons_zero, List.getElem?_cons_succ, w32_id, w64_id, ite_t, ite_f, Int.toNat_add, Int.toNat_mul, dec_t, dec_f, f0, hpl, hj, sC_106, sC_107, p0, a1, hj16, d1, d2]
    · have nmay : ¬ mayS fl n P nw b (j : Int) := fun z => c1 (wf.mp (mm.mp z).1)
      rw [bst1_f (fun z => nmay z.1)]
      refine ⟨_, m, ?_, tk, tv, h2, rfl, D⟩
      simp -implicitDefEqProofs (disch := omega) [kX0_lieDown_0c, kX0_lieDown_0b, kX0_lieDown_0u, v_cop, v_c1, v_c2, v_c3, v_c4, v_c5, v_bin, v_bn, v_bn2, v_div, v_dv, v_dv2, v_une, v_un, v_loc, v_num, v_get, v_gt, v_ald, v_al, v_al2, v_len, v_ln, v_rl0, v_rl1, v_rl2, v_rl3, v_rl4, v_rl5, v_cmp, v_cp, v_cp2, v_zC, v_zc, v_con, v_kc, v_and, v_an1, v_an0, v_or, v_or1, v_or0, v_not, v_nt, v_boo, v_bo, v_cnd, v_cd1, v_cd0, v_cnc, v_cc1, v_cc0, v_ev0, v_ev, v_e1, v_e2, v_cve, v_cv, v_cse, v_cs, v_skip, v_seq, v_sq0, v_sq1, v_sqr, v_sts, v_st, v_inc, v_put, v_pt, v_pt2, v_fop, v_fo, v_fo2, v_ast, v_as, v_as2, v_as3, v_aop, v_ao, v_ao2, v_ao3, v_exs, v_ex, v_ifs, v_if1, v_if0, v_ret, v_rt, v_rez, v_rz, v_rev, v_brk, v_sws, v_sw, v_sw2, v_run, v_rb, v_turn, v_tu1, v_tu0, v_tu2, v_tu3, fst1, snd1, Option.map_some, Option.getD_some, enA, en, stE, okb, narV, rf_toNat, rf_nn, List.getElem?_cons_zero, List.getElem?_cons_succ, w32_id, w64_id, ite_t, ite_f, Int.toNat_add, Int.toNat_mul, dec_t, dec_f, f0, hpl, hj, sC_106, sC_107, p0, a1, hj16, c1]) (by
    rintro env m ⟨tk, tv, h2, rfl, D⟩
    have Q1 := Q.of (μ' := m) (fun x y _ _ h3 _ h5 => D x y h3 h5)
    obtain ⟨-, -, ⟨f0, -⟩, -, -, FR, -⟩ := Q1
    have hpl := FR.pl
    rw [B.P0] at hpl
    simp -implicitDefEqProofs (disch := omega) [kX0_lieDown_0c, v_cop, v_c1, v_c2, v_c3, v_c4, v_c5, v_bin, v_bn, v_bn2, v_div, v_dv, v_dv2, v_une, v_un, v_loc, v_num, v_get, v_gt, v_ald, v_al, v_al2, v_len, v_ln, v_rl0, v_rl1, v_rl2, v_rl3, v_rl4, v_rl5, v_cmp, v_cp, v_cp2, v_zC, v_zc, v_con, v_kc, v_and, v_an1, v_an0, v_or, v_or1, v_or0, v_not, v_nt, v_boo, v_bo, v_cnd, v_cd1, v_cd0, v_cnc, v_cc1, v_cc0, v_ev0, v_ev, v_e1, v_e2, v_cve, v_cv, v_cse, v_cs, v_skip, v_seq, v_sq0, v_sq1, v_sqr, v_sts, v_st, v_inc, v_put, v_pt, v_pt2, v_fop, v_fo, v_fo2, v_ast, v_as, v_as2, v_as3, v_aop, v_ao, v_ao2, v_ao3, v_exs, v_ex, v_ifs, v_if1, v_if0, v_ret, v_rt, v_rez, v_rz, v_rev, v_brk, v_sws, v_sw, v_sw2, v_run, v_rb, v_turn, v_tu1, v_tu0, v_tu2, v_tu3, fst1, snd1, Option.map_some, Option.getD_some, enA, en, stE, okb, narV, rf_toNat, rf_nn, List.getElem?_cons_zero, List.getElem?_cons_succ, w32_id, w64_id, ite_t, ite_f, Int.toNat_add, Int.toNat_mul, dec_t, dec_f, f0, hpl]) (env := [(2, rf 106), (2, rf h), (2, rf k), (0, (b : Int)), (0, flkS fl n P nw b), (0, if fl (3 + 2 * b) = 3 then 1 else 0), (0, -1), (0, 0), (0, 0), (3, 0)]) (μ := μ) ⟨3, 0, by decide, rfl, fun _ _ _ _ => rfl⟩
  subst h3
  have Q1 := Q.of (μ' := m) (fun x y _ _ h3 _ h5 => D x y h3 h5)
  have C1 := C.of (μ' := m) (fun x y hx => D x y (by omega) (by omega))
  obtain ⟨-, -, ⟨f0, f1, -, -, -, -, -, -, -, -, -, -, g1, -⟩, ⟨k0, k1, -, -, -, k5, -⟩, -, FR, ⟨p0, -⟩, -⟩ := Q1
  obtain ⟨-, -, ⟨f0', f1', -, -, -, -, -, -, -, -, -, -, g1', -⟩, -, -, FR', -⟩ := Q
  have hki := FR'.ki b hb
  rcases bst_may (fl := fl) (st := st) (V := V) (n := n) (P := P) (nw := nw) (b := b) P with z | ⟨q, z1, z2, z3⟩
  · refine ⟨m, ?_, ?_, fun x y _ h2 h3 _ => D x y h2 h3⟩
    · rw [z] at lp
      simp -implicitDefEqProofs (disch := omega) [fX0_lieDown, bX0_lieDown, kX0_lieDown_0, v_cop, v_c1, v_c2, v_c3, v_c4, v_c5, v_bin, v_bn, v_bn2, v_div, v_dv, v_dv2, v_une, v_un, v_loc, v_num, v_get, v_gt, v_ald, v_al, v_al2, v_len, v_ln, v_rl0, v_rl1, v_rl2, v_rl3, v_rl4, v_rl5, v_cmp, v_cp, v_cp2, v_zC, v_zc, v_con, v_kc, v_and, v_an1, v_an0, v_or, v_or1, v_or0, v_not, v_nt, v_boo, v_bo, v_cnd, v_cd1, v_cd0, v_cnc, v_cc1, v_cc0, v_ev0, v_ev, v_e1, v_e2, v_cve, v_cv, v_cse, v_cs, v_skip, v_seq, v_sq0, v_sq1, v_sqr, v_sts, v_st, v_inc, v_put, v_pt, v_pt2, v_fop, v_fo, v_fo2, v_ast, v_as, v_as2, v_as3, v_aop, v_ao, v_ao2, v_ao3, v_exs, v_ex, v_ifs, v_if1, v_if0, v_ret, v_rt, v_rez, v_rz, v_rev, v_brk, v_sws, v_sw, v_sw2, v_run, v_rb, v_turn, v_tu1, v_tu0, v_tu2, v_tu3, fst1, snd1, Option.map_some, Option.getD_some, enA, en, stE, okb, narV, rf_toNat, rf_nn, List.getElem?_cons_zero, List.getElem?_cons_succ, w32_id, w64_id, ite_t, ite_f, Int.toNat_add, Int.toNat_mul, dec_t, dec_f, sC_106, e1, f0', f1', g1', hki, b12, v_bo, lp]
    · have : upf nw b (-1) = nw := by
        funext e
        by_cases ce : e = b
        · rw [ce, upf_s, hnb]
        · rw [upf_n ce]
      rw [z, this]
      exact C1
  · have qn : ¬ (q : Int) = -1 := by omega
    have q16 : q < 16 := by omega
    refine ⟨ud (ud m 107 q (b : Int)) (k + 1) b (q : Int), ?_, ⟨fun e he => ?_, fun p hp => ?_⟩, fun x y h1 h2 h3 h4 => by rw [ud_c h4, ud_c h1]; exact D x y h2 h3⟩
    · rw [z2] at lp
      have k5' : ud m 107 q (b : Int) k 2 = rf (k + 1) := by rw [ud_c (by omega)]; exact k5
      simp -implicitDefEqProofs (disch := omega) [fX0_lieDown, bX0_lieDown, kX0_lieDown_0, v_cop, v_c1, v_c2, v_c3, v_c4, v_c5, v_bin, v_bn, v_bn2, v_div, v_dv, v_dv2, v_une, v_un, v_loc, v_num, v_get, v_gt, v_ald, v_al, v_al2, v_len, v_ln, v_rl0, v_rl1, v_rl2, v_rl3, v_rl4, v_rl5, v_cmp, v_cp, v_cp2, v_zC, v_zc, v_con, v_kc, v_and, v_an1, v_an0, v_or, v_or1, v_or0, v_not, v_nt, v_boo, v_bo, v_cnd, v_cd1, v_cd0, v_cnc, v_cc1, v_cc0, v_ev0, v_ev, v_e1, v_e2, v_cve, v_cv, v_cse, v_cs, v_skip, v_seq, v_sq0, v_sq1, v_sqr, v_sts, v_st, v_inc, v_put, v_pt, v_pt2, v_fop, v_fo, v_fo2, v_ast, v_as, v_as2, v_as3, v_aop, v_ao, v_ao2, v_ao3, v_exs, v_ex, v_ifs, v_if1, v_if0, v_ret, v_rt, v_rez, v_rz, v_rev, v_brk, v_sws, v_sw, v_sw2, v_run, v_rb, v_turn, v_tu1, v_tu0, v_tu2, v_tu3, fst1, snd1, Option.map_some, Option.getD_some, enA, en, stE, okb, narV, rf_toNat, rf_nn, List.getElem?_cons_zero, List.getElem?_cons_succ, w32_id, w64_id, ite_t, ite_f, Int.toNat_add, Int.toNat_mul, dec_t, dec_f, sC_106, sC_107, e1, f0', f1', g1', hki, b12, lp, qn, p0, q16, k0, k1, k5']
    · rw [z2]
      by_cases ce : e = b
      · rw [ce, ud_s, upf_s]
      · rw [ud_j ce, ud_c (by omega), upf_n ce]; exact C1.1 e he
    · rw [z2, ud_c (by omega), who_upf W hb hnb z3.1]
      by_cases cp : p = q
      · rw [cp, ud_s, if_pos rfl]
      · rw [ud_j cp, if_neg (by omega)]; exact C1.2 p hp
