/-! an evening: the class's small methods -/
set_option maxRecDepth 100000 in theorem v_cdn (b : Bool) (x y : Int) (μ : Mem) (sh : Shp) (env : Ev) : q_cd (some (b, μ)) (numE x) (numE y) sh env = some (if b then x else y, μ) := by cases b <;> rfl
set_option maxRecDepth 100000 in theorem sum_add (f g : Nat → Int) : ∀ n, sumN (fun e => f e + g e) n = sumN f n + sumN g n
  | 0 => rfl
  | n + 1 => by
    show sumN (fun e => f e + g e) n + (f n + g n) = (sumN f n + f n) + (sumN g n + g n)
    rw [sum_add f g n]
    omega
set_option maxRecDepth 100000 in theorem sum_zero {f : Nat → Int} : ∀ n, (∀ e, e < n → f e = 0) → sumN f n = 0
  | 0, _ => rfl
  | n + 1, h => by
    show sumN f n + f n = 0
    rw [sum_zero n (fun e he => h e (by omega)), h n (by omega)]
    rfl
set_option maxRecDepth 100000 in theorem sum_one {f : Nat → Int} {m : Nat} : ∀ n, m < n → (∀ e, e < n → e ≠ m → f e = 0) → sumN f n = f m
  | 0, h, _ => by omega
  | n + 1, hm, h => by
    show sumN f n + f n = f m
    by_cases c : m = n
    · subst c
      rw [sum_zero m (fun e he => h e (by omega) (by omega))]
      omega
    · rw [sum_one n (by omega) (fun e he hne => h e (by omega) hne), h n (by omega) (by omega)]
      omega
/-- the liking of who lies at q -/
noncomputable def laS (fl st nw : Nat → Int) (n b : Nat) (q : Int) : Int := if whoS nw n q = -1 then 0 else likS fl st b (whoS nw n q).toNat
set_option maxRecDepth 100000 in theorem sum_at {nw g : Nat → Int} {n P : Nat} (h : NW nw n P) (q : Int) : sumN (fun e => if 0 ≤ q ∧ nw e = q then g e else 0) n = if whoS nw n q = -1 then 0 else g (whoS nw n q).toNat := by
  rcases fst_cases (fun b => 0 ≤ q ∧ nw b = q) n with ⟨q1, q2⟩ | ⟨m, q0, q1, q2, q3⟩
  · have e1 : whoS nw n q = -1 := q1
    rw [if_pos e1]
    exact sum_zero n (fun e he => if_neg (q2 e he))
  · have e1 : whoS nw n q = (m : Int) := q1
    rw [e1, if_neg (by omega), Int.toNat_natCast, sum_one n q0 (fun e he hne => if_neg (fun z => hne (h.inj (by rw [z.2, q2.2]) (by rw [z.2]; exact z.1)))), if_pos q2]
set_option maxRecDepth 100000 in theorem lk_two {fl st nw : Nat → Int} {n P b : Nat} (h : NW nw n P) (hb : nw b = -1) (p : Int) : lkN fl st n nw b p = laS fl st nw n b (p - 1) + laS fl st nw n b (p + 1) := by
  unfold lkN laS
  rw [← sum_at (g := likS fl st b) h (p - 1), ← sum_at (g := likS fl st b) h (p + 1), ← sum_add]
  refine sum_congr (fun e he => ?_)
  unfold lkE
  by_cases c1 : 0 ≤ p - 1 ∧ nw e = p - 1
  · have : e ≠ b := fun z => by rw [z, hb] at c1; omega
    rw [if_pos ⟨⟨this, by omega⟩, by omega⟩, if_pos c1, if_neg (by omega)]
    omega
  · by_cases c2 : 0 ≤ p + 1 ∧ nw e = p + 1
    · have : e ≠ b := fun z => by rw [z, hb] at c2; omega
      rw [if_pos ⟨⟨this, by omega⟩, by omega⟩, if_neg c1, if_pos c2]
      omega
    · rw [if_neg (by omega), if_neg c1, if_neg c2]
      rfl
set_option maxRecDepth 100000 in theorem lik_b {fl st : Nat → Int} {n P M a b : Nat} (B : FB fl n P M) (ha : a < 12) (hb : b < 12) : 0 ≤ likS fl st a b ∧ likS fl st a b ≤ 99 := by
  have := B.li a b ha hb
  unfold likS
  split <;> omega
set_option maxRecDepth 100000 in theorem la_b {fl st nw : Nat → Int} {n P M b : Nat} (B : FB fl n P M) (hb : b < 12) (q : Int) : 0 ≤ laS fl st nw n b q ∧ laS fl st nw n b q ≤ 99 := by
  unfold laS
  rcases who_cases nw n q with h | ⟨m, h1, h2, h3⟩
  · rw [if_pos h]; omega
  · rw [h2, if_neg (by omega), Int.toNat_natCast]
    exact lik_b B hb (by have := B.n1; omega)
def DQ (μ : Mem) (h k n P M : Nat) (fl st : Nat → Int) : Prop := (h = 3 ∨ h = 15) ∧ (k = 30 ∨ k = 35) ∧ ObFl shC μ h ∧ ObLy shC μ k ∧ FB fl n P M ∧ FR μ h fl n M ∧ (μ 106 0 = rf 107 ∧ μ 106 1 = rf 108 ∧ μ 106 2 = rf 109) ∧ (∀ b, b < 12 → μ (k + 2) b = st (14 + b)) ∧ (∀ b, b < 12 → μ (k + 3) b = st (26 + b)) ∧ μ k 0 = st 0
set_option maxRecDepth 100000 in theorem DQ.of {μ μ' : Mem} {h k n P M : Nat} {fl st : Nat → Int} (q : DQ μ h k n P M fl st) (e : ∀ a b, a ≠ 107 → a ≠ 108 → a ≠ 109 → a ≠ k + 1 → a ≠ h + 8 → μ' a b = μ a b) : DQ μ' h k n P M fl st := by
  obtain ⟨h1, h2, ⟨f0, f1, f2, f3, f4, f5, f6, f7, f8, f9, f10, f11, g1, g2, g3, g4, g5, g6, g7, g8, g9, g10, g11⟩, ⟨k0, k1, k2, k3, k4, k5, k6, k7, k8⟩, h5, h6, ⟨h7, h8, h9⟩, h10, h11, h12⟩ := q
  have e' : ∀ a b, a ≠ 107 → a ≠ 108 → a ≠ 109 → a ≠ k + 1 → a ≠ h + 8 → μ' a b = μ a b := e
  refine ⟨h1, h2, ⟨f0, f1, f2, f3, f4, f5, f6, f7, f8, f9, f10, f11, ?_, ?_, ?_, ?_, ?_, ?_, ?_, ?_, ?_, ?_, ?_⟩, ⟨k0, k1, k2, k3, k4, ?_, ?_, ?_, ?_⟩, h5, h6.of (fun a b _ _ => e a b (by omega) (by omega) (by omega) (by omega) (by omega)), ⟨?_, ?_, ?_⟩, fun b hb => ?_, fun b hb => ?_, ?_⟩
  all_goals rw [e _ _ (by omega) (by omega) (by omega) (by omega) (by omega)]
  all_goals first | assumption | exact h10 b hb | exact h11 b hb
def CD (μ : Mem) (k n : Nat) (nw : Nat → Int) : Prop := (∀ b, b < 12 → μ (k + 1) b = nw b) ∧ ∀ p, p < 16 → μ 107 p = whoS nw n p
set_option maxRecDepth 100000 in theorem CD.of {μ μ' : Mem} {k n : Nat} {nw : Nat → Int} (q : CD μ k n nw) (e : ∀ a b, a = 107 ∨ a = k + 1 → μ' a b = μ a b) : CD μ' k n nw := ⟨fun b hb => by rw [e _ _ (.inr rfl)]; exact q.1 b hb, fun p hp => by rw [e _ _ (.inl rfl)]; exact q.2 p hp⟩
set_option maxRecDepth 100000 in theorem fre_lo {nw : Nat → Int} {n P p : Nat} (hp : p < P) : fre1 n P nw ((p : Int) - 1) = if 0 < p ∧ whoS nw n ((p : Int) - 1) = -1 then 1 else 0 := by
  unfold fre1
  by_cases c : 0 < p ∧ whoS nw n ((p : Int) - 1) = -1
  · rw [if_pos c]
    exact if_pos ((who_free (by omega) (by omega)).mpr c.2)
  · rw [if_neg c]
    refine if_neg (fun z => c ?_)
    have h0 := z.1
    exact ⟨by omega, (who_free h0 z.2.1).mp z⟩
set_option maxRecDepth 100000 in theorem fre_hi {nw : Nat → Int} {n P p : Nat} : fre1 n P nw ((p : Int) + 1) = if p + 1 < P ∧ whoS nw n ((p : Int) + 1) = -1 then 1 else 0 := by
  unfold fre1
  by_cases c : p + 1 < P ∧ whoS nw n ((p : Int) + 1) = -1
  · rw [if_pos c]
    exact if_pos ((who_free (by omega) (by omega)).mpr c.2)
  · rw [if_neg c]
    refine if_neg (fun z => c ?_)
    have h0 := z.2.1
    exact ⟨by omega, (who_free z.1 h0).mp z⟩
set_option maxRecDepth 100000 in theorem c_freeNextTo {μ : Mem} {h k n P M : Nat} {fl st nw : Nat → Int} (Q : DQ μ h k n P M fl st) (C : CD μ k n nw) {p : Nat} (hp : p < P) : fX0_freeNextTo shC [(2, rf 106), (2, rf h), (0, (p : Int))] μ = some (fre1 n P nw ((p : Int) - 1) + fre1 n P nw ((p : Int) + 1), μ) := by
  obtain ⟨h1, h2, ⟨f0, -⟩, -, B, FR, ⟨p0, p1, p2⟩, -⟩ := Q
  have P2 := B.P2
  have a0 := FR.pl
  rw [B.P0] at a0
  rw [fre_lo hp, fre_hi]
  have lo : ∀ x : Int, x = (if 0 < p ∧ whoS nw n ((p : Int) - 1) = -1 then 1 else 0) → stS 3 0 (condE (andC (zC 4 (locE 0 2)) (cmpC 0 (aldE 100 (getE 0 0 2 (locE 2 0)) (binE (fun x y => w32 (x - y)) (locE 0 2) (numE 1))) (numE (-1)))) (numE 1) (numE 0)) shC [(2, rf 106), (2, rf h), (0, (p : Int)), (3, 0)] μ = some (0, 0, [(2, rf 106), (2, rf h), (0, (p : Int)), (0, x)], μ) := by
    intro x hx
    by_cases c1 : 0 < p
    · obtain ⟨q, rfl⟩ : ∃ q, p = q + 1 := ⟨p - 1, by omega⟩
      have a2 := C.2 q (by omega)
      rw [show ((q + 1 : Nat) : Int) - 1 = (q : Int) by omega] at hx
      by_cases c2 : whoS nw n (q : Int) = -1
      · rw [if_pos ⟨c1, c2⟩] at hx
        rw [c2] at a2
        subst hx
        simp -implicitDefEqProofs (disch := omega) [v_cop, v_c1, v_c2, v_c3, v_c4, v_c5, v_bin, v_bn, v_bn2, v_div, v_dv, v_dv2, v_une, v_un, v_loc, v_num, v_get, v_gt, v_ald, v_al, v_al2, v_len, v_ln, v_rl0, v_rl1, v_rl2, v_rl3, v_rl4, v_rl5, v_cmp, v_cp, v_cp2, v_zC, v_zc, v_con, v_kc, v_and, v_an1, v_an0, v_or, v_or1, v_or0, v_not, v_nt, v_boo, v_bo, v_cnd, v_cd1, v_cd0, v_cnc, v_cc1, v_cc0, v_ev0, v_ev, v_e1, v_e2, v_cve, v_cv, v_cse, v_cs, v_skip, v_seq, v_sq0, v_sq1, v_sqr, v_sts, v_st, v_inc, v_put, v_pt, v_pt2, v_fop, v_fo, v_fo2, v_ast, v_as, v_as2, v_as3, v_aop, v_ao, v_ao2, v_ao3, v_exs, v_ex, v_ifs, v_if1, v_if0, v_ret, v_rt, v_rez, v_rz, v_rev, v_brk, v_sws, v_sw, v_sw2, v_run, v_rb, v_turn, v_tu1, v_tu0, v_tu2, v_tu3, fst1, snd1, Option.map_some, Option.getD_some, enA, en, stE, okb, narV, rf_toNat, rf_nn, List.getElem?_cons_zero, List.getElem?_cons_succ, w32_id, w64_id, ite_t, ite_f, Int.toNat_add, Int.toNat_mul, dec_t, dec_f, sC_106, sC_107, p0, a2]
      · rw [if_neg (fun z => c2 z.2)] at hx
        subst hx
        simp -implicitDefEqProofs (disch := omega) [v_cop, v_c1, v_c2, v_c3, v_c4, v_c5, v_bin, v_bn, v_bn2, v_div, v_dv, v_dv2, v_une, v_un, v_loc, v_num, v_get, v_gt, v_ald, v_al, v_al2, v_len, v_ln, v_rl0, v_rl1, v_rl2, v_rl3, v_rl4, v_rl5, v_cmp, v_cp, v_cp2, v_zC, v_zc, v_con, v_kc, v_and, v_an1, v_an0, v_or, v_or1, v_or0, v_not, v_nt, v_boo, v_bo, v_cnd, v_cd1, v_cd0, v_cnc, v_cc1, v_cc0, v_ev0, v_ev, v_e1, v_e2, v_cve, v_cv, v_cse, v_cs, v_skip, v_seq, v_sq0, v_sq1, v_sqr, v_sts, v_st, v_inc, v_put, v_pt, v_pt2, v_fop, v_fo, v_fo2, v_ast, v_as, v_as2, v_as3, v_aop, v_ao, v_ao2, v_ao3, v_exs, v_ex, v_ifs, v_if1, v_if0, v_ret, v_rt, v_rez, v_rz, v_rev, v_brk, v_sws, v_sw, v_sw2, v_run, v_rb, v_turn, v_tu1, v_tu0, v_tu2, v_tu3, fst1, snd1, Option.map_some, Option.getD_some, enA, en, stE, okb, narV, rf_toNat, rf_nn, List.getElem?_cons_zero, List.getElem?_cons_succ, w32_id, w64_id, ite_t, ite_f, Int.toNat_add, Int.toNat_mul, dec_t, dec_f, sC_106, sC_107, p0, a2, c2]
    · rw [if_neg (fun z => c1 z.1)] at hx
      subst hx
      simp -implicitDefEqProofs (disch := omega) [v_cop, v_c1, v_c2, v_c3, v_c4, v_c5, v_bin, v_bn, v_bn2, v_div, v_dv, v_dv2, v_une, v_un, v_loc, v_num, v_get, v_gt, v_ald, v_al, v_al2, v_len, v_ln, v_rl0, v_rl1, v_rl2, v_rl3, v_rl4, v_rl5, v_cmp, v_cp, v_cp2, v_zC, v_zc, v_con, v_kc, v_and, v_an1, v_an0, v_or, v_or1, v_or0, v_not, v_nt, v_boo, v_bo, v_cnd, v_cd1, v_cd0, v_cnc, v_cc1, v_cc0, v_ev0, v_ev, v_e1, v_e2, v_cve, v_cv, v_cse, v_cs, v_skip, v_seq, v_sq0, v_sq1, v_sqr, v_sts, v_st, v_inc, v_put, v_pt, v_pt2, v_fop, v_fo, v_fo2, v_ast, v_as, v_as2, v_as3, v_aop, v_ao, v_ao2, v_ao3, v_exs, v_ex, v_ifs, v_if1, v_if0, v_ret, v_rt, v_rez, v_rz, v_rev, v_brk, v_sws, v_sw, v_sw2, v_run, v_rb, v_turn, v_tu1, v_tu0, v_tu2, v_tu3, fst1, snd1, Option.map_some, Option.getD_some, enA, en, stE, okb, narV, rf_toNat, rf_nn, List.getElem?_cons_zero, List.getElem?_cons_succ, w32_id, w64_id, ite_t, ite_f, Int.toNat_add, Int.toNat_mul, dec_t, dec_f]
  have hi : ∀ x : Int, 0 ≤ x ∧ x ≤ 1 → retS (condE (andC (cmpC 2 (binE (fun x y => w32 (x + y)) (locE 0 2) (numE 1)) (getE 1 0 0 (locE 2 1))) (cmpC 0 (aldE 100 (getE 0 0 2 (locE 2 0)) (binE (fun x y => w32 (x + y)) (locE 0 2) (numE 1))) (numE (-1)))) (binE (fun x y => w32 (x + y)) (locE 0 3) (numE 1)) (locE 0 3)) shC [(2, rf 106), (2, rf h), (0, (p : Int)), (0, x)] μ = some (1, x + (if p + 1 < P ∧ whoS nw n ((p : Int) + 1) = -1 then 1 else 0), [(2, rf 106), (2, rf h), (0, (p : Int)), (0, x)], μ) := by
    intro x hx
    by_cases c3 : p + 1 < P
    · have a5 := C.2 (p + 1) (by omega)
      rw [show ((p + 1 : Nat) : Int) = (p : Int) + 1 by omega] at a5
      by_cases c4 : whoS nw n ((p : Int) + 1) = -1
      · rw [if_pos ⟨c3, c4⟩]
        rw [c4] at a5
        simp -implicitDefEqProofs (disch := omega) [v_cop, v_c1, v_c2, v_c3, v_c4, v_c5, v_bin, v_bn, v_bn2, v_div, v_dv, v_dv2, v_une, v_un, v_loc, v_num, v_get, v_gt, v_ald, v_al, v_al2, v_len, v_ln, v_rl0, v_rl1, v_rl2, v_rl3, v_rl4, v_rl5, v_cmp, v_cp, v_cp2, v_zC, v_zc, v_con, v_kc, v_and, v_an1, v_an0, v_or, v_or1, v_or0, v_not, v_nt, v_boo, v_bo, v_cnd, v_cd1, v_cd0, v_cnc, v_cc1, v_cc0, v_ev0, v_ev, v_e1, v_e2, v_cve, v_cv, v_cse, v_cs, v_skip, v_seq, v_sq0, v_sq1, v_sqr, v_sts, v_st, v_inc, v_put, v_pt, v_pt2, v_fop, v_fo, v_fo2, v_ast, v_as, v_as2, v_as3, v_aop, v_ao, v_ao2, v_ao3, v_exs, v_ex, v_ifs, v_if1, v_if0, v_ret, v_rt, v_rez, v_rz, v_rev, v_brk, v_sws, v_sw, v_sw2, v_run, v_rb, v_turn, v_tu1, v_tu0, v_tu2, v_tu3, fst1, snd1, Option.map_some, Option.getD_some, enA, en, stE, okb, narV, rf_toNat, rf_nn, List.getElem?_cons_zero, List.getElem?_cons_succ, w32_id, w64_id, ite_t, ite_f, Int.toNat_add, Int.toNat_mul, dec_t, dec_f, f0, sC_106, sC_107, p0, a0, a5]
      · rw [if_neg (fun z => c4 z.2)]
        simp -implicitDefEqProofs (disch := omega) [v_cop, v_c1, v_c2, v_c3, v_c4, v_c5, v_bin, v_bn, v_bn2, v_div, v_dv, v_dv2, v_une, v_un, v_loc, v_num, v_get, v_gt, v_ald, v_al, v_al2, v_len, v_ln, v_rl0, v_rl1, v_rl2, v_rl3, v_rl4, v_rl5, v_cmp, v_cp, v_cp2, v_zC, v_zc, v_con, v_kc, v_and, v_an1, v_an0, v_or, v_or1, v_or0, v_not, v_nt, v_boo, v_bo, v_cnd, v_cd1, v_cd0, v_cnc, v_cc1, v_cc0, v_ev0, v_ev, v_e1, v_e2, v_cve, v_cv, v_cse, v_cs, v_skip, v_seq, v_sq0, v_sq1, v_sqr, v_sts, v_st, v_inc, v_put, v_pt, v_pt2, v_fop, v_fo, v_fo2, v_ast, v_as, v_as2, v_as3, v_aop, v_ao, v_ao2, v_ao3, v_exs, v_ex, v_ifs, v_if1, v_if0, v_ret, v_rt, v_rez, v_rz, v_rev, v_brk, v_sws, v_sw, v_sw2, v_run, v_rb, v_turn, v_tu1, v_tu0, v_tu2, v_tu3, fst1, snd1, Option.map_some, Option.getD_some, enA, en, stE, okb, narV, rf_toNat, rf_nn, List.getElem?_cons_zero, List.getElem?_cons_succ, w32_id, w64_id, ite_t, ite_f, Int.toNat_add, Int.toNat_mul, dec_t, dec_f, f0, sC_106, sC_107, p0, a0, a5, c4]
    · rw [if_neg (fun z => c3 z.1)]
      simp -implicitDefEqProofs (disch := omega) [v_cop, v_c1, v_c2, v_c3, v_c4, v_c5, v_bin, v_bn, v_bn2, v_div, v_dv, v_dv2, v_une, v_un, v_loc, v_num, v_get, v_gt, v_ald, v_al, v_al2, v_len, v_ln, v_rl0, v_rl1, v_rl2, v_rl3, v_rl4, v_rl5, v_cmp, v_cp, v_cp2, v_zC, v_zc, v_con, v_kc, v_and, v_an1, v_an0, v_or, v_or1, v_or0, v_not, v_nt, v_boo, v_bo, v_cnd, v_cd1, v_cd0, v_cnc, v_cc1, v_cc0, v_ev0, v_ev, v_e1, v_e2, v_cve, v_cv, v_cse, v_cs, v_skip, v_seq, v_sq0, v_sq1, v_sqr, v_sts, v_st, v_inc, v_put, v_pt, v_pt2, v_fop, v_fo, v_fo2, v_ast, v_as, v_as2, v_as3, v_aop, v_ao, v_ao2, v_ao3, v_exs, v_ex, v_ifs, v_if1, v_if0, v_ret, v_rt, v_rez, v_rz, v_rev, v_brk, v_sws, v_sw, v_sw2, v_run, v_rb, v_turn, v_tu1, v_tu0, v_tu2, v_tu3, fst1, snd1, Option.map_some, Option.getD_some, enA, en, stE, okb, narV, rf_toNat, rf_nn, List.getElem?_cons_zero, List.getElem?_cons_succ, w32_id, w64_id, ite_t, ite_f, Int.toNat_add, Int.toNat_mul, dec_t, dec_f, f0, a0]
  have lo' := lo _ rfl
  have hi' := hi (if 0 < p ∧ whoS nw n ((p : Int) - 1) = -1 then 1 else 0) (by split <;> omega)
  clear lo hi
  generalize (if 0 < p ∧ whoS nw n ((p : Int) - 1) = -1 then (1 : Int) else 0) = X at *
  generalize (if p + 1 < P ∧ whoS nw n ((p : Int) + 1) = -1 then (1 : Int) else 0) = Y at *
  have key : bX0_freeNextTo shC [(2, rf 106), (2, rf h), (0, (p : Int)), (3, 0)] μ = some (1, X + Y, [(2, rf 106), (2, rf h), (0, (p : Int)), (0, X)], μ) := by
    unfold bX0_freeNextTo
    rw [v_seq, lo', v_sq0, hi']
  simp -implicitDefEqProofs (disch := omega) [fX0_freeNextTo, v_cop, v_c1, v_c2, v_c3, v_c4, v_c5, v_bin, v_bn, v_bn2, v_div, v_dv, v_dv2, v_une, v_un, v_loc, v_num, v_get, v_gt, v_ald, v_al, v_al2, v_len, v_ln, v_rl0, v_rl1, v_rl2, v_rl3, v_rl4, v_rl5, v_cmp, v_cp, v_cp2, v_zC, v_zc, v_con, v_kc, v_and, v_an1, v_an0, v_or, v_or1, v_or0, v_not, v_nt, v_boo, v_bo, v_cnd, v_cd1, v_cd0, v_cnc, v_cc1, v_cc0, v_ev0, v_ev, v_e1, v_e2, v_cve, v_cv, v_cse, v_cs, v_skip, v_seq, v_sq0, v_sq1, v_sqr, v_sts, v_st, v_inc, v_put, v_pt, v_pt2, v_fop, v_fo, v_fo2, v_ast, v_as, v_as2, v_as3, v_aop, v_ao, v_ao2, v_ao3, v_exs, v_ex, v_ifs, v_if1, v_if0, v_ret, v_rt, v_rez, v_rz, v_rev, v_brk, v_sws, v_sw, v_sw2, v_run, v_rb, v_turn, v_tu1, v_tu0, v_tu2, v_tu3, fst1, snd1, Option.map_some, Option.getD_some, enA, en, stE, okb, narV, rf_toNat, rf_nn, List.getElem?_cons_zero, List.getElem?_cons_succ, w32_id, w64_id, ite_t, ite_f, Int.toNat_add, Int.toNat_mul, dec_t, dec_f, key]
set_option maxRecDepth 100000 in theorem c_likes2 {μ : Mem} {h k n P M : Nat} {fl st : Nat → Int} (Q : DQ μ h k n P M fl st) {a b : Nat} (ha : a < n) (hb : b < n) : fX6_likes shC [(2, rf k), (2, rf h), (0, (a : Int)), (0, (b : Int))] μ = some (likS fl st a b, μ) := by
  obtain ⟨h1, h2, f, o, B, r, -, -, l, -⟩ := Q
  have hn := B.n1
  have e0 : μ (h + 3) (a * 12 + b) = fl (27 + 12 * a + b) := by
    rw [r.li _ (by omega)]
    congr 1
    omega
  have e1 := B.li a b (by omega) (by omega)
  rw [f_likes o f (by omega) (by omega) (by rw [e0]; omega)]
  unfold likeC likS
  rw [e0, r.ki a ha, r.ki b hb, l a (by omega), l b (by omega), Int.tdiv_eq_ediv_of_nonneg e1.1]
set_option maxRecDepth 100000 in theorem c_likesAt {μ : Mem} {h k n P M : Nat} {fl st nw : Nat → Int} (Q : DQ μ h k n P M fl st) (C : CD μ k n nw) (W : NW nw n P) {b : Nat} (hb : b < n) {q : Int} (hq : -1 ≤ q ∧ q ≤ P) : fX0_likesAt shC [(2, rf 106), (2, rf h), (2, rf k), (0, (b : Int)), (0, q)] μ = some (laS fl st nw n b q, μ) := by
  have e9 : ∀ m : Nat, m < n → _ := fun m hm => c_likes2 Q hb hm
  obtain ⟨h1, h2, ⟨f0, -⟩, ⟨k0, -⟩, B, FR, ⟨p0, p1, p2⟩, -⟩ := Q
  have P2 := B.P2
  have a0 := FR.pl
  rw [B.P0] at a0
  unfold laS
  by_cases c1 : q < 0
  · rw [if_pos (who_neg c1)]
    simp -implicitDefEqProofs (disch := omega) [fX0_likesAt, bX0_likesAt, v_cop, v_c1, v_c2, v_c3, v_c4, v_c5, v_bin, v_bn, v_bn2, v_div, v_dv, v_dv2, v_une, v_un, v_loc, v_num, v_get, v_gt, v_ald, v_al, v_al2, v_len, v_ln, v_rl0, v_rl1, v_rl2, v_rl3, v_rl4, v_rl5, v_cmp, v_cp, v_cp2, v_zC, v_zc, v_con, v_kc, v_and, v_an1, v_an0, v_or, v_or1, v_or0, v_not, v_nt, v_boo, v_bo, v_cnd, v_cd1, v_cd0, v_cnc, v_cc1, v_cc0, v_ev0, v_ev, v_e1, v_e2, v_cve, v_cv, v_cse, v_cs, v_skip, v_seq, v_sq0, v_sq1, v_sqr, v_sts, v_st, v_inc, v_put, v_pt, v_pt2, v_fop, v_fo, v_fo2, v_ast, v_as, v_as2, v_as3, v_aop, v_ao, v_ao2, v_ao3, v_exs, v_ex, v_ifs, v_if1, v_if0, v_ret, v_rt, v_rez, v_rz, v_rev, v_brk, v_sws, v_sw, v_sw2, v_run, v_rb, v_turn, v_tu1, v_tu0, v_tu2, v_tu3, fst1, snd1, Option.map_some, Option.getD_some, enA, en, stE, okb, narV, rf_toNat, rf_nn, List.getElem?_cons_zero, List.getElem?_cons_succ, w32_id, w64_id, ite_t, ite_f, Int.toNat_add, Int.toNat_mul, dec_t, dec_f, c1]
  · obtain ⟨p, rfl⟩ := Int.eq_ofNat_of_zero_le (show 0 ≤ q by omega)
    try simp only [Int.ofNat_eq_natCast] at *
    by_cases c2 : (P : Int) ≤ (p : Int)
    · have w : whoS nw n (p : Int) = -1 := by
        rcases who_cases nw n (p : Int) with h | ⟨m, z1, z2, z3⟩
        · exact h
        · have := (W.rg m).2
          omega
      rw [if_pos w]
      simp -implicitDefEqProofs (disch := omega) [fX0_likesAt, bX0_likesAt, v_cop, v_c1, v_c2, v_c3, v_c4, v_c5, v_bin, v_bn, v_bn2, v_div, v_dv, v_dv2, v_une, v_un, v_loc, v_num, v_get, v_gt, v_ald, v_al, v_al2, v_len, v_ln, v_rl0, v_rl1, v_rl2, v_rl3, v_rl4, v_rl5, v_cmp, v_cp, v_cp2, v_zC, v_zc, v_con, v_kc, v_and, v_an1, v_an0, v_or, v_or1, v_or0, v_not, v_nt, v_boo, v_bo, v_cnd, v_cd1, v_cd0, v_cnc, v_cc1, v_cc0, v_ev0, v_ev, v_e1, v_e2, v_cve, v_cv, v_cse, v_cs, v_skip, v_seq, v_sq0, v_sq1, v_sqr, v_sts, v_st, v_inc, v_put, v_pt, v_pt2, v_fop, v_fo, v_fo2, v_ast, v_as, v_as2, v_as3, v_aop, v_ao, v_ao2, v_ao3, v_exs, v_ex, v_ifs, v_if1, v_if0, v_ret, v_rt, v_rez, v_rz, v_rev, v_brk, v_sws, v_sw, v_sw2, v_run, v_rb, v_turn, v_tu1, v_tu0, v_tu2, v_tu3, fst1, snd1, Option.map_some, Option.getD_some, enA, en, stE, okb, narV, rf_toNat, rf_nn, List.getElem?_cons_zero, List.getElem?_cons_succ, w32_id, w64_id, ite_t, ite_f, Int.toNat_add, Int.toNat_mul, dec_t, dec_f, f0, a0, c1, c2]
    · have a2 := C.2 p (by omega)
      have i1 : p < 16 := by omega
      rcases who_cases nw n (p : Int) with w | ⟨m, z1, z2, z3⟩
      · rw [if_pos w]
        rw [w] at a2
        simp -implicitDefEqProofs (disch := omega) [fX0_likesAt, bX0_likesAt, v_cop, v_c1, v_c2, v_c3, v_c4, v_c5, v_bin, v_bn, v_bn2, v_div, v_dv, v_dv2, v_une, v_un, v_loc, v_num, v_get, v_gt, v_ald, v_al, v_al2, v_len, v_ln, v_rl0, v_rl1, v_rl2, v_rl3, v_rl4, v_rl5, v_cmp, v_cp, v_cp2, v_zC, v_zc, v_con, v_kc, v_and, v_an1, v_an0, v_or, v_or1, v_or0, v_not, v_nt, v_boo, v_bo, v_cnd, v_cd1, v_cd0, v_cnc, v_cc1, v_cc0, v_ev0, v_ev, v_e1, v_e2, v_cve, v_cv, v_cse, v_cs, v_skip, v_seq, v_sq0, v_sq1, v_sqr, v_sts, v_st, v_inc, v_put, v_pt, v_pt2, v_fop, v_fo, v_fo2, v_ast, v_as, v_as2, v_as3, v_aop, v_ao, v_ao2, v_ao3, v_exs, v_ex, v_ifs, v_if1, v_if0, v_ret, v_rt, v_rez, v_rz, v_rev, v_brk, v_sws, v_sw, v_sw2, v_run, v_rb, v_turn, v_tu1, v_tu0, v_tu2, v_tu3, fst1, snd1, Option.map_some, Option.getD_some, enA, en, stE, okb, narV, rf_toNat, rf_nn, List.getElem?_cons_zero, List.getElem?_cons_succ, w32_id, w64_id, ite_t, ite_f, Int.toNat_add, Int.toNat_mul, dec_t, dec_f, f0, sC_106, sC_107, p0, a0, a2, c1, c2, i1]
      · rw [z2] at a2 ⊢
        have z4 : ¬ (m : Int) = -1 := by omega
        rw [if_neg z4, Int.toNat_natCast]
        have e := e9 m z1
        simp -implicitDefEqProofs (disch := omega) [fX0_likesAt, bX0_likesAt, v_cop, v_c1, v_c2, v_c3, v_c4, v_c5, v_bin, v_bn, v_bn2, v_div, v_dv, v_dv2, v_une, v_un, v_loc, v_num, v_get, v_gt, v_ald, v_al, v_al2, v_len, v_ln, v_rl0, v_rl1, v_rl2, v_rl3, v_rl4, v_rl5, v_cmp, v_cp, v_cp2, v_zC, v_zc, v_con, v_kc, v_and, v_an1, v_an0, v_or, v_or1, v_or0, v_not, v_nt, v_boo, v_bo, v_cnd, v_cd1, v_cd0, v_cnc, v_cc1, v_cc0, v_ev0, v_ev, v_e1, v_e2, v_cve, v_cv, v_cse, v_cs, v_skip, v_seq, v_sq0, v_sq1, v_sqr, v_sts, v_st, v_inc, v_put, v_pt, v_pt2, v_fop, v_fo, v_fo2, v_ast, v_as, v_as2, v_as3, v_aop, v_ao, v_ao2, v_ao3, v_exs, v_ex, v_ifs, v_if1, v_if0, v_ret, v_rt, v_rez, v_rz, v_rev, v_brk, v_sws, v_sw, v_sw2, v_run, v_rb, v_turn, v_tu1, v_tu0, v_tu2, v_tu3, fst1, snd1, Option.map_some, Option.getD_some, enA, en, stE, okb, narV, rf_toNat, rf_nn, List.getElem?_cons_zero, List.getElem?_cons_succ, w32_id, w64_id, ite_t, ite_f, Int.toNat_add, Int.toNat_mul, dec_t, dec_f, f0, k0, sC_106, sC_107, p0, a0, a2, c1, c2, i1, z4, e]
