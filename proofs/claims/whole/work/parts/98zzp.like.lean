/-! a liking's line -/
set_option maxRecDepth 100000 in theorem b_told {mC mM μC μM : Mem} {c : Nat → Int} {N T d a K n M : Nat} (h : PF mC mM μC μM c N T d a K) (R : NR μC μM c N T n M) (hn : μC d 1 = (n : Int)) (h12 : n ≤ 12) (h6 : M ≤ 6) : (∃ k r : Int, 1 ≤ k ∧ fX8_readTold shC [(2, rf 27)] μC = some (-1, ud μC 27 5 (ftA c N a k)) ∧ fX12_beastHere shM [(2, rf 0)] μM = some (r, ud μM 0 8 (ftA c N a k))) ∨ (a < T ∧ ∃ b : Nat, b < n ∧ fX8_readTold shC [(2, rf 27)] μC = some ((b : Int), μC) ∧ fX12_beastHere shM [(2, rf 0)] μM = some ((b : Int), μM)) := by
  have e1 := r_isName h.mq h.f0
  by_cases t : 18 ≤ tkA c N a ∧ tkA c N a ≤ 24
  · rw [if_pos ⟨rfl, t⟩] at e1
    obtain ⟨w1, w2, w3⟩ := h.mq.word (by omega) t.2
    obtain ⟨r, e2, hr⟩ := r_find (Q := n + M) h.mq (by omega) t.2 R.1 (by omega)
    have kn := nr_known R h12 (fun t ht => h.mq.plt ht) w1 w2
    have ct := c_told h.rq hn h12 t.1 t.2
    have e3 := r_wrong h.mq h.f0 (k := 2) (by decide) (by decide)
    have nb : ∀ k, k < n + M → μM 9 k = rvA c N a → (∃ b : Nat, b < n ∧ μM 10 k = (b : Int) ∧ μC 28 b = nmA c N a) ∨ (∃ m : Nat, m < M ∧ μM 10 k = 12 + (m : Int) ∧ μC 29 m = nmA c N a) := fun k hk hv => by
      obtain ⟨t', i1, i2, i3, i4⟩ := R.2.1 k hk
      rw [hv] at i3
      have e := (name_both (h.mq.plt i1) (h.mq.plt w1) i2 w2).mp i3.symm
      have e' : nmA c N t' = nmA c N a := e
      rcases i4 with ⟨b, j1, j2, j3⟩ | ⟨b, j1, j2, j3⟩
      · exact .inl ⟨b, j1, j2, j3.trans e'⟩
      · exact .inr ⟨b, j1, j2, j3.trans e'⟩
    rcases hr with ⟨g1, g2⟩ | ⟨k, g1, g2, g3⟩
    · have nk : ¬ knN μC n M (nmA c N a) := fun z => by
        obtain ⟨k, i1, i2⟩ := kn.mpr z
        exact g2 k i1 i2
      rcases ct with ⟨c1, c2⟩ | ⟨b, b1, b2, b3⟩
      · refine .inl ⟨2, -1, by decide, c1, ?_⟩
        subst g1
        generalize ud μM 0 8 (ftA c N a 2) = k2 at *
        simp -implicitDefEqProofs (disch := omega) [fX12_beastHere, bX12_beastHere, v_cop, v_c1, v_c2, v_c3, v_c4, v_c5, v_bin, v_bn, v_bn2, v_div, v_dv, v_dv2, v_une, v_un, v_loc, v_num, v_get, v_gt, v_ald, v_al, v_al2, v_len, v_ln, v_rl0, v_rl1, v_rl2, v_rl3, v_rl4, v_rl5, v_cmp, v_cp, v_cp2, v_zC, v_zc, v_con, v_kc, v_and, v_an1, v_an0, v_or, v_or1, v_or0, v_not, v_nt, v_boo, v_bo, v_cnd, v_cd1, v_cd0, v_cnc, v_cc1, v_cc0, v_ev0, v_ev, v_e1, v_e2, v_cve, v_cv, v_cse, v_cs, v_skip, v_seq, v_sq0, v_sq1, v_sqr, v_sts, v_st, v_inc, v_put, v_pt, v_pt2, v_fop, v_fo, v_fo2, v_ast, v_as, v_as2, v_as3, v_aop, v_ao, v_ao2, v_ao3, v_exs, v_ex, v_ifs, v_if1, v_if0, v_ret, v_rt, v_rez, v_rz, v_rev, v_brk, v_sws, v_sw, v_sw2, v_run, v_rb, v_turn, v_tu1, v_tu0, v_tu2, v_tu3, fst1, snd1, Option.map_some, Option.getD_some, enA, en, stE, okb, narV, rf_toNat, rf_nn, List.getElem?_cons_zero, List.getElem?_cons_succ, w32_id, w64_id, ite_t, ite_f, Int.toNat_add, Int.toNat_mul, dec_t, dec_f, sM_0, e1, e2, e3]
      · exact absurd (.inl ⟨b, b1, b3⟩) nk
    · rcases nb k g1 g2 with ⟨b, j1, j2, j3⟩ | ⟨m, j1, j2, j3⟩
      · rcases ct with ⟨c1, c2⟩ | ⟨b', b1, b2, b3⟩
        · exact absurd j3 (c2 b j1)
        · have eb : b' = b := R.2.2.2.2.1 b' b b1 j1 (b3.trans j3.symm)
          subst eb
          refine .inr ⟨w1, b', j1, b2, ?_⟩
          rw [j2] at g3
          subst g3
          simp -implicitDefEqProofs (disch := omega) [fX12_beastHere, bX12_beastHere, v_cop, v_c1, v_c2, v_c3, v_c4, v_c5, v_bin, v_bn, v_bn2, v_div, v_dv, v_dv2, v_une, v_un, v_loc, v_num, v_get, v_gt, v_ald, v_al, v_al2, v_len, v_ln, v_rl0, v_rl1, v_rl2, v_rl3, v_rl4, v_rl5, v_cmp, v_cp, v_cp2, v_zC, v_zc, v_con, v_kc, v_and, v_an1, v_an0, v_or, v_or1, v_or0, v_not, v_nt, v_boo, v_bo, v_cnd, v_cd1, v_cd0, v_cnc, v_cc1, v_cc0, v_ev0, v_ev, v_e1, v_e2, v_cve, v_cv, v_cse, v_cs, v_skip, v_seq, v_sq0, v_sq1, v_sqr, v_sts, v_st, v_inc, v_put, v_pt, v_pt2, v_fop, v_fo, v_fo2, v_ast, v_as, v_as2, v_as3, v_aop, v_ao, v_ao2, v_ao3, v_exs, v_ex, v_ifs, v_if1, v_if0, v_ret, v_rt, v_rez, v_rz, v_rev, v_brk, v_sws, v_sw, v_sw2, v_run, v_rb, v_turn, v_tu1, v_tu0, v_tu2, v_tu3, fst1, snd1, Option.map_some, Option.getD_some, enA, en, stE, okb, narV, rf_toNat, rf_nn, List.getElem?_cons_zero, List.getElem?_cons_succ, w32_id, w64_id, ite_t, ite_f, Int.toNat_add, Int.toNat_mul, dec_t, dec_f, sM_0, e1, e2]
      · rcases ct with ⟨c1, c2⟩ | ⟨b', b1, b2, b3⟩
        · refine .inl ⟨2, 12 + (m : Int), by decide, c1, ?_⟩
          rw [j2] at g3
          subst g3
          generalize ud μM 0 8 (ftA c N a 2) = k2 at *
          simp -implicitDefEqProofs (disch := omega) [fX12_beastHere, bX12_beastHere, v_cop, v_c1, v_c2, v_c3, v_c4, v_c5, v_bin, v_bn, v_bn2, v_div, v_dv, v_dv2, v_une, v_un, v_loc, v_num, v_get, v_gt, v_ald, v_al, v_al2, v_len, v_ln, v_rl0, v_rl1, v_rl2, v_rl3, v_rl4, v_rl5, v_cmp, v_cp, v_cp2, v_zC, v_zc, v_con, v_kc, v_and, v_an1, v_an0, v_or, v_or1, v_or0, v_not, v_nt, v_boo, v_bo, v_cnd, v_cd1, v_cd0, v_cnc, v_cc1, v_cc0, v_ev0, v_ev, v_e1, v_e2, v_cve, v_cv, v_cse, v_cs, v_skip, v_seq, v_sq0, v_sq1, v_sqr, v_sts, v_st, v_inc, v_put, v_pt, v_pt2, v_fop, v_fo, v_fo2, v_ast, v_as, v_as2, v_as3, v_aop, v_ao, v_ao2, v_ao3, v_exs, v_ex, v_ifs, v_if1, v_if0, v_ret, v_rt, v_rez, v_rz, v_rev, v_brk, v_sws, v_sw, v_sw2, v_run, v_rb, v_turn, v_tu1, v_tu0, v_tu2, v_tu3, fst1, snd1, Option.map_some, Option.getD_some, enA, en, stE, okb, narV, rf_toNat, rf_nn, List.getElem?_cons_zero, List.getElem?_cons_succ, w32_id, w64_id, ite_t, ite_f, Int.toNat_add, Int.toNat_mul, dec_t, dec_f, sM_0, e1, e2, e3]
        · exact absurd (b3.trans j3.symm) (R.2.2.2.2.2 b' m b1 j1)
  · rw [if_neg (fun z => t z.2)] at e1
    have e3 := r_wrong h.mq h.f0 (k := 1) (by decide) (by decide)
    refine .inl ⟨1, -1, by decide, c_told0 h.rq t, ?_⟩
    generalize ud μM 0 8 (ftA c N a 1) = k2 at *
    simp -implicitDefEqProofs (disch := omega) [fX12_beastHere, bX12_beastHere, v_cop, v_c1, v_c2, v_c3, v_c4, v_c5, v_bin, v_bn, v_bn2, v_div, v_dv, v_dv2, v_une, v_un, v_loc, v_num, v_get, v_gt, v_ald, v_al, v_al2, v_len, v_ln, v_rl0, v_rl1, v_rl2, v_rl3, v_rl4, v_rl5, v_cmp, v_cp, v_cp2, v_zC, v_zc, v_con, v_kc, v_and, v_an1, v_an0, v_or, v_or1, v_or0, v_not, v_nt, v_boo, v_bo, v_cnd, v_cd1, v_cd0, v_cnc, v_cc1, v_cc0, v_ev0, v_ev, v_e1, v_e2, v_cve, v_cv, v_cse, v_cs, v_skip, v_seq, v_sq0, v_sq1, v_sqr, v_sts, v_st, v_inc, v_put, v_pt, v_pt2, v_fop, v_fo, v_fo2, v_ast, v_as, v_as2, v_as3, v_aop, v_ao, v_ao2, v_ao3, v_exs, v_ex, v_ifs, v_if1, v_if0, v_ret, v_rt, v_rez, v_rz, v_rev, v_brk, v_sws, v_sw, v_sw2, v_run, v_rb, v_turn, v_tu1, v_tu0, v_tu2, v_tu3, fst1, snd1, Option.map_some, Option.getD_some, enA, en, stE, okb, narV, rf_toNat, rf_nn, List.getElem?_cons_zero, List.getElem?_cons_succ, w32_id, w64_id, ite_t, ite_f, Int.toNat_add, Int.toNat_mul, dec_t, dec_f, sM_0, e1, e3]
set_option maxRecDepth 100000 in theorem prS_add {f g : Nat → Int} {n x y : Nat} (hx : x < n) (hy : y < x) (h0 : f (27 + 12 * x + y) = 0) (h1 : 0 < g (27 + 12 * x + y)) (e : ∀ a b, a < n → b < a → ¬ (a = x ∧ b = y) → g (27 + 12 * a + b) = f (27 + 12 * a + b)) : prS g n = prS f n + 1 := by
  have s : prS g n = sumN (fun a => sumN (fun b => (if 0 < f (27 + 12 * a + b) then 1 else 0) + (if a = x ∧ b = y then 1 else 0)) a) n := by
    unfold prS
    refine sum_congr (fun a ha => sum_congr (fun b hb => ?_))
    by_cases q : a = x ∧ b = y
    · rw [q.1, q.2, h0, if_pos h1, if_neg (by decide), if_pos ⟨rfl, rfl⟩]
      rfl
    · rw [e a b ha hb q, if_neg q, Int.add_zero]
  have s2 : sumN (fun a => sumN (fun b => if a = x ∧ b = y then (1 : Int) else 0) a) n = 1 := by
    have z1 : sumN (fun b => if x = x ∧ b = y then (1 : Int) else 0) x = 1 := by
      have := sum_one (f := fun b => if x = x ∧ b = y then (1 : Int) else 0) (m := y) x hy (fun b _ hne => if_neg (fun z => hne z.2))
      rw [this]
      exact if_pos ⟨rfl, rfl⟩
    have := sum_one (f := fun a => sumN (fun b => if a = x ∧ b = y then (1 : Int) else 0) a) (m := x) n hx (fun a _ hne => sum_zero a (fun b _ => if_neg (fun z => hne z.1)))
    rw [this]
    exact z1
  rw [s]
  have s3 : sumN (fun a => sumN (fun b => (if 0 < f (27 + 12 * a + b) then (1 : Int) else 0) + (if a = x ∧ b = y then 1 else 0)) a) n = sumN (fun a => sumN (fun b => if 0 < f (27 + 12 * a + b) then (1 : Int) else 0) a + sumN (fun b => if a = x ∧ b = y then (1 : Int) else 0) a) n := sum_congr (fun a _ => sum_add _ _ a)
  rw [s3, sum_add, s2]
  rfl
set_option maxRecDepth 100000 in theorem cn_like {μC μM mC mM : Mem} {c : Nat → Int} {N T d n P M K x y : Nat} {v : Int} (C : CN μC μM c N T d n P M K) (hd : d = 3 ∨ d = 15) (hx : x < n) (hy : y < n) (hxy : x ≠ y) (h0 : fld μM (27 + 12 * x + y) = 0) (v0 : 1 ≤ v ∧ v ≤ 99) (eC : ∀ a b, ¬ ((a = 1 ∧ 2 ≤ b) ∨ (a = d ∧ b = 2) ∨ (a = d + 3 ∧ (b = 12 * x + y ∨ b = 12 * y + x))) → mC a b = μC a b) (c1 : mC d 2 = μC d 2 + 1) (c2 : mC (d + 3) (12 * x + y) = v) (c3 : mC (d + 3) (12 * y + x) = v) (eM : ∀ a b, ¬ ((a = 0 ∧ b = 7) ∨ (a = 6 ∧ (b = 217 + 12 * x + y ∨ b = 217 + 12 * y + x))) → mM a b = μM a b) (m1 : mM 6 (217 + 12 * x + y) = v) (m2 : mM 6 (217 + 12 * y + x) = v) : CN mC mM c N T d n P M K := by
  have B := C.fb
  have R := C.fr
  have n1 := B.n1
  have fl : ∀ i, i ≠ 27 + 12 * x + y → i ≠ 27 + 12 * y + x → fld mM i = fld μM i := fun i h1 h2 => eM _ _ (by omega)
  have q7 : opD mM = opD μM := funext (fun i => eM _ _ (by omega))
  have q8 : agD mM = agD μM := funext (fun i => eM _ _ (by omega))
  have f1 : fld mM (27 + 12 * x + y) = v := by show mM 6 (190 + (27 + 12 * x + y)) = v; rw [show 190 + (27 + 12 * x + y) = 217 + 12 * x + y by omega]; exact m1
  have f2 : fld mM (27 + 12 * y + x) = v := by show mM 6 (190 + (27 + 12 * y + x)) = v; rw [show 190 + (27 + 12 * y + x) = 217 + 12 * y + x by omega]; exact m2
  have h0' : fld μM (27 + 12 * y + x) = 0 := by rw [B.sy y x (by omega) (by omega)]; exact h0
  refine ⟨⟨by rw [eM _ _ (by omega), eC _ _ (by omega)]; exact C.1.1, by rw [eC _ _ (by omega)]; exact C.1.2⟩, ?_, ?_, fun a b ha hb hz => by rw [fl _ (by omega) (by omega)]; exact C.lz a b ha hb hz, C.nr.of (fun a b h => eC _ _ (by omega)) (fun a b h => eM _ _ (by omega)), ?_, ?_⟩
  · refine ⟨by rw [fl _ (by omega) (by omega)]; exact B.P0, B.P1, B.P2, by rw [fl _ (by omega) (by omega)]; exact B.n0, B.n1, B.n2, by rw [fl _ (by omega) (by omega)]; exact B.M0, B.M1, fun b hb => by rw [fl _ (by omega) (by omega)]; exact B.ki b hb, fun b hb => by rw [fl _ (by omega) (by omega)]; exact B.to b hb, fun a b ha hb => ?_, fun a b ha hb => ?_, fun m hm => by have := B.M1; rw [fl _ (by omega) (by omega)]; exact B.gr m hm, fun m hm => by have := B.M1; rw [fl _ (by omega) (by omega)]; exact B.fa m hm⟩
    · by_cases e1 : 27 + 12 * a + b = 27 + 12 * x + y
      · rw [e1, f1]; omega
      · by_cases e2 : 27 + 12 * a + b = 27 + 12 * y + x
        · rw [e2, f2]; omega
        · rw [fl _ e1 e2]; exact B.li a b ha hb
    · by_cases e1 : a = x ∧ b = y
      · rw [e1.1, e1.2, f1, f2]
      · by_cases e2 : a = y ∧ b = x
        · rw [e2.1, e2.2, f1, f2]
        · rw [fl _ (by omega) (by omega), fl _ (by omega) (by omega)]; exact B.sy a b ha hb
  · refine ⟨by rw [eC _ _ (by omega), fl _ (by omega) (by omega)]; exact R.pl, by rw [eC _ _ (by omega), fl _ (by omega) (by omega)]; exact R.be, ?_, by rw [eC _ _ (by omega), fl _ (by omega) (by omega)]; exact R.me, fun b hb => by rw [eC _ _ (by omega), fl _ (by omega) (by omega)]; exact R.ki b hb, fun b hb => by rw [eC _ _ (by omega), fl _ (by omega) (by omega)]; exact R.to b hb, fun i hi => ?_, fun m hm => by have := B.M1; rw [eC _ _ (by omega), fl _ (by omega) (by omega)]; exact R.gr m hm, fun m hm => by have := B.M1; rw [eC _ _ (by omega), fl _ (by omega) (by omega)]; exact R.fa m hm⟩
    · rw [c1, R.pa]
      rcases Nat.lt_or_gt_of_ne hxy with l | l
      · exact (prS_add hy l h0' (by rw [f2]; omega) (fun a b ha hb hne => fl _ (by omega) (by omega))).symm
      · exact (prS_add hx l h0 (by rw [f1]; omega) (fun a b ha hb hne => fl _ (by omega) (by omega))).symm
    · by_cases e1 : i = 12 * x + y
      · rw [e1, c2, show 27 + (12 * x + y) = 27 + 12 * x + y by omega, f1]
      · by_cases e2 : i = 12 * y + x
        · rw [e2, c3, show 27 + (12 * y + x) = 27 + 12 * y + x by omega, f2]
        · rw [eC _ _ (by omega), fl _ (by omega) (by omega)]; exact R.li i hi
  · rw [q7, q8, fl _ (by omega) (by omega)]
    exact C.ll.cls (fun a b h => eC _ _ (by omega))
  · rw [q7, q8, fl _ (by omega) (by omega)]
    exact C.ls.cls (fun a b h => eC _ _ (by omega))
set_option maxRecDepth 100000 in theorem prS_b {f : Nat → Int} {n : Nat} (hn : n ≤ 12) : 0 ≤ prS f n ∧ prS f n ≤ 144 := by
  unfold prS
  have h := sum_le (f := fun a => sumN (fun b => if 0 < f (27 + 12 * a + b) then (1 : Int) else 0) a) (n := n) (c := 12) (fun a ha => by
    have h2 := sum_le (f := fun b => if 0 < f (27 + 12 * a + b) then (1 : Int) else 0) (n := a) (c := 1) (fun b _ => by split <;> decide)
    constructor
    · exact h2.1
    · have := h2.2
      omega)
  constructor
  · exact h.1
  · have := h.2
    omega
set_option maxRecDepth 100000 in theorem b_like {mC mM μC μM : Mem} {c : Nat → Int} {N T d a K n P M : Nat} (h : PF mC mM μC μM c N T d a K) (C : CN μC μM c N T d n P M K) (t : tkA c N a = 3) : BO a mC mM (fX8_readLike shC [(2, rf 27)] μC) (fX12_readLike shM [(2, rf 0)] μM) c N T d := by
  have hd := h.rq.1
  have aT := h.lt (by omega)
  have lT := h.la
  have r0 := h.rq.2.2.2.1
  have n1 := C.fb.n1
  have M1 := C.fb.M1
  have cb : μC d 1 = (n : Int) := C.fr.be.trans C.fb.n0
  have a7 := h.a7
  obtain ⟨m1, e1, h1, D1⟩ := h.adv aT
  have b1 : m1 d 1 = (n : Int) := by rw [D1 _ _ (by omega)]; exact cb
  have NR1 : NR m1 (ud μM 0 7 ((a : Int) + 1)) c N T n M := C.nr.of (fun x y hx => D1 _ _ (by omega)) (fun x y hx => by rw [ud_n (by omega)])
  have r0' := h1.rq.2.2.2.1
  have EM1 : ∀ x y, ¬ (x = 0 ∧ y = 7) → ud μM 0 7 ((a : Int) + 1) x y = μM x y := fun x y hx => ud_n hx
  generalize hk1 : ud μM 0 7 ((a : Int) + 1) = k1 at *
  rcases b_told h1 NR1 b1 n1 M1 with ⟨k, r, kp, e2, e3⟩ | ⟨bT, x, hx, e2, e3⟩
  · have fo := h1.fo kp
    have fp := ft_pos (c := c) (N := N) (a := a + 1) kp
    have q8 : ud k1 0 8 (ftA c N (a + 1) k) 0 8 = ftA c N (a + 1) k := ud_s
    have q7 : ud k1 0 8 (ftA c N (a + 1) k) 0 7 = ((a + 1 : Nat) : Int) := by rw [ud_n (by omega)]; exact h1.a7
    have q7' := ud_same q7
    have la1 := h1.la
    refine .inr ⟨_, _, ?_, ?_, fo⟩
    · clear fo fp q8 q7 q7' e3 EM1
      generalize ud m1 27 5 (ftA c N (a + 1) k) = m2 at *
      simp -implicitDefEqProofs (disch := omega) [fX8_readLike, bX8_readLike, v_cop, v_c1, v_c2, v_c3, v_c4, v_c5, v_bin, v_bn, v_bn2, v_div, v_dv, v_dv2, v_une, v_un, v_loc, v_num, v_get, v_gt, v_ald, v_al, v_al2, v_len, v_ln, v_rl0, v_rl1, v_rl2, v_rl3, v_rl4, v_rl5, v_cmp, v_cp, v_cp2, v_zC, v_zc, v_con, v_kc, v_and, v_an1, v_an0, v_or, v_or1, v_or0, v_not, v_nt, v_boo, v_bo, v_cnd, v_cd1, v_cd0, v_cnc, v_cc1, v_cc0, v_ev0, v_ev, v_e1, v_e2, v_cve, v_cv, v_cse, v_cs, v_skip, v_seq, v_sq0, v_sq1, v_sqr, v_sts, v_st, v_inc, v_put, v_pt, v_pt2, v_fop, v_fo, v_fo2, v_ast, v_as, v_as2, v_as3, v_aop, v_ao, v_ao2, v_ao3, v_exs, v_ex, v_ifs, v_if1, v_if0, v_ret, v_rt, v_rez, v_rz, v_rev, v_brk, v_sws, v_sw, v_sw2, v_run, v_rb, v_turn, v_tu1, v_tu0, v_tu2, v_tu3, fst1, snd1, Option.map_some, Option.getD_some, enA, en, stE, okb, narV, rf_toNat, rf_nn, List.getElem?_cons_zero, List.getElem?_cons_succ, w32_id, w64_id, ite_t, ite_f, Int.toNat_add, Int.toNat_mul, dec_t, dec_f, sC_27, sC_1, r0, e1, e2]
    · clear fo e2 EM1
      generalize ud k1 0 8 (ftA c N (a + 1) k) = k2 at *
      generalize ftA c N (a + 1) k = F at *
      generalize a + 1 = b at *
      have fn : ¬ F = 0 := by omega
      simp -implicitDefEqProofs (disch := omega) [fX12_readLike, bX12_readLike, v_cop, v_c1, v_c2, v_c3, v_c4, v_c5, v_bin, v_bn, v_bn2, v_div, v_dv, v_dv2, v_une, v_un, v_loc, v_num, v_get, v_gt, v_ald, v_al, v_al2, v_len, v_ln, v_rl0, v_rl1, v_rl2, v_rl3, v_rl4, v_rl5, v_cmp, v_cp, v_cp2, v_zC, v_zc, v_con, v_kc, v_and, v_an1, v_an0, v_or, v_or1, v_or0, v_not, v_nt, v_boo, v_bo, v_cnd, v_cd1, v_cd0, v_cnc, v_cc1, v_cc0, v_ev0, v_ev, v_e1, v_e2, v_cve, v_cv, v_cse, v_cs, v_skip, v_seq, v_sq0, v_sq1, v_sqr, v_sts, v_st, v_inc, v_put, v_pt, v_pt2, v_fop, v_fo, v_fo2, v_ast, v_as, v_as2, v_as3, v_aop, v_ao, v_ao2, v_ao3, v_exs, v_ex, v_ifs, v_if1, v_if0, v_ret, v_rt, v_rez, v_rz, v_rev, v_brk, v_sws, v_sw, v_sw2, v_run, v_rb, v_turn, v_tu1, v_tu0, v_tu2, v_tu3, fst1, snd1, Option.map_some, Option.getD_some, enA, en, stE, okb, narV, rf_toNat, rf_nn, List.getElem?_cons_zero, List.getElem?_cons_succ, w32_id, w64_id, ite_t, ite_f, Int.toNat_add, Int.toNat_mul, dec_t, dec_f, sM_0, a7, hk1, e3, q8, q7, q7', fn]
  · obtain ⟨m2, e4, h2, D2⟩ := h1.adv bT
    have b2 : m2 d 1 = (n : Int) := by rw [D2 _ _ (by omega)]; exact b1
    have NR2 : NR m2 (ud k1 0 7 (((a + 1 : Nat) : Int) + 1)) c N T n M := NR1.of (fun x y hx => D2 _ _ (by omega)) (fun x y hx => by rw [ud_n (by omega)])
    have f81 := h1.f0
    have a71 := h1.a7
    have EM2 : ∀ x y, ¬ (x = 0 ∧ y = 7) → ud k1 0 7 (((a + 1 : Nat) : Int) + 1) x y = μM x y := fun x y hx => by rw [ud_n hx]; exact EM1 x y hx
    have la1 := h1.la
    generalize hk2 : ud k1 0 7 (((a + 1 : Nat) : Int) + 1) = k2 at *
    rcases b_told h2 NR2 b2 n1 M1 with ⟨k, r, kp, e5, e6⟩ | ⟨bT2, y, hy, e5, e6⟩
    · have fo := h2.fo kp
      have fp := ft_pos (c := c) (N := N) (a := a + 1 + 1) kp
      have q8 : ud k2 0 8 (ftA c N (a + 1 + 1) k) 0 8 = ftA c N (a + 1 + 1) k := ud_s
      have f82 := h2.f0
      refine .inr ⟨_, _, ?_, ?_, fo⟩
      · clear fo fp q8 e6 EM1 EM2 e3
        generalize ud m2 27 5 (ftA c N (a + 1 + 1) k) = m3 at *
        simp -implicitDefEqProofs (disch := omega) [fX8_readLike, bX8_readLike, v_cop, v_c1, v_c2, v_c3, v_c4, v_c5, v_bin, v_bn, v_bn2, v_div, v_dv, v_dv2, v_une, v_un, v_loc, v_num, v_get, v_gt, v_ald, v_al, v_al2, v_len, v_ln, v_rl0, v_rl1, v_rl2, v_rl3, v_rl4, v_rl5, v_cmp, v_cp, v_cp2, v_zC, v_zc, v_con, v_kc, v_and, v_an1, v_an0, v_or, v_or1, v_or0, v_not, v_nt, v_boo, v_bo, v_cnd, v_cd1, v_cd0, v_cnc, v_cc1, v_cc0, v_ev0, v_ev, v_e1, v_e2, v_cve, v_cv, v_cse, v_cs, v_skip, v_seq, v_sq0, v_sq1, v_sqr, v_sts, v_st, v_inc, v_put, v_pt, v_pt2, v_fop, v_fo, v_fo2, v_ast, v_as, v_as2, v_as3, v_aop, v_ao, v_ao2, v_ao3, v_exs, v_ex, v_ifs, v_if1, v_if0, v_ret, v_rt, v_rez, v_rz, v_rev, v_brk, v_sws, v_sw, v_sw2, v_run, v_rb, v_turn, v_tu1, v_tu0, v_tu2, v_tu3, fst1, snd1, Option.map_some, Option.getD_some, enA, en, stE, okb, narV, rf_toNat, rf_nn, List.getElem?_cons_zero, List.getElem?_cons_succ, w32_id, w64_id, ite_t, ite_f, Int.toNat_add, Int.toNat_mul, dec_t, dec_f, sC_27, sC_1, r0, e1, e2, r0', e4, e5]
      · clear fo e5 EM1 EM2 e2
        generalize ud k2 0 8 (ftA c N (a + 1 + 1) k) = k3 at *
        generalize ftA c N (a + 1 + 1) k = F at *
        generalize hb : a + 1 = b at *
        have fn : ¬ F = 0 := by omega
        simp -implicitDefEqProofs (disch := omega) [fX12_readLike, bX12_readLike, v_cop, v_c1, v_c2, v_c3, v_c4, v_c5, v_bin, v_bn, v_bn2, v_div, v_dv, v_dv2, v_une, v_un, v_loc, v_num, v_get, v_gt, v_ald, v_al, v_al2, v_len, v_ln, v_rl0, v_rl1, v_rl2, v_rl3, v_rl4, v_rl5, v_cmp, v_cp, v_cp2, v_zC, v_zc, v_con, v_kc, v_and, v_an1, v_an0, v_or, v_or1, v_or0, v_not, v_nt, v_boo, v_bo, v_cnd, v_cd1, v_cd0, v_cnc, v_cc1, v_cc0, v_ev0, v_ev, v_e1, v_e2, v_cve, v_cv, v_cse, v_cs, v_skip, v_seq, v_sq0, v_sq1, v_sqr, v_sts, v_st, v_inc, v_put, v_pt, v_pt2, v_fop, v_fo, v_fo2, v_ast, v_as, v_as2, v_as3, v_aop, v_ao, v_ao2, v_ao3, v_exs, v_ex, v_ifs, v_if1, v_if0, v_ret, v_rt, v_rez, v_rz, v_rev, v_brk, v_sws, v_sw, v_sw2, v_run, v_rb, v_turn, v_tu1, v_tu0, v_tu2, v_tu3, fst1, snd1, Option.map_some, Option.getD_some, enA, en, stE, okb, narV, rf_toNat, rf_nn, List.getElem?_cons_zero, List.getElem?_cons_succ, w32_id, w64_id, ite_t, ite_f, Int.toNat_add, Int.toNat_mul, dec_t, dec_f, sM_0, a7, hk1, e3, f81, a71, hk2, f82, e6, q8, fn]
    · have r02 := h2.rq.2.2.2.1
      have r32 := h2.rq.2.2.2.2.2.2.1
      have ob2 := h2.rq.2.2.2.2.2.2.2
      have o02 := ob2.1
      have o32 := ob2.2.2.2.1
      have p6 : m2 d 6 = rf (d + 3) := ob2.2.2.2.2.2.2.2.2.2.2.2.2.2.2.1
      have f82 := h2.f0
      have a72 := h2.a7
      have la2 := h2.la
      have pm2 := h2.mq.1
      have li : m2 (d + 3) (12 * x + y) = fld μM (27 + 12 * x + y) := by
        rw [D2 _ _ (by omega), D1 _ _ (by omega), C.fr.li _ (by omega), show 27 + (12 * x + y) = 27 + 12 * x + y by omega]
      have lr : k2 6 (217 + 12 * x + y) = fld μM (27 + 12 * x + y) := by
        rw [EM2 _ _ (by omega), show 217 + 12 * x + y = 190 + (27 + 12 * x + y) by omega]
        rfl
      have lb := C.fb.li x y (by omega) (by omega)
      have j1 : (x : Int) * 12 + (y : Int) = ((12 * x + y : Nat) : Int) := by omega
      have j2 : 217 + 12 * (x : Int) + (y : Int) = ((217 + 12 * x + y : Nat) : Int) := by omega
      have j3 : (y : Int) * 12 + (x : Int) = ((12 * y + x : Nat) : Int) := by omega
      have j4 : 217 + 12 * (y : Int) + (x : Int) = ((217 + 12 * y + x : Nat) : Int) := by omega
      by_cases tw : x = y ∨ fld μM (27 + 12 * x + y) ≠ 0
      · have ew := c_wrong h2.rq (k := 3) (by decide) (by decide)
        have er := r_wrong h2.mq h2.f0 (k := 3) (by decide) (by decide)
        have fo := h2.fo (k := 3) (by decide)
        have fp := ft_pos (c := c) (N := N) (a := a + 1 + 1) (k := 3) (by decide)
        have q8 : ud k2 0 8 (ftA c N (a + 1 + 1) 3) 0 8 = ftA c N (a + 1 + 1) 3 := ud_s
        refine .inr ⟨_, _, ?_, ?_, fo⟩
        · clear fo fp q8 er EM1 EM2 e3 e6 lr
          generalize ud m2 27 5 (ftA c N (a + 1 + 1) 3) = m3 at *
          generalize fld μM (27 + 12 * x + y) = V at *
          have lx : 12 * x + y < 144 := by omega
          by_cases exy : x = y
          · subst exy
            simp -implicitDefEqProofs (disch := omega) [fX8_readLike, bX8_readLike, v_cop, v_c1, v_c2, v_c3, v_c4, v_c5, v_bin, v_bn, v_bn2, v_div, v_dv, v_dv2, v_une, v_un, v_loc, v_num, v_get, v_gt, v_ald, v_al, v_al2, v_len, v_ln, v_rl0, v_rl1, v_rl2, v_rl3, v_rl4, v_rl5, v_cmp, v_cp, v_cp2, v_zC, v_zc, v_con, v_kc, v_and, v_an1, v_an0, v_or, v_or1, v_or0, v_not, v_nt, v_boo, v_bo, v_cnd, v_cd1, v_cd0, v_cnc, v_cc1, v_cc0, v_ev0, v_ev, v_e1, v_e2, v_cve, v_cv, v_cse, v_cs, v_skip, v_seq, v_sq0, v_sq1, v_sqr, v_sts, v_st, v_inc, v_put, v_pt, v_pt2, v_fop, v_fo, v_fo2, v_ast, v_as, v_as2, v_as3, v_aop, v_ao, v_ao2, v_ao3, v_exs, v_ex, v_ifs, v_if1, v_if0, v_ret, v_rt, v_rez, v_rz, v_rev, v_brk, v_sws, v_sw, v_sw2, v_run, v_rb, v_turn, v_tu1, v_tu0, v_tu2, v_tu3, fst1, snd1, Option.map_some, Option.getD_some, enA, en, stE, okb, narV, rf_toNat, rf_nn, List.getElem?_cons_zero, List.getElem?_cons_succ, w32_id, w64_id, ite_t, ite_f, Int.toNat_add, Int.toNat_mul, dec_t, dec_f, sC_27, sC_1, r0, e1, e2, r0', e4, e5, ew]
          · have V0 : ¬ V = 0 := by omega
            have exy' : ¬ (x : Int) = (y : Int) := by omega
            generalize 12 * x + y = I at *
            simp -implicitDefEqProofs (disch := omega) [fX8_readLike, bX8_readLike, v_cop, v_c1, v_c2, v_c3, v_c4, v_c5, v_bin, v_bn, v_bn2, v_div, v_dv, v_dv2, v_une, v_un, v_loc, v_num, v_get, v_gt, v_ald, v_al, v_al2, v_len, v_ln, v_rl0, v_rl1, v_rl2, v_rl3, v_rl4, v_rl5, v_cmp, v_cp, v_cp2, v_zC, v_zc, v_con, v_kc, v_and, v_an1, v_an0, v_or, v_or1, v_or0, v_not, v_nt, v_boo, v_bo, v_cnd, v_cd1, v_cd0, v_cnc, v_cc1, v_cc0, v_ev0, v_ev, v_e1, v_e2, v_cve, v_cv, v_cse, v_cs, v_skip, v_seq, v_sq0, v_sq1, v_sqr, v_sts, v_st, v_inc, v_put, v_pt, v_pt2, v_fop, v_fo, v_fo2, v_ast, v_as, v_as2, v_as3, v_aop, v_ao, v_ao2, v_ao3, v_exs, v_ex, v_ifs, v_if1, v_if0, v_ret, v_rt, v_rez, v_rz, v_rev, v_brk, v_sws, v_sw, v_sw2, v_run, v_rb, v_turn, v_tu1, v_tu0, v_tu2, v_tu3, fst1, snd1, Option.map_some, Option.getD_some, enA, en, stE, okb, narV, rf_toNat, rf_nn, List.getElem?_cons_zero, List.getElem?_cons_succ, w32_id, w64_id, ite_t, ite_f, Int.toNat_add, Int.toNat_mul, dec_t, dec_f, sC_27, sC_1, r0, e1, e2, r0', e4, e5, exy, exy', r32, o02, o32, p6, j1, li, V0, ew]
        · clear fo ew EM1 EM2 e2 e5 li
          generalize ud k2 0 8 (ftA c N (a + 1 + 1) 3) = k3 at *
          generalize ftA c N (a + 1 + 1) 3 = F at *
          generalize fld μM (27 + 12 * x + y) = V at *
          have fn : ¬ F = 0 := by omega
          have lx : 217 + 12 * x + y < 380 := by omega
          by_cases exy : x = y
          · subst exy
            generalize a + 1 = b at *
            simp -implicitDefEqProofs (disch := omega) [fX12_readLike, bX12_readLike, v_cop, v_c1, v_c2, v_c3, v_c4, v_c5, v_bin, v_bn, v_bn2, v_div, v_dv, v_dv2, v_une, v_un, v_loc, v_num, v_get, v_gt, v_ald, v_al, v_al2, v_len, v_ln, v_rl0, v_rl1, v_rl2, v_rl3, v_rl4, v_rl5, v_cmp, v_cp, v_cp2, v_zC, v_zc, v_con, v_kc, v_and, v_an1, v_an0, v_or, v_or1, v_or0, v_not, v_nt, v_boo, v_bo, v_cnd, v_cd1, v_cd0, v_cnc, v_cc1, v_cc0, v_ev0, v_ev, v_e1, v_e2, v_cve, v_cv, v_cse, v_cs, v_skip, v_seq, v_sq0, v_sq1, v_sqr, v_sts, v_st, v_inc, v_put, v_pt, v_pt2, v_fop, v_fo, v_fo2, v_ast, v_as, v_as2, v_as3, v_aop, v_ao, v_ao2, v_ao3, v_exs, v_ex, v_ifs, v_if1, v_if0, v_ret, v_rt, v_rez, v_rz, v_rev, v_brk, v_sws, v_sw, v_sw2, v_run, v_rb, v_turn, v_tu1, v_tu0, v_tu2, v_tu3, fst1, snd1, Option.map_some, Option.getD_some, enA, en, stE, okb, narV, rf_toNat, rf_nn, List.getElem?_cons_zero, List.getElem?_cons_succ, w32_id, w64_id, ite_t, ite_f, Int.toNat_add, Int.toNat_mul, dec_t, dec_f, sM_0, sM_6, a7, hk1, e3, f81, a71, hk2, f82, e6, er, q8, fn]
          · have V0 : 0 < V := by omega
            have exy' : ¬ (x : Int) = (y : Int) := by omega
            generalize 217 + 12 * x + y = I at *
            generalize a + 1 = b at *
            simp -implicitDefEqProofs (disch := omega) [fX12_readLike, bX12_readLike, v_cop, v_c1, v_c2, v_c3, v_c4, v_c5, v_bin, v_bn, v_bn2, v_div, v_dv, v_dv2, v_une, v_un, v_loc, v_num, v_get, v_gt, v_ald, v_al, v_al2, v_len, v_ln, v_rl0, v_rl1, v_rl2, v_rl3, v_rl4, v_rl5, v_cmp, v_cp, v_cp2, v_zC, v_zc, v_con, v_kc, v_and, v_an1, v_an0, v_or, v_or1, v_or0, v_not, v_nt, v_boo, v_bo, v_cnd, v_cd1, v_cd0, v_cnc, v_cc1, v_cc0, v_ev0, v_ev, v_e1, v_e2, v_cve, v_cv, v_cse, v_cs, v_skip, v_seq, v_sq0, v_sq1, v_sqr, v_sts, v_st, v_inc, v_put, v_pt, v_pt2, v_fop, v_fo, v_fo2, v_ast, v_as, v_as2, v_as3, v_aop, v_ao, v_ao2, v_ao3, v_exs, v_ex, v_ifs, v_if1, v_if0, v_ret, v_rt, v_rez, v_rz, v_rev, v_brk, v_sws, v_sw, v_sw2, v_run, v_rb, v_turn, v_tu1, v_tu0, v_tu2, v_tu3, fst1, snd1, Option.map_some, Option.getD_some, enA, en, stE, okb, narV, rf_toNat, rf_nn, List.getElem?_cons_zero, List.getElem?_cons_succ, w32_id, w64_id, ite_t, ite_f, Int.toNat_add, Int.toNat_mul, dec_t, dec_f, sM_0, sM_6, a7, hk1, e3, f81, a71, hk2, f82, e6, exy, exy', pm2.p10, j2, lr, er, q8, fn]
      · have exy : ¬ x = y := fun z => tw (.inl z)
        have V0 : fld μM (27 + 12 * x + y) = 0 := Classical.byContradiction (fun z => tw (.inr z))
        have exy' : ¬ (x : Int) = (y : Int) := by omega
        rw [V0] at li lr
        obtain ⟨m3, e7, h3, D3⟩ := h2.adv bT2
        have EM3 : ∀ x y, ¬ (x = 0 ∧ y = 7) → ud k2 0 7 (((a + 1 + 1 : Nat) : Int) + 1) x y = μM x y := fun x y hx => by rw [ud_n hx]; exact EM2 x y hx
        generalize hk3 : ud k2 0 7 (((a + 1 + 1 : Nat) : Int) + 1) = k3 at *
        have pm3 := h3.mq.1
        by_cases t25 : tkA c N (a + 1 + 1 + 1) = 25
        · by_cases v1 : 1 ≤ vlA c N (a + 1 + 1 + 1) ∧ vlA c N (a + 1 + 1 + 1) ≤ 99
          · have eN := c_isNum1 h3.rq t25 v1.1 v1.2
            have er := r_num1 h3.mq h3.f0 t25 v1.1 v1.2
            have t4 := h3.rq.t4 t25
            have r03 := h3.rq.2.2.2.1
            have r33 := h3.rq.2.2.2.2.2.2.1
            have ob3 := h3.rq.2.2.2.2.2.2.2
            have o03 := ob3.1
            have o33 := ob3.2.2.2.1
            have p63 : m3 d 6 = rf (d + 3) := ob3.2.2.2.2.2.2.2.2.2.2.2.2.2.2.1
            have pa3 : m3 d 2 = μC d 2 := by rw [D3 _ _ (by omega), D2 _ _ (by omega), D1 _ _ (by omega)]
            have pb := prS_b (f := fld μM) n1
            rw [← C.fr.pa] at pb
            have h3a : PF mC mM (ud (ud (ud m3 (d + 3) (12 * x + y) (vlA c N (a + 1 + 1 + 1))) (d + 3) (12 * y + x) (vlA c N (a + 1 + 1 + 1))) d 2 (μC d 2 + 1)) k3 c N T d (a + 1 + 1 + 1) K := h3.cls (fun x y hx => by rw [ud_n (fun z => hx (by unfold ZC; omega)), ud_n (fun z => hx (by unfold ZC; omega)), ud_n (fun z => hx (by unfold ZC; omega))])
            obtain ⟨m4, e8, h4, D4⟩ := h3a.adv (h3.lt (by omega))
            have h4a : PF mC mM m4 (ud (ud (ud k3 0 7 (((a + 1 + 1 + 1 : Nat) : Int) + 1)) 6 (217 + 12 * x + y) (vlA c N (a + 1 + 1 + 1))) 6 (217 + 12 * y + x) (vlA c N (a + 1 + 1 + 1))) c N T d (a + 1 + 1 + 1 + 1) K := h4.ref (fun x y hx => by rw [ud_n (by omega), ud_n (by omega)])
            have q10 : ud k3 0 7 (((a + 1 + 1 + 1 : Nat) : Int) + 1) 0 10 = rf 6 := by rw [ud_n (by omega)]; exact pm3.p10
            have q10' : ud (ud k3 0 7 (((a + 1 + 1 + 1 : Nat) : Int) + 1)) 6 (217 + 12 * x + y) (vlA c N (a + 1 + 1 + 1)) 0 10 = rf 6 := by rw [ud_n (by omega)]; exact q10
            refine .inl ⟨_, K, n, P, M, m4, _, ?_, ?_, by omega, h4a, ?_⟩
            · have u1 : ud m3 (d + 3) (12 * x + y) (vlA c N (a + 1 + 1 + 1)) 27 3 = rf d := by rw [ud_n (by omega)]; exact r33
              have u2 : ud m3 (d + 3) (12 * x + y) (vlA c N (a + 1 + 1 + 1)) d 6 = rf (d + 3) := by rw [ud_n (by omega)]; exact p63
              have u3 : ud m3 (d + 3) (12 * x + y) (vlA c N (a + 1 + 1 + 1)) 27 0 = rf 1 := by rw [ud_n (by omega)]; exact r03
              have u4 : ud m3 (d + 3) (12 * x + y) (vlA c N (a + 1 + 1 + 1)) 1 4 = vlA c N (a + 1 + 1 + 1) := by rw [ud_n (by omega)]; exact t4
              have u5 : ud (ud m3 (d + 3) (12 * x + y) (vlA c N (a + 1 + 1 + 1))) (d + 3) (12 * y + x) (vlA c N (a + 1 + 1 + 1)) 27 3 = rf d := by rw [ud_n (by omega)]; exact u1
              have u6 : ud (ud m3 (d + 3) (12 * x + y) (vlA c N (a + 1 + 1 + 1))) (d + 3) (12 * y + x) (vlA c N (a + 1 + 1 + 1)) d 2 = μC d 2 := by rw [ud_n (by omega), ud_n (by omega)]; exact pa3
              have u7 : ud (ud (ud m3 (d + 3) (12 * x + y) (vlA c N (a + 1 + 1 + 1))) (d + 3) (12 * y + x) (vlA c N (a + 1 + 1 + 1))) d 2 (μC d 2 + 1) 27 0 = rf 1 := by rw [ud_n (by omega), ud_n (by omega)]; exact u3
              clear er h3a h4 h4a q10 q10' EM1 EM2 EM3 e3 e6 lr C tw V0
              generalize vlA c N (a + 1 + 1 + 1) = v at *
              have lx : 12 * x + y < 144 := by omega
              have ly : 12 * y + x < 144 := by omega
              generalize 12 * x + y = I at *
              generalize 12 * y + x = J at *
              generalize μC d 2 = Q at *
              simp -implicitDefEqProofs (disch := omega) [fX8_readLike, bX8_readLike, v_cop, v_c1, v_c2, v_c3, v_c4, v_c5, v_bin, v_bn, v_bn2, v_div, v_dv, v_dv2, v_une, v_un, v_loc, v_num, v_get, v_gt, v_ald, v_al, v_al2, v_len, v_ln, v_rl0, v_rl1, v_rl2, v_rl3, v_rl4, v_rl5, v_cmp, v_cp, v_cp2, v_zC, v_zc, v_con, v_kc, v_and, v_an1, v_an0, v_or, v_or1, v_or0, v_not, v_nt, v_boo, v_bo, v_cnd, v_cd1, v_cd0, v_cnc, v_cc1, v_cc0, v_ev0, v_ev, v_e1, v_e2, v_cve, v_cv, v_cse, v_cs, v_skip, v_seq, v_sq0, v_sq1, v_sqr, v_sts, v_st, v_inc, v_put, v_pt, v_pt2, v_fop, v_fo, v_fo2, v_ast, v_as, v_as2, v_as3, v_aop, v_ao, v_ao2, v_ao3, v_exs, v_ex, v_ifs, v_if1, v_if0, v_ret, v_rt, v_rez, v_rz, v_rev, v_brk, v_sws, v_sw, v_sw2, v_run, v_rb, v_turn, v_tu1, v_tu0, v_tu2, v_tu3, fst1, snd1, Option.map_some, Option.getD_some, enA, en, stE, okb, narV, rf_toNat, rf_nn, List.getElem?_cons_zero, List.getElem?_cons_succ, w32_id, w64_id, ite_t, ite_f, Int.toNat_add, Int.toNat_mul, dec_t, dec_f, sC_27, sC_1, r0, e1, e2, r0', e4, e5, exy, exy', r32, o02, o32, p6, j1, j3, li, r02, e7, eN, r03, r33, o03, o33, p63, t4, u1, u2, u3, u4, u5, u6, u7, e8]
            · clear eN h3a h4 h4a EM1 EM2 EM3 e2 e5 li C tw V0 e8 D4
              have la3 := h3.la
              generalize vlA c N (a + 1 + 1 + 1) = v at *
              have lx : 217 + 12 * x + y < 380 := by omega
              have ly : 217 + 12 * y + x < 380 := by omega
              generalize 217 + 12 * x + y = I at *
              generalize 217 + 12 * y + x = J at *
              generalize ud k3 0 7 (((a + 1 + 1 + 1 : Nat) : Int) + 1) = k4 at *
              generalize a + 1 + 1 = b2 at *
              generalize a + 1 = b at *
              simp -implicitDefEqProofs (disch := omega) [fX12_readLike, bX12_readLike, v_cop, v_c1, v_c2, v_c3, v_c4, v_c5, v_bin, v_bn, v_bn2, v_div, v_dv, v_dv2, v_une, v_un, v_loc, v_num, v_get, v_gt, v_ald, v_al, v_al2, v_len, v_ln, v_rl0, v_rl1, v_rl2, v_rl3, v_rl4, v_rl5, v_cmp, v_cp, v_cp2, v_zC, v_zc, v_con, v_kc, v_and, v_an1, v_an0, v_or, v_or1, v_or0, v_not, v_nt, v_boo, v_bo, v_cnd, v_cd1, v_cd0, v_cnc, v_cc1, v_cc0, v_ev0, v_ev, v_e1, v_e2, v_cve, v_cv, v_cse, v_cs, v_skip, v_seq, v_sq0, v_sq1, v_sqr, v_sts, v_st, v_inc, v_put, v_pt, v_pt2, v_fop, v_fo, v_fo2, v_ast, v_as, v_as2, v_as3, v_aop, v_ao, v_ao2, v_ao3, v_exs, v_ex, v_ifs, v_if1, v_if0, v_ret, v_rt, v_rez, v_rz, v_rev, v_brk, v_sws, v_sw, v_sw2, v_run, v_rb, v_turn, v_tu1, v_tu0, v_tu2, v_tu3, fst1, snd1, Option.map_some, Option.getD_some, enA, en, stE, okb, narV, rf_toNat, rf_nn, List.getElem?_cons_zero, List.getElem?_cons_succ, w32_id, w64_id, ite_t, ite_f, Int.toNat_add, Int.toNat_mul, dec_t, dec_f, sM_0, sM_6, a7, hk1, e3, f81, a71, hk2, f82, e6, exy, exy', pm2.p10, j2, j4, lr, a72, hk3, er, q10, q10']
            · exact cn_like (x := x) (y := y) (v := vlA c N (a + 1 + 1 + 1)) C hd hx hy exy V0 v1 (fun p q hpq => by rw [D4 _ _ (by omega), ud_n (by omega), ud_n (by omega), ud_n (by omega), D3 _ _ (by omega), D2 _ _ (by omega), D1 _ _ (by omega)]) (by rw [D4 _ _ (by omega), ud_s]) (by
                rw [D4 _ _ (by omega), ud_n (by omega)]
                by_cases z : 12 * x + y = 12 * y + x
                · rw [z, ud_s]
                · rw [ud_n (by omega), ud_s]) (by rw [D4 _ _ (by omega), ud_n (by omega), ud_s]) (fun p q hpq => by rw [ud_n (by omega), ud_n (by omega), ud_n (by omega)]; exact EM3 p q (by omega)) (by
                by_cases z : 217 + 12 * x + y = 217 + 12 * y + x
                · rw [z, ud_s]
                · rw [ud_n (by omega), ud_s]) ud_s
          · have eN := c_isNum4 h3.rq t25 v1
            have er := r_num4 h3.mq h3.f0 t25 v1
            have fo := h3.fo (k := 4) (by decide)
            have q10 : ud k3 0 8 (ftA c N (a + 1 + 1 + 1) 4) 0 10 = rf 6 := by rw [ud_n (by omega)]; exact pm3.p10
            have q10' : ud (ud k3 0 8 (ftA c N (a + 1 + 1 + 1) 4)) 6 (217 + 12 * x + y) 0 0 10 = rf 6 := by rw [ud_n (by omega)]; exact q10
            refine .inr ⟨_, ud (ud (ud k3 0 8 (ftA c N (a + 1 + 1 + 1) 4)) 6 (217 + 12 * x + y) 0) 6 (217 + 12 * y + x) 0, ?_, ?_, fo.ref (fun x y hx => by rw [ud_n (by omega), ud_n (by omega)])⟩
            · clear fo er q10 q10' EM1 EM2 EM3 e3 e6 lr C tw V0
              generalize ud m3 27 5 (ftA c N (a + 1 + 1 + 1) 4) = m4 at *
              have lx : 12 * x + y < 144 := by omega
              generalize 12 * x + y = I at *
              simp -implicitDefEqProofs (disch := omega) [fX8_readLike, bX8_readLike, v_cop, v_c1, v_c2, v_c3, v_c4, v_c5, v_bin, v_bn, v_bn2, v_div, v_dv, v_dv2, v_une, v_un, v_loc, v_num, v_get, v_gt, v_ald, v_al, v_al2, v_len, v_ln, v_rl0, v_rl1, v_rl2, v_rl3, v_rl4, v_rl5, v_cmp, v_cp, v_cp2, v_zC, v_zc, v_con, v_kc, v_and, v_an1, v_an0, v_or, v_or1, v_or0, v_not, v_nt, v_boo, v_bo, v_cnd, v_cd1, v_cd0, v_cnc, v_cc1, v_cc0, v_ev0, v_ev, v_e1, v_e2, v_cve, v_cv, v_cse, v_cs, v_skip, v_seq, v_sq0, v_sq1, v_sqr, v_sts, v_st, v_inc, v_put, v_pt, v_pt2, v_fop, v_fo, v_fo2, v_ast, v_as, v_as2, v_as3, v_aop, v_ao, v_ao2, v_ao3, v_exs, v_ex, v_ifs, v_if1, v_if0, v_ret, v_rt, v_rez, v_rz, v_rev, v_brk, v_sws, v_sw, v_sw2, v_run, v_rb, v_turn, v_tu1, v_tu0, v_tu2, v_tu3, fst1, snd1, Option.map_some, Option.getD_some, enA, en, stE, okb, narV, rf_toNat, rf_nn, List.getElem?_cons_zero, List.getElem?_cons_succ, w32_id, w64_id, ite_t, ite_f, Int.toNat_add, Int.toNat_mul, dec_t, dec_f, sC_27, sC_1, r0, e1, e2, r0', e4, e5, exy, exy', r32, o02, o32, p6, j1, li, r02, e7, eN]
            · clear fo eN EM1 EM2 EM3 e2 e5 li C tw V0
              have la3 := h3.la
              have lx : 217 + 12 * x + y < 380 := by omega
              have ly : 217 + 12 * y + x < 380 := by omega
              generalize 217 + 12 * x + y = I at *
              generalize 217 + 12 * y + x = J at *
              generalize ud k3 0 8 (ftA c N (a + 1 + 1 + 1) 4) = k4 at *
              generalize a + 1 + 1 = b2 at *
              generalize a + 1 = b at *
              simp -implicitDefEqProofs (disch := omega) [fX12_readLike, bX12_readLike, v_cop, v_c1, v_c2, v_c3, v_c4, v_c5, v_bin, v_bn, v_bn2, v_div, v_dv, v_dv2, v_une, v_un, v_loc, v_num, v_get, v_gt, v_ald, v_al, v_al2, v_len, v_ln, v_rl0, v_rl1, v_rl2, v_rl3, v_rl4, v_rl5, v_cmp, v_cp, v_cp2, v_zC, v_zc, v_con, v_kc, v_and, v_an1, v_an0, v_or, v_or1, v_or0, v_not, v_nt, v_boo, v_bo, v_cnd, v_cd1, v_cd0, v_cnc, v_cc1, v_cc0, v_ev0, v_ev, v_e1, v_e2, v_cve, v_cv, v_cse, v_cs, v_skip, v_seq, v_sq0, v_sq1, v_sqr, v_sts, v_st, v_inc, v_put, v_pt, v_pt2, v_fop, v_fo, v_fo2, v_ast, v_as, v_as2, v_as3, v_aop, v_ao, v_ao2, v_ao3, v_exs, v_ex, v_ifs, v_if1, v_if0, v_ret, v_rt, v_rez, v_rz, v_rev, v_brk, v_sws, v_sw, v_sw2, v_run, v_rb, v_turn, v_tu1, v_tu0, v_tu2, v_tu3, fst1, snd1, Option.map_some, Option.getD_some, enA, en, stE, okb, narV, rf_toNat, rf_nn, List.getElem?_cons_zero, List.getElem?_cons_succ, w32_id, w64_id, ite_t, ite_f, Int.toNat_add, Int.toNat_mul, dec_t, dec_f, sM_0, sM_6, a7, hk1, e3, f81, a71, hk2, f82, e6, exy, exy', pm2.p10, j2, j4, lr, a72, hk3, er, q10, q10']
        · have eN := c_isNum0 (l := 1) (u := 99) h3.rq t25
          have er := r_num0 (l := 1) (u := 99) h3.mq h3.f0 t25
          have fo := h3.fo (k := 1) (by decide)
          have q10 : ud k3 0 8 (ftA c N (a + 1 + 1 + 1) 1) 0 10 = rf 6 := by rw [ud_n (by omega)]; exact pm3.p10
          have q10' : ud (ud k3 0 8 (ftA c N (a + 1 + 1 + 1) 1)) 6 (217 + 12 * x + y) 0 0 10 = rf 6 := by rw [ud_n (by omega)]; exact q10
          refine .inr ⟨_, ud (ud (ud k3 0 8 (ftA c N (a + 1 + 1 + 1) 1)) 6 (217 + 12 * x + y) 0) 6 (217 + 12 * y + x) 0, ?_, ?_, fo.ref (fun x y hx => by rw [ud_n (by omega), ud_n (by omega)])⟩
          · clear fo er q10 q10' EM1 EM2 EM3 e3 e6 lr C tw V0
            generalize ud m3 27 5 (ftA c N (a + 1 + 1 + 1) 1) = m4 at *
            have lx : 12 * x + y < 144 := by omega
            generalize 12 * x + y = I at *
            simp -implicitDefEqProofs (disch := omega) [fX8_readLike, bX8_readLike, v_cop, v_c1, v_c2, v_c3, v_c4, v_c5, v_bin, v_bn, v_bn2, v_div, v_dv, v_dv2, v_une, v_un, v_loc, v_num, v_get, v_gt, v_ald, v_al, v_al2, v_len, v_ln, v_rl0, v_rl1, v_rl2, v_rl3, v_rl4, v_rl5, v_cmp, v_cp, v_cp2, v_zC, v_zc, v_con, v_kc, v_and, v_an1, v_an0, v_or, v_or1, v_or0, v_not, v_nt, v_boo, v_bo, v_cnd, v_cd1, v_cd0, v_cnc, v_cc1, v_cc0, v_ev0, v_ev, v_e1, v_e2, v_cve, v_cv, v_cse, v_cs, v_skip, v_seq, v_sq0, v_sq1, v_sqr, v_sts, v_st, v_inc, v_put, v_pt, v_pt2, v_fop, v_fo, v_fo2, v_ast, v_as, v_as2, v_as3, v_aop, v_ao, v_ao2, v_ao3, v_exs, v_ex, v_ifs, v_if1, v_if0, v_ret, v_rt, v_rez, v_rz, v_rev, v_brk, v_sws, v_sw, v_sw2, v_run, v_rb, v_turn, v_tu1, v_tu0, v_tu2, v_tu3, fst1, snd1, Option.map_some, Option.getD_some, enA, en, stE, okb, narV, rf_toNat, rf_nn, List.getElem?_cons_zero, List.getElem?_cons_succ, w32_id, w64_id, ite_t, ite_f, Int.toNat_add, Int.toNat_mul, dec_t, dec_f, sC_27, sC_1, r0, e1, e2, r0', e4, e5, exy, exy', r32, o02, o32, p6, j1, li, r02, e7, eN]
          · clear fo eN EM1 EM2 EM3 e2 e5 li C tw V0
            have la3 := h3.la
            have lx : 217 + 12 * x + y < 380 := by omega
            have ly : 217 + 12 * y + x < 380 := by omega
            generalize 217 + 12 * x + y = I at *
            generalize 217 + 12 * y + x = J at *
            generalize ud k3 0 8 (ftA c N (a + 1 + 1 + 1) 1) = k4 at *
            generalize a + 1 + 1 = b2 at *
            generalize a + 1 = b at *
            simp -implicitDefEqProofs (disch := omega) [fX12_readLike, bX12_readLike, v_cop, v_c1, v_c2, v_c3, v_c4, v_c5, v_bin, v_bn, v_bn2, v_div, v_dv, v_dv2, v_une, v_un, v_loc, v_num, v_get, v_gt, v_ald, v_al, v_al2, v_len, v_ln, v_rl0, v_rl1, v_rl2, v_rl3, v_rl4, v_rl5, v_cmp, v_cp, v_cp2, v_zC, v_zc, v_con, v_kc, v_and, v_an1, v_an0, v_or, v_or1, v_or0, v_not, v_nt, v_boo, v_bo, v_cnd, v_cd1, v_cd0, v_cnc, v_cc1, v_cc0, v_ev0, v_ev, v_e1, v_e2, v_cve, v_cv, v_cse, v_cs, v_skip, v_seq, v_sq0, v_sq1, v_sqr, v_sts, v_st, v_inc, v_put, v_pt, v_pt2, v_fop, v_fo, v_fo2, v_ast, v_as, v_as2, v_as3, v_aop, v_ao, v_ao2, v_ao3, v_exs, v_ex, v_ifs, v_if1, v_if0, v_ret, v_rt, v_rez, v_rz, v_rev, v_brk, v_sws, v_sw, v_sw2, v_run, v_rb, v_turn, v_tu1, v_tu0, v_tu2, v_tu3, fst1, snd1, Option.map_some, Option.getD_some, enA, en, stE, okb, narV, rf_toNat, rf_nn, List.getElem?_cons_zero, List.getElem?_cons_succ, w32_id, w64_id, ite_t, ite_f, Int.toNat_add, Int.toNat_mul, dec_t, dec_f, sM_0, sM_6, a7, hk1, e3, f81, a71, hk2, f82, e6, exy, exy', pm2.p10, j2, j4, lr, a72, hk3, er, q10, q10']
