/-! the class's small readers -/
set_option maxRecDepth 100000 in theorem c_isBeast {μ : Mem} {h d : Nat} (p : PC μ) (q : HD μ h d) (b : Int) : fX11_isBeast shC [(2, rf 0), (0, b)] μ = some (if 0 ≤ b ∧ b < μ h 1 then 1 else 0, μ) := by
  have o := (p.fl q).1
  by_cases c1 : 0 ≤ b <;> by_cases c2 : b < μ h 1 <;> simp -implicitDefEqProofs [fX11_isBeast, bX11_isBeast, runB, retS, retZ, retV, boolE, condE, andC, orC, notC, cmpC, zC, constC, aldE, getE, locE, numE, binE, divE, unE, lenE, cvE, csE, evA, enA, en, rl, seqS, stS, stE, incS, putS, fopS, astS, aopS, exS, ifS, skipS, brkS, swS, okb, narV, rf_toNat, rf_nn, sC_0, q.2.1, o, c1, c2]
set_option maxRecDepth 100000 in theorem c_isPlace {μ : Mem} {h d : Nat} (p : PC μ) (q : HD μ h d) (b : Int) : fX11_isPlace shC [(2, rf 0), (0, b)] μ = some (if 0 ≤ b ∧ b < μ h 0 then 1 else 0, μ) := by
  have o := (p.fl q).1
  by_cases c1 : 0 ≤ b <;> by_cases c2 : b < μ h 0 <;> simp -implicitDefEqProofs [fX11_isPlace, bX11_isPlace, runB, retS, retZ, retV, boolE, condE, andC, orC, notC, cmpC, zC, constC, aldE, getE, locE, numE, binE, divE, unE, lenE, cvE, csE, evA, enA, en, rl, seqS, stS, stE, incS, putS, fopS, astS, aopS, exS, ifS, skipS, brkS, swS, okb, narV, rf_toNat, rf_nn, sC_0, q.2.1, o, c1, c2]
set_option maxRecDepth 100000 in theorem c_isPair {μ : Mem} {h d : Nat} (p : PC μ) (q : HD μ h d) (a b : Int) : fX11_isPair shC [(2, rf 0), (0, a), (0, b)] μ = some (if (0 ≤ a ∧ a < μ h 1) ∧ (0 ≤ b ∧ b < μ h 1) ∧ a ≠ b then 1 else 0, μ) := by
  have ea := c_isBeast p q a
  have eb := c_isBeast p q b
  by_cases c1 : 0 ≤ a ∧ a < μ h 1 <;> by_cases c2 : 0 ≤ b ∧ b < μ h 1 <;> by_cases c3 : a = b <;> simp -implicitDefEqProofs [fX11_isPair, bX11_isPair, runB, retS, retZ, retV, boolE, condE, andC, orC, notC, cmpC, zC, constC, aldE, getE, locE, numE, binE, divE, unE, lenE, cvE, csE, evA, enA, en, rl, seqS, stS, stE, incS, putS, fopS, astS, aopS, exS, ifS, skipS, brkS, swS, okb, narV, rf_toNat, rf_nn, sC_0, ea, eb, c1, c2, c3]
set_option maxRecDepth 100000 in theorem c_isAway {sh : Shp} {μ : Mem} {k w b : Nat} (o : ObLy sh μ k) (hw : μ k 0 = (w : Int)) (hw2 : w < 4096) (hb : b < 12) : fX6_isAway sh [(2, rf k), (0, (b : Int))] μ = some (if w.testBit b then 1 else 0, μ) := by
  have e := bit_nat (w := w) (b := b) (by omega) (by omega)
  by_cases c : w.testBit b = true <;> simp -implicitDefEqProofs [fX6_isAway, bX6_isAway, runB, retS, retZ, retV, boolE, condE, andC, orC, notC, cmpC, zC, constC, aldE, getE, locE, numE, binE, divE, unE, lenE, cvE, csE, evA, enA, en, rl, seqS, stS, stE, incS, putS, fopS, astS, aopS, exS, ifS, skipS, brkS, swS, okb, narV, rf_toNat, rf_nn, o.1, hw, e, c]
set_option maxRecDepth 100000 in theorem c_likes {μ : Mem} {fl st : Nat → Int} {k h n P M a b : Nat} (o : ObLy shC μ k) (f : ObFl shC μ h) (l : LR μ k st) (r : FR μ h fl n M) (B : FB fl n P M) (ha : a < n) (hb : b < n) : fX6_likes shC [(2, rf k), (2, rf h), (0, (a : Int)), (0, (b : Int))] μ = some (likS fl st a b, μ) := by
  have hn := B.n1
  have e0 : μ (h + 3) (a * 12 + b) = fl (27 + 12 * a + b) := by
    rw [r.li _ (by omega)]
    congr 1
    omega
  have e1 := B.li a b (by omega) (by omega)
  rw [f_likes o f (by omega) (by omega) (by rw [e0]; omega)]
  unfold likeC likS
  rw [e0, r.ki a ha, r.ki b hb, l.ln a (by omega), l.ln b (by omega), Int.tdiv_eq_ediv_of_nonneg e1.1]
set_option maxRecDepth 100000 in theorem STP.rd {fC fM : Fn} {as : List Vl} (e : ∀ μC μM h d n P M, R0 μC μM h d n P M → ∃ r, fC shC ((2, rf 0) :: as) μC = some (r, μC) ∧ fM shM ((2, rf 0) :: as) μM = some (r, μM)) : STP RR fC fM as := by
  rintro μC μM ⟨h, d, n, P, M, R⟩
  obtain ⟨r, h1, h2⟩ := e μC μM h d n P M R
  exact ⟨r, μC, μM, h1, h2, h, d, n, P, M, R⟩
set_option maxRecDepth 100000 in theorem st_liking (a b : Int) : STP RR fX11_liking fX12_liking [(0, a), (0, b)] := by
  refine STP.rd (fun μC μM h d n P M R => ?_)
  have e1 := c_isPair R.pc R.hd a b
  have e2 := r_isBeast R.pm a
  have e3 := r_isBeast R.pm b
  have th := ud_same R.th
  have f := R.pc.fl R.hd
  rw [R.fr.be, R.fb.n0] at e1
  rw [R.fb.n0] at e2 e3
  by_cases ca : 0 ≤ a ∧ a < (n : Int)
  · by_cases cb : 0 ≤ b ∧ b < (n : Int)
    · by_cases cc : a = b
      · subst cc
        refine ⟨-1, ?_, ?_⟩
        · simp -implicitDefEqProofs [fX11_liking, bX11_liking, runB, retS, retZ, retV, boolE, condE, andC, orC, notC, cmpC, zC, constC, aldE, getE, locE, numE, binE, divE, unE, lenE, cvE, csE, evA, enA, en, rl, seqS, stS, stE, incS, putS, fopS, astS, aopS, exS, ifS, skipS, brkS, swS, okb, narV, rf_toNat, rf_nn, sC_0, e1, ca, cb]
        · simp -implicitDefEqProofs [fX12_liking, bX12_liking, runB, retS, retZ, retV, boolE, condE, andC, orC, notC, cmpC, zC, constC, aldE, getE, locE, numE, binE, divE, unE, lenE, cvE, csE, evA, enA, en, rl, seqS, stS, stE, incS, putS, fopS, astS, aopS, exS, ifS, skipS, brkS, swS, okb, narV, rf_toNat, rf_nn, sM_0, e2, e3, ca, cb, th]
      · obtain ⟨x, rfl⟩ := Int.eq_ofNat_of_zero_le ca.1
        obtain ⟨y, rfl⟩ := Int.eq_ofNat_of_zero_le cb.1
        have hn := R.fb.n1
        have e4 := c_likes R.pc.ly30 f R.lr R.fr R.fb (a := x) (b := y) (by omega) (by omega)
        have e5 := r_likes R.pm (a := x) (b := y) (by omega) (by omega) (R.fb.li x y (by omega) (by omega))
        refine ⟨likS (μM 6) (μM 15) x y, ?_, ?_⟩
        · simp -implicitDefEqProofs [fX11_liking, bX11_liking, runB, retS, retZ, retV, boolE, condE, andC, orC, notC, cmpC, zC, constC, aldE, getE, locE, numE, binE, divE, unE, lenE, cvE, csE, evA, enA, en, rl, seqS, stS, stE, incS, putS, fopS, astS, aopS, exS, ifS, skipS, brkS, swS, okb, narV, rf_toNat, rf_nn, sC_0, sC_30, R.pc.p0_4, R.hd.2.1, e1, e4, ca, cb, cc]
        · simp -implicitDefEqProofs [fX12_liking, bX12_liking, runB, retS, retZ, retV, boolE, condE, andC, orC, notC, cmpC, zC, constC, aldE, getE, locE, numE, binE, divE, unE, lenE, cvE, csE, evA, enA, en, rl, seqS, stS, stE, incS, putS, fopS, astS, aopS, exS, ifS, skipS, brkS, swS, okb, narV, rf_toNat, rf_nn, sM_0, e2, e3, e5, ca, cb, cc, th]
    · refine ⟨-1, ?_, ?_⟩
      · simp -implicitDefEqProofs [fX11_liking, bX11_liking, runB, retS, retZ, retV, boolE, condE, andC, orC, notC, cmpC, zC, constC, aldE, getE, locE, numE, binE, divE, unE, lenE, cvE, csE, evA, enA, en, rl, seqS, stS, stE, incS, putS, fopS, astS, aopS, exS, ifS, skipS, brkS, swS, okb, narV, rf_toNat, rf_nn, sC_0, e1, ca, cb]
      · simp -implicitDefEqProofs [fX12_liking, bX12_liking, runB, retS, retZ, retV, boolE, condE, andC, orC, notC, cmpC, zC, constC, aldE, getE, locE, numE, binE, divE, unE, lenE, cvE, csE, evA, enA, en, rl, seqS, stS, stE, incS, putS, fopS, astS, aopS, exS, ifS, skipS, brkS, swS, okb, narV, rf_toNat, rf_nn, sM_0, e2, e3, ca, cb, th]
  · refine ⟨-1, ?_, ?_⟩
    · simp -implicitDefEqProofs [fX11_liking, bX11_liking, runB, retS, retZ, retV, boolE, condE, andC, orC, notC, cmpC, zC, constC, aldE, getE, locE, numE, binE, divE, unE, lenE, cvE, csE, evA, enA, en, rl, seqS, stS, stE, incS, putS, fopS, astS, aopS, exS, ifS, skipS, brkS, swS, okb, narV, rf_toNat, rf_nn, sC_0, e1, ca]
    · simp -implicitDefEqProofs [fX12_liking, bX12_liking, runB, retS, retZ, retV, boolE, condE, andC, orC, notC, cmpC, zC, constC, aldE, getE, locE, numE, binE, divE, unE, lenE, cvE, csE, evA, enA, en, rl, seqS, stS, stE, incS, putS, fopS, astS, aopS, exS, ifS, skipS, brkS, swS, okb, narV, rf_toNat, rf_nn, sM_0, e2, e3, ca, th]
set_option maxRecDepth 100000 in theorem st_beside (a b : Int) : STP RR fX11_beside fX12_beside [(0, a), (0, b)] := by
  refine STP.rd (fun μC μM h d n P M R => ?_)
  have e1 := c_isPair R.pc R.hd a b
  have e2 := r_isBeast R.pm a
  have e3 := r_isBeast R.pm b
  have th := ud_same R.th
  rw [R.fr.be, R.fb.n0] at e1
  rw [R.fb.n0] at e2 e3
  have hn := R.fb.n1
  by_cases ca : 0 ≤ a ∧ a < (n : Int)
  · by_cases cb : 0 ≤ b ∧ b < (n : Int)
    · by_cases cc : a = b
      · subst cc
        refine ⟨-1, ?_, ?_⟩
        · simp -implicitDefEqProofs [fX11_beside, bX11_beside, runB, retS, retZ, retV, boolE, condE, andC, orC, notC, cmpC, zC, constC, aldE, getE, locE, numE, binE, divE, unE, lenE, cvE, csE, evA, enA, en, rl, seqS, stS, stE, incS, putS, fopS, astS, aopS, exS, ifS, skipS, brkS, swS, okb, narV, rf_toNat, rf_nn, sC_0, e1, ca, cb]
        · simp -implicitDefEqProofs [fX12_beside, bX12_beside, runB, retS, retZ, retV, boolE, condE, andC, orC, notC, cmpC, zC, constC, aldE, getE, locE, numE, binE, divE, unE, lenE, cvE, csE, evA, enA, en, rl, seqS, stS, stE, incS, putS, fopS, astS, aopS, exS, ifS, skipS, brkS, swS, okb, narV, rf_toNat, rf_nn, sM_0, e2, e3, ca, cb, th]
      · obtain ⟨x, rfl⟩ := Int.eq_ofNat_of_zero_le ca.1
        obtain ⟨y, rfl⟩ := Int.eq_ofNat_of_zero_le cb.1
        have i1 : ((x : Int) * 12 + (y : Int)).toNat = x * 12 + y := by omega
        have i2 : 0 ≤ (x : Int) * 12 + (y : Int) := by omega
        have i3 : (x : Int) * 12 + (y : Int) < 144 := by omega
        have i4 : (38 + 12 * (x : Int) + (y : Int)).toNat = 38 + (x * 12 + y) := by omega
        have i5 : 0 ≤ 38 + 12 * (x : Int) + (y : Int) := by omega
        have i6 : 38 + 12 * (x : Int) + (y : Int) < 5220 := by omega
        have e4 := R.lr.bs (x * 12 + y) (by omega)
        refine ⟨μM 15 (38 + (x * 12 + y)), ?_, ?_⟩
        · simp -implicitDefEqProofs (disch := omega) [fX11_beside, bX11_beside, runB, retS, retZ, retV, boolE, condE, andC, orC, notC, cmpC, zC, constC, aldE, getE, locE, numE, binE, divE, unE, lenE, cvE, csE, evA, enA, en, rl, seqS, stS, stE, incS, putS, fopS, astS, aopS, exS, ifS, skipS, brkS, swS, okb, narV, rf_toNat, rf_nn, List.getElem?_cons_zero, List.getElem?_cons_succ, turnS, w32_id, w64_id, ite_t, ite_f, Int.toNat_add, Int.toNat_mul, sC_0, sC_30, sC_34, R.pc.p0_4, R.pc.p30_5, e1, e4, ca, cb, cc, i1, i2, i3]
        · simp -implicitDefEqProofs (disch := omega) [fX12_beside, bX12_beside, runB, retS, retZ, retV, boolE, condE, andC, orC, notC, cmpC, zC, constC, aldE, getE, locE, numE, binE, divE, unE, lenE, cvE, csE, evA, enA, en, rl, seqS, stS, stE, incS, putS, fopS, astS, aopS, exS, ifS, skipS, brkS, swS, okb, narV, rf_toNat, rf_nn, List.getElem?_cons_zero, List.getElem?_cons_succ, turnS, w32_id, w64_id, ite_t, ite_f, Int.toNat_add, Int.toNat_mul, sM_0, sM_15, R.pm.p23, e2, e3, ca, cb, cc, th, i4, i5, i6]
    · refine ⟨-1, ?_, ?_⟩
      · simp -implicitDefEqProofs [fX11_beside, bX11_beside, runB, retS, retZ, retV, boolE, condE, andC, orC, notC, cmpC, zC, constC, aldE, getE, locE, numE, binE, divE, unE, lenE, cvE, csE, evA, enA, en, rl, seqS, stS, stE, incS, putS, fopS, astS, aopS, exS, ifS, skipS, brkS, swS, okb, narV, rf_toNat, rf_nn, sC_0, e1, ca, cb]
      · simp -implicitDefEqProofs [fX12_beside, bX12_beside, runB, retS, retZ, retV, boolE, condE, andC, orC, notC, cmpC, zC, constC, aldE, getE, locE, numE, binE, divE, unE, lenE, cvE, csE, evA, enA, en, rl, seqS, stS, stE, incS, putS, fopS, astS, aopS, exS, ifS, skipS, brkS, swS, okb, narV, rf_toNat, rf_nn, sM_0, e2, e3, ca, cb, th]
  · refine ⟨-1, ?_, ?_⟩
    · simp -implicitDefEqProofs [fX11_beside, bX11_beside, runB, retS, retZ, retV, boolE, condE, andC, orC, notC, cmpC, zC, constC, aldE, getE, locE, numE, binE, divE, unE, lenE, cvE, csE, evA, enA, en, rl, seqS, stS, stE, incS, putS, fopS, astS, aopS, exS, ifS, skipS, brkS, swS, okb, narV, rf_toNat, rf_nn, sC_0, e1, ca]
    · simp -implicitDefEqProofs [fX12_beside, bX12_beside, runB, retS, retZ, retV, boolE, condE, andC, orC, notC, cmpC, zC, constC, aldE, getE, locE, numE, binE, divE, unE, lenE, cvE, csE, evA, enA, en, rl, seqS, stS, stE, incS, putS, fopS, astS, aopS, exS, ifS, skipS, brkS, swS, okb, narV, rf_toNat, rf_nn, sM_0, e2, e3, ca, th]
set_option maxRecDepth 100000 in theorem st_beast (a b : Int) : STP RR fX11_beast fX12_beast [(0, a), (0, b)] := by
  refine STP.rd (fun μC μM h d n P M R => ?_)
  have e1 := c_isBeast R.pc R.hd a
  have e2 := r_isBeast R.pm a
  have th := ud_same R.th
  have ew := r_within shM μM b 0 4
  rw [R.fr.be, R.fb.n0] at e1
  rw [R.fb.n0] at e2
  have hn := R.fb.n1
  have f := R.pc.fl R.hd
  obtain ⟨f0, f1, f2, -, -, -, -, -, -, -, -, -, g1, g2, -⟩ := f
  by_cases ca : 0 ≤ a ∧ a < (n : Int)
  · obtain ⟨x, rfl⟩ := Int.eq_ofNat_of_zero_le ca.1
    have hx : x < n := by omega
    have hx2 : x < 12 := by omega
    obtain ⟨w, hw, hw2⟩ := R.sl.aw
    have hw3 : w < 4096 := Nat.lt_of_lt_of_le hw2 (Nat.pow_le_pow_right (n := 2) (by decide) (show n ≤ 12 by omega))
    have e3 := c_isAway R.pc.ly30 (R.lr.aw.trans hw) hw3 hx2
    have e4 := r_isAway R.pm hw hw3 hx2
    have e5 := r_kindOf R.pm hx2
    have e6 := r_toneOf R.pm hx2
    by_cases b0 : b = 0
    · subst b0
      refine ⟨μM 6 (3 + 2 * x), ?_, ?_⟩
      · simp -implicitDefEqProofs [fX11_beast, bX11_beast, wX11_beast_11_sel, runB, retS, retZ, retV, boolE, condE, andC, orC, notC, cmpC, zC, constC, aldE, getE, locE, numE, binE, divE, unE, lenE, cvE, csE, evA, enA, en, rl, seqS, stS, stE, incS, putS, fopS, astS, aopS, exS, ifS, skipS, brkS, swS, okb, narV, rf_toNat, rf_nn, sC_0, R.hd.2.1, f0, f1, g1, e1, ca, hx2, R.fr.ki x hx]
      · simp -implicitDefEqProofs [fX12_beast, bX12_beast, wX12_beast_25_sel, runB, retS, retZ, retV, boolE, condE, andC, orC, notC, cmpC, zC, constC, aldE, getE, locE, numE, binE, divE, unE, lenE, cvE, csE, evA, enA, en, rl, seqS, stS, stE, incS, putS, fopS, astS, aopS, exS, ifS, skipS, brkS, swS, okb, narV, rf_toNat, rf_nn, sM_0, e2, e5, ew, ca, th]
    by_cases b1 : b = 1
    · subst b1
      refine ⟨μM 6 (3 + 2 * x + 1), ?_, ?_⟩
      · simp -implicitDefEqProofs [fX11_beast, bX11_beast, wX11_beast_11_sel, runB, retS, retZ, retV, boolE, condE, andC, orC, notC, cmpC, zC, constC, aldE, getE, locE, numE, binE, divE, unE, lenE, cvE, csE, evA, enA, en, rl, seqS, stS, stE, incS, putS, fopS, astS, aopS, exS, ifS, skipS, brkS, swS, okb, narV, rf_toNat, rf_nn, sC_0, R.hd.2.1, f0, f2, g2, e1, ca, hx2, R.fr.to x hx]
      · simp -implicitDefEqProofs [fX12_beast, bX12_beast, wX12_beast_25_sel, runB, retS, retZ, retV, boolE, condE, andC, orC, notC, cmpC, zC, constC, aldE, getE, locE, numE, binE, divE, unE, lenE, cvE, csE, evA, enA, en, rl, seqS, stS, stE, incS, putS, fopS, astS, aopS, exS, ifS, skipS, brkS, swS, okb, narV, rf_toNat, rf_nn, sM_0, e2, e6, ew, ca, th]
    by_cases b2 : b = 2
    · subst b2
      refine ⟨μM 15 (2 + x), ?_, ?_⟩
      · simp -implicitDefEqProofs [fX11_beast, bX11_beast, wX11_beast_11_sel, runB, retS, retZ, retV, boolE, condE, andC, orC, notC, cmpC, zC, constC, aldE, getE, locE, numE, binE, divE, unE, lenE, cvE, csE, evA, enA, en, rl, seqS, stS, stE, incS, putS, fopS, astS, aopS, exS, ifS, skipS, brkS, swS, okb, narV, rf_toNat, rf_nn, sC_0, sC_30, sC_31, R.pc.p0_4, R.pc.p30_2, e1, ca, hx2, R.lr.no x hx2]
      · simp -implicitDefEqProofs (disch := omega) [fX12_beast, bX12_beast, wX12_beast_25_sel, runB, retS, retZ, retV, boolE, condE, andC, orC, notC, cmpC, zC, constC, aldE, getE, locE, numE, binE, divE, unE, lenE, cvE, csE, evA, enA, en, rl, seqS, stS, stE, incS, putS, fopS, astS, aopS, exS, ifS, skipS, brkS, swS, okb, narV, rf_toNat, rf_nn, List.getElem?_cons_zero, List.getElem?_cons_succ, turnS, w32_id, w64_id, ite_t, ite_f, Int.toNat_add, Int.toNat_mul, sM_0, sM_15, R.pm.p23, e2, ew, ca, th]
    by_cases b3 : b = 3
    · subst b3
      refine ⟨if w.testBit x then 1 else 0, ?_, ?_⟩
      · by_cases c : w.testBit x = true <;> simp -implicitDefEqProofs [fX11_beast, bX11_beast, wX11_beast_11_sel, runB, retS, retZ, retV, boolE, condE, andC, orC, notC, cmpC, zC, constC, aldE, getE, locE, numE, binE, divE, unE, lenE, cvE, csE, evA, enA, en, rl, seqS, stS, stE, incS, putS, fopS, astS, aopS, exS, ifS, skipS, brkS, swS, okb, narV, rf_toNat, rf_nn, sC_0, sC_30, R.pc.p0_4, e1, e3, ca, c]
      · by_cases c : w.testBit x = true <;> simp -implicitDefEqProofs [fX12_beast, bX12_beast, wX12_beast_25_sel, runB, retS, retZ, retV, boolE, condE, andC, orC, notC, cmpC, zC, constC, aldE, getE, locE, numE, binE, divE, unE, lenE, cvE, csE, evA, enA, en, rl, seqS, stS, stE, incS, putS, fopS, astS, aopS, exS, ifS, skipS, brkS, swS, okb, narV, rf_toNat, rf_nn, sM_0, e2, e4, ew, ca, th, c]
    by_cases b4 : b = 4
    · subst b4
      refine ⟨μM 15 (26 + x), ?_, ?_⟩
      · simp -implicitDefEqProofs [fX11_beast, bX11_beast, wX11_beast_11_sel, runB, retS, retZ, retV, boolE, condE, andC, orC, notC, cmpC, zC, constC, aldE, getE, locE, numE, binE, divE, unE, lenE, cvE, csE, evA, enA, en, rl, seqS, stS, stE, incS, putS, fopS, astS, aopS, exS, ifS, skipS, brkS, swS, okb, narV, rf_toNat, rf_nn, sC_0, sC_30, sC_33, R.pc.p0_4, R.pc.p30_4, e1, ca, hx2, R.lr.ln x hx2]
      · simp -implicitDefEqProofs (disch := omega) [fX12_beast, bX12_beast, wX12_beast_25_sel, runB, retS, retZ, retV, boolE, condE, andC, orC, notC, cmpC, zC, constC, aldE, getE, locE, numE, binE, divE, unE, lenE, cvE, csE, evA, enA, en, rl, seqS, stS, stE, incS, putS, fopS, astS, aopS, exS, ifS, skipS, brkS, swS, okb, narV, rf_toNat, rf_nn, List.getElem?_cons_zero, List.getElem?_cons_succ, turnS, w32_id, w64_id, ite_t, ite_f, Int.toNat_add, Int.toNat_mul, sM_0, sM_15, R.pm.p23, e2, ew, ca, th]
    have cw : ¬ (0 ≤ b ∧ b ≤ 4) := by omega
    refine ⟨-1, ?_, ?_⟩
    · simp -implicitDefEqProofs [fX11_beast, bX11_beast, wX11_beast_11_sel, runB, retS, retZ, retV, boolE, condE, andC, orC, notC, cmpC, zC, constC, aldE, getE, locE, numE, binE, divE, unE, lenE, cvE, csE, evA, enA, en, rl, seqS, stS, stE, incS, putS, fopS, astS, aopS, exS, ifS, skipS, brkS, swS, okb, narV, rf_toNat, rf_nn, sC_0, e1, ca, b0, b1, b2, b3, b4]
    · simp -implicitDefEqProofs [fX12_beast, bX12_beast, runB, retS, retZ, retV, boolE, condE, andC, orC, notC, cmpC, zC, constC, aldE, getE, locE, numE, binE, divE, unE, lenE, cvE, csE, evA, enA, en, rl, seqS, stS, stE, incS, putS, fopS, astS, aopS, exS, ifS, skipS, brkS, swS, okb, narV, rf_toNat, rf_nn, sM_0, e2, ew, ca, th, cw]
  · refine ⟨-1, ?_, ?_⟩
    · simp -implicitDefEqProofs [fX11_beast, bX11_beast, runB, retS, retZ, retV, boolE, condE, andC, orC, notC, cmpC, zC, constC, aldE, getE, locE, numE, binE, divE, unE, lenE, cvE, csE, evA, enA, en, rl, seqS, stS, stE, incS, putS, fopS, astS, aopS, exS, ifS, skipS, brkS, swS, okb, narV, rf_toNat, rf_nn, sC_0, e1, ca]
    · simp -implicitDefEqProofs [fX12_beast, bX12_beast, runB, retS, retZ, retV, boolE, condE, andC, orC, notC, cmpC, zC, constC, aldE, getE, locE, numE, binE, divE, unE, lenE, cvE, csE, evA, enA, en, rl, seqS, stS, stE, incS, putS, fopS, astS, aopS, exS, ifS, skipS, brkS, swS, okb, narV, rf_toNat, rf_nn, sM_0, e2, ca, th]
