/-! the reference's small readers -/
set_option maxRecDepth 100000 in theorem ud_same {μ : Mem} {a j : Nat} {v : Int} (h : μ a j = v) : ud μ a j v = μ := by
  funext x y
  unfold ud
  by_cases c : x = a ∧ y = j
  · rw [if_pos c, c.1, c.2, h]
  · rw [if_neg c]
set_option maxRecDepth 100000 in theorem tdiv2 {x : Int} (h : 0 ≤ x) (h2 : x < 2147483648) : w32 (x.tdiv 2) = x / 2 := by
  rw [Int.tdiv_eq_ediv_of_nonneg h]
  exact w32_id ⟨by omega, by omega⟩
set_option maxRecDepth 100000 in theorem r_places {μ : Mem} (h : PM μ) : fX12_places shM [(2, rf 0)] μ = some (μ 6 0, μ) := by
  simp -implicitDefEqProofs [fX12_places, bX12_places, runB, retS, retZ, retV, boolE, condE, andC, orC, notC, cmpC, zC, constC, aldE, getE, locE, numE, binE, divE, unE, lenE, cvE, csE, evA, enA, en, rl, seqS, stS, stE, incS, putS, fopS, astS, aopS, exS, ifS, skipS, brkS, swS, okb, narV, rf_toNat, rf_nn, sM_0, sM_6, h.p10]
set_option maxRecDepth 100000 in theorem r_meadows {μ : Mem} (h : PM μ) : fX12_meadows shM [(2, rf 0)] μ = some (μ 6 2, μ) := by
  simp -implicitDefEqProofs [fX12_meadows, bX12_meadows, runB, retS, retZ, retV, boolE, condE, andC, orC, notC, cmpC, zC, constC, aldE, getE, locE, numE, binE, divE, unE, lenE, cvE, csE, evA, enA, en, rl, seqS, stS, stE, incS, putS, fopS, astS, aopS, exS, ifS, skipS, brkS, swS, okb, narV, rf_toNat, rf_nn, sM_0, sM_6, h.p10]
set_option maxRecDepth 100000 in theorem r_kindOf {μ : Mem} (h : PM μ) {b : Nat} (hb : b < 12) : fX12_kindOf shM [(2, rf 0), (0, (b : Int))] μ = some (μ 6 (3 + 2 * b), μ) := by
  simp -implicitDefEqProofs (disch := omega) [fX12_kindOf, bX12_kindOf, runB, retS, retZ, retV, boolE, condE, andC, orC, notC, cmpC, zC, constC, aldE, getE, locE, numE, binE, divE, unE, lenE, cvE, csE, evA, enA, en, rl, seqS, stS, stE, incS, putS, fopS, astS, aopS, exS, ifS, skipS, brkS, swS, okb, narV, rf_toNat, rf_nn, List.getElem?_cons_zero, List.getElem?_cons_succ, turnS, w32_id, w64_id, ite_t, ite_f, Int.toNat_add, Int.toNat_mul, sM_0, sM_6, h.p10]
set_option maxRecDepth 100000 in theorem r_toneOf {μ : Mem} (h : PM μ) {b : Nat} (hb : b < 12) : fX12_toneOf shM [(2, rf 0), (0, (b : Int))] μ = some (μ 6 (3 + 2 * b + 1), μ) := by
  simp -implicitDefEqProofs (disch := omega) [fX12_toneOf, bX12_toneOf, runB, retS, retZ, retV, boolE, condE, andC, orC, notC, cmpC, zC, constC, aldE, getE, locE, numE, binE, divE, unE, lenE, cvE, csE, evA, enA, en, rl, seqS, stS, stE, incS, putS, fopS, astS, aopS, exS, ifS, skipS, brkS, swS, okb, narV, rf_toNat, rf_nn, List.getElem?_cons_zero, List.getElem?_cons_succ, turnS, w32_id, w64_id, ite_t, ite_f, Int.toNat_add, Int.toNat_mul, sM_0, sM_6, h.p10]
set_option maxRecDepth 100000 in theorem r_isBeast {μ : Mem} (h : PM μ) (b : Int) : fX12_isBeast shM [(2, rf 0), (0, b)] μ = some (if 0 ≤ b ∧ b < μ 6 1 then 1 else 0, μ) := by
  have e := r_beasts h
  by_cases c1 : 0 ≤ b <;> by_cases c2 : b < μ 6 1 <;> simp -implicitDefEqProofs [fX12_isBeast, bX12_isBeast, runB, retS, retZ, retV, boolE, condE, andC, orC, notC, cmpC, zC, constC, aldE, getE, locE, numE, binE, divE, unE, lenE, cvE, csE, evA, enA, en, rl, seqS, stS, stE, incS, putS, fopS, astS, aopS, exS, ifS, skipS, brkS, swS, okb, narV, rf_toNat, rf_nn, sM_0, e, c1, c2]
set_option maxRecDepth 100000 in theorem r_isPlace {μ : Mem} (h : PM μ) (b : Int) : fX12_isPlace shM [(2, rf 0), (0, b)] μ = some (if 0 ≤ b ∧ b < μ 6 0 then 1 else 0, μ) := by
  have e := r_places h
  by_cases c1 : 0 ≤ b <;> by_cases c2 : b < μ 6 0 <;> simp -implicitDefEqProofs [fX12_isPlace, bX12_isPlace, runB, retS, retZ, retV, boolE, condE, andC, orC, notC, cmpC, zC, constC, aldE, getE, locE, numE, binE, divE, unE, lenE, cvE, csE, evA, enA, en, rl, seqS, stS, stE, incS, putS, fopS, astS, aopS, exS, ifS, skipS, brkS, swS, okb, narV, rf_toNat, rf_nn, sM_0, e, c1, c2]
set_option maxRecDepth 100000 in theorem r_within (sh : Shp) (μ : Mem) (b lo hi : Int) : fX12_within sh [(0, b), (0, lo), (0, hi)] μ = some (if lo ≤ b ∧ b ≤ hi then 1 else 0, μ) := by
  by_cases c1 : lo ≤ b <;> by_cases c2 : b ≤ hi <;> simp -implicitDefEqProofs [fX12_within, bX12_within, runB, retS, retZ, retV, boolE, condE, andC, orC, notC, cmpC, zC, constC, aldE, getE, locE, numE, binE, divE, unE, lenE, cvE, csE, evA, enA, en, rl, seqS, stS, stE, incS, putS, fopS, astS, aopS, exS, ifS, skipS, brkS, swS, okb, narV, rf_toNat, rf_nn, c1, c2]
set_option maxRecDepth 100000 in theorem bit_nat {w b : Nat} (hw : w < 2147483648) (hb : b < 32) : o_iand (o_ishr (w : Int) (b : Int)) 1 = if w.testBit b then 1 else 0 := by
  rw [ishr_nat hw hb, show (1 : Int) = ((1 : Nat) : Int) from rfl, iand_nat (Nat.lt_of_le_of_lt (Nat.shiftRight_le w b) hw) (by decide)]
  rw [Nat.and_comm, Nat.testBit]
  rcases Nat.mod_two_eq_zero_or_one (w >>> b) with h | h
  · simp [Nat.one_and_eq_mod_two, h]
  · simp [Nat.one_and_eq_mod_two, h]
set_option maxRecDepth 100000 in theorem r_isAway {μ : Mem} (h : PM μ) {w b : Nat} (hw : μ 15 0 = (w : Int)) (hw2 : w < 4096) (hb : b < 12) : fX12_isAway shM [(2, rf 0), (0, (b : Int))] μ = some (if w.testBit b then 1 else 0, μ) := by
  have e := bit_nat (w := w) (b := b) (by omega) (by omega)
  by_cases c : w.testBit b = true <;> simp -implicitDefEqProofs [fX12_isAway, bX12_isAway, runB, retS, retZ, retV, boolE, condE, andC, orC, notC, cmpC, zC, constC, aldE, getE, locE, numE, binE, divE, unE, lenE, cvE, csE, evA, enA, en, rl, seqS, stS, stE, incS, putS, fopS, astS, aopS, exS, ifS, skipS, brkS, swS, okb, narV, rf_toNat, rf_nn, sM_0, sM_15, h.p23, hw, e, c]
def newS (fl st : Nat → Int) (b : Nat) : Prop := fl (3 + 2 * b) = 5 ∧ st (26 + b) < 3
set_option maxRecDepth 100000 in theorem r_isStrange {μ : Mem} (h : PM μ) {b : Nat} (hb : b < 12) : fX12_isStrange shM [(2, rf 0), (0, (b : Int))] μ = some (if μ 6 (3 + 2 * b) = 5 ∧ μ 15 (26 + b) < 3 then 1 else 0, μ) := by
  have e := r_kindOf h hb
  by_cases c1 : μ 6 (3 + 2 * b) = 5 <;> by_cases c2 : μ 15 (26 + b) < 3 <;> simp -implicitDefEqProofs (disch := omega) [fX12_isStrange, bX12_isStrange, runB, retS, retZ, retV, boolE, condE, andC, orC, notC, cmpC, zC, constC, aldE, getE, locE, numE, binE, divE, unE, lenE, cvE, csE, evA, enA, en, rl, seqS, stS, stE, incS, putS, fopS, astS, aopS, exS, ifS, skipS, brkS, swS, okb, narV, rf_toNat, rf_nn, List.getElem?_cons_zero, List.getElem?_cons_succ, turnS, w32_id, w64_id, ite_t, ite_f, Int.toNat_add, Int.toNat_mul, sM_0, sM_15, h.p23, e, c1, c2]
  all_goals omega
noncomputable def likS (fl st : Nat → Int) (a b : Nat) : Int := if (fl (3 + 2 * a) = 5 ∧ st (26 + a) < 3) ∨ (fl (3 + 2 * b) = 5 ∧ st (26 + b) < 3) then fl (27 + 12 * a + b) / 2 else fl (27 + 12 * a + b)
set_option maxRecDepth 100000 in theorem r_likes {μ : Mem} (h : PM μ) {a b : Nat} (ha : a < 12) (hb : b < 12) (hr : 0 ≤ μ 6 (27 + 12 * a + b) ∧ μ 6 (27 + 12 * a + b) ≤ 99) : fX12_likes shM [(2, rf 0), (0, (a : Int)), (0, (b : Int))] μ = some (likS (μ 6) (μ 15) a b, μ) := by
  have ea := r_isStrange h ha
  have eb := r_isStrange h hb
  have et := tdiv2 hr.1 (by omega)
  have i1 : (27 + 12 * (a : Int) + (b : Int)).toNat = 27 + 12 * a + b := by omega
  have i2 : 0 ≤ 27 + 12 * (a : Int) + (b : Int) := by omega
  have i3 : 27 + 12 * (a : Int) + (b : Int) < 380 := by omega
  by_cases c1 : μ 6 (3 + 2 * a) = 5 ∧ μ 15 (26 + a) < 3
  · simp -implicitDefEqProofs (disch := omega) [fX12_likes, bX12_likes, runB, retS, retZ, retV, boolE, condE, andC, orC, notC, cmpC, zC, constC, aldE, getE, locE, numE, binE, divE, unE, lenE, cvE, csE, evA, enA, en, rl, seqS, stS, stE, incS, putS, fopS, astS, aopS, exS, ifS, skipS, brkS, swS, okb, narV, rf_toNat, rf_nn, List.getElem?_cons_zero, List.getElem?_cons_succ, turnS, w32_id, w64_id, ite_t, ite_f, Int.toNat_add, Int.toNat_mul, sM_0, sM_6, h.p10, ea, eb, c1, et, i1, i2, i3, likS]
  · by_cases c2 : μ 6 (3 + 2 * b) = 5 ∧ μ 15 (26 + b) < 3
    · simp -implicitDefEqProofs (disch := omega) [fX12_likes, bX12_likes, runB, retS, retZ, retV, boolE, condE, andC, orC, notC, cmpC, zC, constC, aldE, getE, locE, numE, binE, divE, unE, lenE, cvE, csE, evA, enA, en, rl, seqS, stS, stE, incS, putS, fopS, astS, aopS, exS, ifS, skipS, brkS, swS, okb, narV, rf_toNat, rf_nn, List.getElem?_cons_zero, List.getElem?_cons_succ, turnS, w32_id, w64_id, ite_t, ite_f, Int.toNat_add, Int.toNat_mul, sM_0, sM_6, h.p10, ea, eb, c1, c2, et, i1, i2, i3, likS]
    · simp -implicitDefEqProofs (disch := omega) [fX12_likes, bX12_likes, runB, retS, retZ, retV, boolE, condE, andC, orC, notC, cmpC, zC, constC, aldE, getE, locE, numE, binE, divE, unE, lenE, cvE, csE, evA, enA, en, rl, seqS, stS, stE, incS, putS, fopS, astS, aopS, exS, ifS, skipS, brkS, swS, okb, narV, rf_toNat, rf_nn, List.getElem?_cons_zero, List.getElem?_cons_succ, turnS, w32_id, w64_id, ite_t, ite_f, Int.toNat_add, Int.toNat_mul, sM_0, sM_6, h.p10, ea, eb, c1, c2, et, i1, i2, i3, likS]
