/-! Law: what is written into it -/
def ObLaw (sh : Shp) (μ : Mem) (q : Nat) : Prop := sh[q]? = some (4, 0) ∧ sh[q + 1]? = some (100, 1000) ∧ sh[q + 2]? = some (100, 32) ∧ μ q 0 = rf (q + 1) ∧ μ q 1 = rf (q + 2)
theorem ud_s {μ : Mem} {k j : Nat} {v : Int} : ud μ k j v k j = v := by simp [ud]
theorem ud_j {μ : Mem} {k j a b : Nat} {v : Int} (h : b ≠ j) : ud μ k j v a b = μ a b := by simp [ud, h]
theorem ud_c {μ : Mem} {k j a b : Nat} {v : Int} (h : a ≠ k) : ud μ k j v a b = μ a b := by simp [ud, h]
theorem f_addNumber {sh : Shp} {μ : Mem} {q n : Nat} {v : Int} (h : ObLaw sh μ q) (hn : μ q 2 = (n : Int)) (h1 : n < 1000) : fX4_addNumber sh [(2, rf q), (0, v)] μ = some (0, ud (ud μ (q + 1) n v) q 2 ((n + 1 : Nat) : Int)) := by
  obtain ⟨g0, g1, g2, g3, g4⟩ := h
  have e1 : w32 ((n : Int) + 1) = ((n + 1 : Nat) : Int) := by rw [w32_id ⟨by omega, by omega⟩]; omega
  have h2 : (n : Int) < 1000 := by omega
  have h4 : ud μ (q + 1) n v q 2 = (n : Int) := by rw [ud_c (by omega)]; exact hn
  simp [fX4_addNumber, bX4_addNumber, runB, retS, retZ, retV, boolE, condE, andC, orC, notC, cmpC, zC, constC, aldE, getE, locE, numE, binE, divE, unE, lenE, cvE, csE, evA, enA, en, rl, seqS, stS, stE, incS, putS, fopS, astS, aopS, exS, ifS, skipS, brkS, swS, okb, narV, rf_toNat, rf_nn, g0, g1, g3, hn, h2, h1, h4, e1]
theorem f_addToken {sh : Shp} {μ : Mem} {q n w : Nat} (h : ObLaw sh μ q) (hn : μ q 2 = (n : Int)) (h1 : n < 1000) (hw : w < 1000) : fX4_addToken sh [(2, rf q), (0, (w : Int))] μ = some (0, ud (ud μ (q + 1) n (-1 - (w : Int))) q 2 ((n + 1 : Nat) : Int)) := by
  have e1 : w32 (-1 - (w : Int)) = -1 - (w : Int) := w32_id ⟨by omega, by omega⟩
  have e2 := f_addNumber (v := -1 - (w : Int)) h hn h1
  simp [fX4_addToken, bX4_addToken, runB, retS, retZ, retV, boolE, condE, andC, orC, notC, cmpC, zC, constC, aldE, getE, locE, numE, binE, divE, unE, lenE, cvE, csE, evA, enA, en, rl, seqS, stS, stE, incS, putS, fopS, astS, aopS, exS, ifS, skipS, brkS, swS, okb, narV, rf_toNat, rf_nn, h.1, e1, e2]
def beM (μ : Mem) (q w : Nat) : Mem := ud (ud (ud (ud μ q 2 0) q 3 0) (q + 1) 0 (-1 - (w : Int))) q 2 1
theorem f_beFact {sh : Shp} {μ : Mem} {q w : Nat} (h : ObLaw sh μ q) (hw : w < 1000) : fX4_beFact sh [(2, rf q), (0, (w : Int))] μ = some (0, beM μ q w) := by
  obtain ⟨g0, g1, g2, g3, g4⟩ := h
  have h2 : ObLaw sh (ud (ud μ q 2 0) q 3 0) q := ⟨g0, g1, g2, by rw [ud_j (by omega), ud_j (by omega)]; exact g3, by rw [ud_j (by omega), ud_j (by omega)]; exact g4⟩
  have e2 := f_addToken (n := 0) (w := w) h2 (by rw [ud_j (by omega), ud_s]; rfl) (by omega) hw
  simp [fX4_beFact, bX4_beFact, runB, retS, retZ, retV, boolE, condE, andC, orC, notC, cmpC, zC, constC, aldE, getE, locE, numE, binE, divE, unE, lenE, cvE, csE, evA, enA, en, rl, seqS, stS, stE, incS, putS, fopS, astS, aopS, exS, ifS, skipS, brkS, swS, okb, narV, rf_toNat, rf_nn, g0]
  simp at e2
  rw [e2]
  simp [beM]
theorem beM_o {μ : Mem} {q w a : Nat} (h1 : a ≠ q) (h2 : a ≠ q + 1) : beM μ q w a = μ a := by
  funext b
  unfold beM
  rw [ud_c h1, ud_c h2, ud_c h1, ud_c h1]
