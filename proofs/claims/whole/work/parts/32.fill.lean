/-! Arrays.fill -/
def fillM (μ : Mem) (a n : Nat) (v : Int) : Mem := fun x y => if x = a ∧ y < n then v else μ x y
theorem fillM_0 (μ : Mem) (a : Nat) (v : Int) : fillM μ a 0 v = μ := by
  funext x y
  unfold fillM
  rw [if_neg (by omega)]
theorem fillM_s (μ : Mem) (a n : Nat) (v : Int) : ud (fillM μ a n v) a n v = fillM μ a (n + 1) v := by
  funext x y
  unfold ud fillM
  by_cases h1 : x = a
  · by_cases h2 : y = n
    · rw [if_pos ⟨h1, h2⟩, if_pos ⟨h1, by omega⟩]
    · rw [if_neg (fun z => h2 z.2)]
      by_cases h3 : y < n
      · rw [if_pos ⟨h1, h3⟩, if_pos ⟨h1, by omega⟩]
      · rw [if_neg (fun z => h3 z.2), if_neg (fun z => h3 (by omega))]
  · rw [if_neg (fun z => h1 z.1), if_neg (fun z => h1 z.1), if_neg (fun z => h1 z.1)]
theorem l_fill {sh : Shp} {μ : Mem} {a n : Nat} {v : Int} (hs : sh[a]? = some (100, n)) (hn : n < 1000000) : ∀ m i : Nat, i + m = n → kJ7_fill_53178_0 sh [(2, rf a), (0, v), (0, (i : Int)), (0, (n : Int))] (fillM μ a i v) = some (0, 0, [(2, rf a), (0, v), (0, (n : Int)), (0, (n : Int))], fillM μ a n v) := by
  intro m
  induction m with
  | zero =>
    intro i hi
    have : i = n := by omega
    subst this
    rw [kJ7_fill_53178_0, loopS_eq]
    simp [kJ7_fill_53178_0c, runB, retS, retZ, retV, boolE, condE, andC, orC, notC, cmpC, zC, constC, aldE, getE, locE, numE, binE, divE, unE, lenE, cvE, csE, evA, enA, en, rl, seqS, stS, stE, incS, putS, fopS, astS, aopS, exS, ifS, skipS, brkS, swS, okb, narV, rf_toNat, rf_nn]
  | succ m ih =>
    intro i hi
    have h1 : i < n := by omega
    have e1 : w32 ((i : Int) + 1) = ((i + 1 : Nat) : Int) := by rw [w32_id ⟨by omega, by omega⟩]; omega
    have ih := ih (i + 1) (by omega)
    rw [kJ7_fill_53178_0] at ih ⊢
    rw [loopS_eq]
    simp [kJ7_fill_53178_0c, kJ7_fill_53178_0b, kJ7_fill_53178_0u, runB, retS, retZ, retV, boolE, condE, andC, orC, notC, cmpC, zC, constC, aldE, getE, locE, numE, binE, divE, unE, lenE, cvE, csE, evA, enA, en, rl, seqS, stS, stE, incS, putS, fopS, astS, aopS, exS, ifS, skipS, brkS, swS, okb, narV, rf_toNat, rf_nn, h1, hs, fillM_s]
    rw [e1]
    exact ih
theorem f_fill {sh : Shp} {μ : Mem} {a n : Nat} {v : Int} (hs : sh[a]? = some (100, n)) (hn : n < 1000000) : fJ7_fill_53178 sh [(2, rf a), (0, v)] μ = some (0, fillM μ a n v) := by
  have h := l_fill (μ := μ) (v := v) hs hn n 0 (by omega)
  rw [fillM_0] at h
  have h2 : (n : Int) < 2147483648 := by omega
  simp [fJ7_fill_53178, bJ7_fill_53178, runB, retS, retZ, retV, boolE, condE, andC, orC, notC, cmpC, zC, constC, aldE, getE, locE, numE, binE, divE, unE, lenE, cvE, csE, evA, enA, en, rl, seqS, stS, stE, incS, putS, fopS, astS, aopS, exS, ifS, skipS, brkS, swS, okb, narV, rf_toNat, rf_nn, hs, h2]
  simp at h
  rw [h]
  simp
