/-! references as cell numbers; objects; first readers -/
def rf (k : Nat) : Int := (k : Int)
theorem rf_toNat (k : Nat) : (rf k).toNat = k := Int.toNat_natCast k
theorem rf_nn (k : Nat) : 0 ≤ rf k := Int.natCast_nonneg k
/-- a Lying at k: its rows are the next four cells -/
def ObLy (sh : Shp) (μ : Mem) (k : Nat) : Prop := sh[k]? = some (6, 0) ∧ sh[k + 1]? = some (100, 12) ∧ sh[k + 2]? = some (100, 12) ∧ sh[k + 3]? = some (100, 12) ∧ sh[k + 4]? = some (100, 144) ∧ μ k 2 = rf (k + 1) ∧ μ k 3 = rf (k + 2) ∧ μ k 4 = rf (k + 3) ∧ μ k 5 = rf (k + 4)
/-- a Flock at k: kind, tone, like, grass, far, then two laws -/
def ObFl (sh : Shp) (μ : Mem) (k : Nat) : Prop := sh[k]? = some (1, 0) ∧ sh[k + 1]? = some (100, 12) ∧ sh[k + 2]? = some (100, 12) ∧ sh[k + 3]? = some (100, 144) ∧ sh[k + 4]? = some (100, 6) ∧ sh[k + 5]? = some (100, 6) ∧ sh[k + 6]? = some (4, 0) ∧ sh[k + 7]? = some (100, 1000) ∧ sh[k + 8]? = some (100, 32) ∧ sh[k + 9]? = some (4, 0) ∧ sh[k + 10]? = some (100, 1000) ∧ sh[k + 11]? = some (100, 32) ∧ μ k 4 = rf (k + 1) ∧ μ k 5 = rf (k + 2) ∧ μ k 6 = rf (k + 3) ∧ μ k 7 = rf (k + 4) ∧ μ k 8 = rf (k + 5) ∧ μ k 9 = rf (k + 6) ∧ μ k 10 = rf (k + 9) ∧ μ (k + 6) 0 = rf (k + 7) ∧ μ (k + 6) 1 = rf (k + 8) ∧ μ (k + 9) 0 = rf (k + 10) ∧ μ (k + 9) 1 = rf (k + 11)
theorem f_isNew {sh : Shp} {μ : Mem} {k h b : Nat} (hk : ObLy sh μ k) (hh : ObFl sh μ h) (hb : b < 12) : fX6_isNew sh [(2, rf k), (2, rf h), (0, (b : Int))] μ = some (if μ (h + 1) b = 5 ∧ μ (k + 3) b < 3 then 1 else 0, μ) := by
  obtain ⟨k0, k1, k2, k3, k4, k5, k6, k7, k8⟩ := hk
  obtain ⟨h0, h1, h2, h3, h4, h5, h6, h7, h8, h9, h10, h11, g1, g2, g3, g4, g5, g6, g7, g8, g9, g10, g11⟩ := hh
  simp [fX6_isNew, bX6_isNew, runB, retS, retZ, retV, boolE, condE, andC, orC, notC, cmpC, zC, constC, aldE, getE, locE, numE, binE, divE, unE, lenE, cvE, csE, evA, enA, en, rl, seqS, stS, stE, incS, putS, fopS, astS, aopS, exS, ifS, skipS, brkS, swS, okb, narV, rf_toNat, rf_nn, h0, g1, h1, k0, k7, k3, hb]
  by_cases c1 : μ (h + 1) b = 5 <;> by_cases c2 : μ (k + 3) b < 3 <;> simp [c1, c2, k0, k7, k3, hb, rf_toNat, rf_nn]
def likeC (μ : Mem) (k h a b : Nat) : Int := if (μ (h + 1) a = 5 ∧ μ (k + 3) a < 3) ∨ (μ (h + 1) b = 5 ∧ μ (k + 3) b < 3) then Int.tdiv (μ (h + 3) (a * 12 + b)) 2 else μ (h + 3) (a * 12 + b)
theorem f_likes {sh : Shp} {μ : Mem} {k h a b : Nat} (hk : ObLy sh μ k) (hh : ObFl sh μ h) (ha : a < 12) (hb : b < 12) (hr : 0 ≤ μ (h + 3) (a * 12 + b) ∧ μ (h + 3) (a * 12 + b) < 100) : fX6_likes sh [(2, rf k), (2, rf h), (0, (a : Int)), (0, (b : Int))] μ = some (likeC μ k h a b, μ) := by
  have e2 : a * 12 + b < 144 := by omega
  have na := f_isNew hk hh ha
  have nb := f_isNew hk hh hb
  obtain ⟨k0, k1, k2, k3, k4, k5, k6, k7, k8⟩ := hk
  obtain ⟨h0, h1, h2, h3, h4, h5, h6, h7, h8, h9, h10, h11, g1, g2, g3, g4, g5, g6, g7, g8, g9, g10, g11⟩ := hh
  have e1 : w32 (w32 ((a : Int) * 12) + (b : Int)) = (a : Int) * 12 + b := by
    rw [w32_id (v := (a : Int) * 12) ⟨by omega, by omega⟩, w32_id ⟨by omega, by omega⟩]
  have e3 : 0 ≤ (a : Int) * 12 + b := by omega
  have e4 : (a : Int) * 12 + b < 144 := by omega
  have e5 : ((a : Int) * 12 + b).toNat = a * 12 + b := by omega
  have e6 : w32 ((μ (h + 3) (a * 12 + b)).tdiv 2) = (μ (h + 3) (a * 12 + b)).tdiv 2 := by
    rw [Int.tdiv_eq_ediv_of_nonneg hr.1]
    exact w32_id ⟨by omega, by omega⟩
  simp [fX6_likes, bX6_likes, runB, retS, retZ, retV, boolE, condE, andC, orC, notC, cmpC, zC, constC, aldE, getE, locE, numE, binE, divE, unE, lenE, cvE, csE, evA, enA, en, rl, seqS, stS, stE, incS, putS, fopS, astS, aopS, exS, ifS, skipS, brkS, swS, okb, narV, rf_toNat, rf_nn, h0, g3, h3, k0, na, nb, e1, e3, e4, e5, e6, likeC]
  by_cases c1 : μ (h + 1) a = 5 ∧ μ (k + 3) a < 3
  · simp [c1, e6]
  · by_cases c2 : μ (h + 1) b = 5 ∧ μ (k + 3) b < 3
    · simp [c1, c2, e6, nb]
    · simp [c1, c2, e6, nb]
