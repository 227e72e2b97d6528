/-! the reference's begins() -/
def MB (sh : Shp) (μ : Mem) : Prop := sh[0]? = some (12, 0) ∧ sh[15]? = some (100, 5220) ∧ sh[16]? = some (104, 4) ∧ μ 0 23 = rf 15 ∧ μ 0 25 = rf 16
def bg0 (μ : Mem) (i : Nat) : Mem := fun a b => if a = 15 ∧ b < i then 0 else μ a b
def bg1 (μ : Mem) (i : Nat) : Mem := fun a b => if a = 15 ∧ (2 ≤ b ∧ b < 2 + i ∨ 14 ≤ b ∧ b < 14 + i) then -1 else μ a b
def bg2 (μ : Mem) (i : Nat) : Mem := fun a b => if a = 16 ∧ b < i then 0 else μ a b
theorem l_bg0 {sh : Shp} {μ : Mem} (h : MB sh μ) : ∀ m i : Nat, i + m = 290 → kX12_begins_0 sh [(2, rf 0), (0, (i : Int))] (bg0 μ i) = some (0, 0, [(2, rf 0), (0, 290)], bg0 μ 290) := by
  obtain ⟨h0, h1, h2, h3, h4⟩ := h
  intro m
  induction m with
  | zero =>
    intro i hi
    have : i = 290 := by omega
    subst this
    rw [kX12_begins_0, loopS_eq]
    simp [kX12_begins_0c, runB, retS, retZ, retV, boolE, condE, andC, orC, notC, cmpC, zC, constC, aldE, getE, locE, numE, binE, divE, unE, lenE, cvE, csE, evA, enA, en, rl, seqS, stS, stE, incS, putS, fopS, astS, aopS, exS, ifS, skipS, brkS, swS, okb, narV, rf_toNat, rf_nn]
  | succ m ih =>
    intro i hi
    have h5 : (i : Int) < 290 := by omega
    have h6 : (i : Int) < 5220 := by omega
    have h6' : i < 5220 := by omega
    have e1 : w32 ((i : Int) + 1) = ((i + 1 : Nat) : Int) := by rw [w32_id ⟨by omega, by omega⟩]; omega
    have e2 : bg0 μ i 0 23 = rf 15 := by simp [bg0, h3]
    have e3 : ud (bg0 μ i) 15 i 0 = bg0 μ (i + 1) := by
      funext a b
      unfold ud bg0
      by_cases c1 : a = 15
      · by_cases c2 : b = i
        · simp [c1, c2]
        · by_cases c3 : b < i
          · simp [c1, c2, c3, (by omega : b < i + 1)]
          · simp [c1, c2, c3] <;> (intro; omega)
      · simp [c1]
    have ih := ih (i + 1) (by omega)
    rw [kX12_begins_0] at ih ⊢
    rw [loopS_eq]
    simp [kX12_begins_0c, kX12_begins_0b, kX12_begins_0u, runB, retS, retZ, retV, boolE, condE, andC, orC, notC, cmpC, zC, constC, aldE, getE, locE, numE, binE, divE, unE, lenE, cvE, csE, evA, enA, en, rl, seqS, stS, stE, incS, putS, fopS, astS, aopS, exS, ifS, skipS, brkS, swS, okb, narV, rf_toNat, rf_nn, h0, h1, e2, h5, h6, h6', e3]
    rw [e1]
    exact ih
theorem l_bg1 {sh : Shp} {μ : Mem} (h : MB sh μ) : ∀ m i : Nat, i + m = 12 → kX12_begins_1 sh [(2, rf 0), (0, (i : Int))] (bg1 μ i) = some (0, 0, [(2, rf 0), (0, 12)], bg1 μ 12) := by
  obtain ⟨h0, h1, h2, h3, h4⟩ := h
  intro m
  induction m with
  | zero =>
    intro i hi
    have : i = 12 := by omega
    subst this
    rw [kX12_begins_1, loopS_eq]
    simp [kX12_begins_1c, runB, retS, retZ, retV, boolE, condE, andC, orC, notC, cmpC, zC, constC, aldE, getE, locE, numE, binE, divE, unE, lenE, cvE, csE, evA, enA, en, rl, seqS, stS, stE, incS, putS, fopS, astS, aopS, exS, ifS, skipS, brkS, swS, okb, narV, rf_toNat, rf_nn]
  | succ m ih =>
    intro i hi
    have h5 : (i : Int) < 12 := by omega
    have h6 : (2 : Int) + i < 5220 := by omega
    have h7 : (14 : Int) + i < 5220 := by omega
    have h8 : 0 ≤ (2 : Int) + i := by omega
    have h9 : 0 ≤ (14 : Int) + i := by omega
    have g1 : ((2 : Int) + i).toNat = 2 + i := by omega
    have g2 : ((14 : Int) + i).toNat = 14 + i := by omega
    have e1 : w32 ((i : Int) + 1) = ((i + 1 : Nat) : Int) := by rw [w32_id ⟨by omega, by omega⟩]; omega
    have e4 : w32 ((2 : Int) + i) = 2 + i := w32_id ⟨by omega, by omega⟩
    have e5 : w32 ((14 : Int) + i) = 14 + i := w32_id ⟨by omega, by omega⟩
    have e2 : bg1 μ i 0 23 = rf 15 := by simp [bg1, h3]
    have e6 : ud (bg1 μ i) 15 (2 + i) (-1) 0 23 = rf 15 := by simp [ud, bg1, h3]
    have e3 : ud (ud (bg1 μ i) 15 (2 + i) (-1)) 15 (14 + i) (-1) = bg1 μ (i + 1) := by
      funext a b
      unfold ud bg1
      by_cases c1 : a = 15
      · by_cases c2 : b = 14 + i
        · simp [c1, c2]
        · by_cases c3 : b = 2 + i
          · simp [c1, c3]
          · by_cases c4 : 2 ≤ b ∧ b < 2 + i ∨ 14 ≤ b ∧ b < 14 + i
            · simp [c1, c2, c3, c4, (by omega : 2 ≤ b ∧ b < 2 + (i + 1) ∨ 14 ≤ b ∧ b < 14 + (i + 1))]
            · simp [c1, c2, c3, c4] <;> (intro; omega)
      · simp [c1]
    have ih := ih (i + 1) (by omega)
    rw [kX12_begins_1] at ih ⊢
    rw [loopS_eq]
    simp [kX12_begins_1c, kX12_begins_1b, kX12_begins_1u, runB, retS, retZ, retV, boolE, condE, andC, orC, notC, cmpC, zC, constC, aldE, getE, locE, numE, binE, divE, unE, lenE, cvE, csE, evA, enA, en, rl, seqS, stS, stE, incS, putS, fopS, astS, aopS, exS, ifS, skipS, brkS, swS, okb, narV, rf_toNat, rf_nn, h0, h1, e2, e6, h5, h6, h7, h8, h9, g1, g2, e4, e5, e3]
    rw [e1]
    exact ih
theorem nar0' : (vp_nar .boolean 0).toInt = 0 := by decide
theorem nar0 : (vp_nar .boolean (Int32.ofInt 0)).toInt = 0 := by decide
theorem l_bg2 {sh : Shp} {μ : Mem} (h : MB sh μ) : ∀ m i : Nat, i + m = 4 → kX12_begins_2 sh [(2, rf 0), (0, (i : Int))] (bg2 μ i) = some (0, 0, [(2, rf 0), (0, 4)], bg2 μ 4) := by
  obtain ⟨h0, h1, h2, h3, h4⟩ := h
  intro m
  induction m with
  | zero =>
    intro i hi
    have : i = 4 := by omega
    subst this
    rw [kX12_begins_2, loopS_eq]
    simp [kX12_begins_2c, runB, retS, retZ, retV, boolE, condE, andC, orC, notC, cmpC, zC, constC, aldE, getE, locE, numE, binE, divE, unE, lenE, cvE, csE, evA, enA, en, rl, seqS, stS, stE, incS, putS, fopS, astS, aopS, exS, ifS, skipS, brkS, swS, okb, narV, rf_toNat, rf_nn]
  | succ m ih =>
    intro i hi
    have h5 : (i : Int) < 4 := by omega
    have h5' : i < 4 := by omega
    have e1 : w32 ((i : Int) + 1) = ((i + 1 : Nat) : Int) := by rw [w32_id ⟨by omega, by omega⟩]; omega
    have e2 : bg2 μ i 0 25 = rf 16 := by simp [bg2, h4]
    have e3 : ud (bg2 μ i) 16 i 0 = bg2 μ (i + 1) := by
      funext a b
      unfold ud bg2
      by_cases c1 : a = 16
      · by_cases c2 : b = i
        · simp [c1, c2]
        · by_cases c3 : b < i
          · simp [c1, c2, c3, (by omega : b < i + 1)]
          · simp [c1, c2, c3] <;> (intro; omega)
      · simp [c1]
    have ih := ih (i + 1) (by omega)
    rw [kX12_begins_2] at ih ⊢
    rw [loopS_eq]
    simp [kX12_begins_2c, kX12_begins_2b, kX12_begins_2u, runB, retS, retZ, retV, boolE, condE, andC, orC, notC, cmpC, zC, constC, aldE, getE, locE, numE, binE, divE, unE, lenE, cvE, csE, evA, enA, en, rl, seqS, stS, stE, incS, putS, fopS, astS, aopS, exS, ifS, skipS, brkS, swS, okb, narV, rf_toNat, rf_nn, h0, h2, e2, h5, h5', nar0, nar0', e3]
    rw [e1]
    exact ih
def bgM (μ : Mem) : Mem := bg2 (ud (bg1 (bg0 μ 290) 12) 0 24 0) 4
theorem f_begins {sh : Shp} {μ : Mem} (h : MB sh μ) : fX12_begins sh [(2, rf 0)] μ = some (0, bgM μ) := by
  have q0 : bg0 μ 0 = μ := by funext a b; simp [bg0]
  have q1 : ∀ μ, bg1 μ 0 = μ := by intro μ; funext a b; simp [bg1]; omega
  have q2 : ∀ μ, bg2 μ 0 = μ := by intro μ; funext a b; simp [bg2]
  have a0 := l_bg0 h 290 0 rfl
  have h1 : MB sh (bg0 μ 290) := ⟨h.1, h.2.1, h.2.2.1, by simp [bg0, h.2.2.2.1], by simp [bg0, h.2.2.2.2]⟩
  have a1 := l_bg1 h1 12 0 rfl
  have h2 : MB sh (ud (bg1 (bg0 μ 290) 12) 0 24 0) := ⟨h.1, h.2.1, h.2.2.1, by simp [ud, bg1, bg0, h.2.2.2.1], by simp [ud, bg1, bg0, h.2.2.2.2]⟩
  have a2 := l_bg2 h2 4 0 rfl
  rw [q0] at a0
  rw [q1] at a1
  rw [q2] at a2
  simp at a0 a1 a2
  simp [fX12_begins, bX12_begins, runB, retS, retZ, retV, boolE, condE, andC, orC, notC, cmpC, zC, constC, aldE, getE, locE, numE, binE, divE, unE, lenE, cvE, csE, evA, enA, en, rl, seqS, stS, stE, incS, putS, fopS, astS, aopS, exS, ifS, skipS, brkS, swS, okb, narV, rf_toNat, rf_nn, h.1, a0, a1, a2, bgM]
