/-! a law under way: both -/
set_option maxRecDepth 100000 in theorem dpt_congr {op op' : Nat → Int} {t : Nat} : ∀ j, (∀ i, i < j → op' (t + i) = op (t + i)) → dpt op' t j = dpt op t j
  | 0, _ => rfl
  | j + 1, h => by
    show dpt op' t j + _ = dpt op t j + _
    rw [dpt_congr j (fun i hi => h i (by omega)), h j (by omega)]
def upO (o D : Int) : Prop := 0 ≤ D ∧ (o = 1 ∨ o = 2 → D < 32) ∧ (o = 3 → 1 ≤ D) ∧ (¬ (o = 1 ∨ o = 2) → o ≠ 3 → 2 ≤ D)
def LwP (μC μM : Mem) (cc : Nat) (W : List Int) (t j : Nat) (D : Int) : Prop := μC cc 2 = (j : Int) ∧ (∀ i, i < j → μC (cc + 1) i = enI W (opD μM (t + i)) (agD μM (t + i))) ∧ (∀ i, i < j → inOK W (opD μM (t + i)) (agD μM (t + i))) ∧ (∀ i, i < j → upO (opD μM (t + i)) (dpt (opD μM) t i)) ∧ dpt (opD μM) t j = D
set_option maxRecDepth 100000 in theorem LwP.of {μC μM μC' μM' : Mem} {cc t j : Nat} {W : List Int} {D : Int} (L : LwP μC μM cc W t j D) (e2 : μC' cc 2 = μC cc 2) (eC : ∀ i, i < j → μC' (cc + 1) i = μC (cc + 1) i) (e7 : ∀ i, i < j → opD μM' (t + i) = opD μM (t + i)) (e8 : ∀ i, i < j → agD μM' (t + i) = agD μM (t + i)) : LwP μC' μM' cc W t j D := by
  obtain ⟨h1, h2, h3, h4, h5⟩ := L
  refine ⟨e2.trans h1, fun i hi => by rw [eC i hi, e7 i hi, e8 i hi]; exact h2 i hi, fun i hi => by rw [e7 i hi, e8 i hi]; exact h3 i hi, fun i hi => ?_, (dpt_congr j e7).trans h5⟩
  rw [e7 i hi, dpt_congr i (fun k hk => e7 k (by omega))]
  exact h4 i hi
set_option maxRecDepth 100000 in theorem LwP.add {μC μM μC' μM' : Mem} {cc t j : Nat} {W : List Int} {D o v : Int} (L : LwP μC μM cc W t j D) (e2 : μC' cc 2 = ((j + 1 : Nat) : Int)) (ej : μC' (cc + 1) j = enI W o v) (eC : ∀ i, i < j → μC' (cc + 1) i = μC (cc + 1) i) (o7 : opD μM' (t + j) = o) (o8 : agD μM' (t + j) = v) (e7 : ∀ i, i < j → opD μM' (t + i) = opD μM (t + i)) (e8 : ∀ i, i < j → agD μM' (t + i) = agD μM (t + i)) (ok : inOK W o v) (up : upO o D) : LwP μC' μM' cc W t (j + 1) (D + (if o = 1 ∨ o = 2 then 1 else if o = 3 then 0 else -1)) := by
  obtain ⟨h1, h2, h3, h4, h5⟩ := L
  have dj : dpt (opD μM') t j = D := (dpt_congr j e7).trans h5
  refine ⟨e2, fun i hi => ?_, fun i hi => ?_, fun i hi => ?_, ?_⟩
  · by_cases e : i = j
    · rw [e, ej, o7, o8]
    · rw [eC i (by omega), e7 i (by omega), e8 i (by omega)]; exact h2 i (by omega)
  · by_cases e : i = j
    · rw [e, o7, o8]; exact ok
    · rw [e7 i (by omega), e8 i (by omega)]; exact h3 i (by omega)
  · by_cases e : i = j
    · rw [e, o7, dj]; exact up
    · rw [e7 i (by omega), dpt_congr i (fun k hk => e7 k (by omega))]; exact h4 i (by omega)
  · show dpt (opD μM') t j + (if opD μM' (t + j) = 1 ∨ opD μM' (t + j) = 2 then 1 else if opD μM' (t + j) = 3 then 0 else -1) = _
    rw [dj, o7]
set_option maxRecDepth 100000 in theorem RDq.law {μ : Mem} {c : Nat → Int} {N d a cc : Nat} (q : RDq μ c N d a) (hc : cc = d + 6 ∨ cc = d + 9) : ObLaw shC μ cc := by
  obtain ⟨o0, o1, o2, o3, o4, o5, o6, o7, o8, o9, o10, o11, o12, o13, o14, o15, o16, o17, o18, o19, o20, o21, o22⟩ := q.2.2.2.2.2.2.2
  rcases hc with rfl | rfl
  · exact ⟨o6, o7, o8, o19, o20⟩
  · exact ⟨o9, o10, o11, o21, o22⟩
def wkD (W : List Int) (s : Int) (cc d : Nat) : Prop := (s = 0 ∧ W = lieW ∧ cc = d + 6) ∨ (s = 1 ∧ W = strW ∧ cc = d + 9)
set_option maxRecDepth 100000 in theorem wkD.c {W : List Int} {s : Int} {cc d : Nat} (h : wkD W s cc d) : cc = d + 6 ∨ cc = d + 9 := by
  rcases h with ⟨-, -, h⟩ | ⟨-, -, h⟩
  · exact .inl h
  · exact .inr h
def LwS (mC mM bC bM : Mem) (c : Nat → Int) (N T d cc : Nat) (W : List Int) (t : Nat) (s : Int) (μC μM : Mem) (a j : Nat) (D : Int) : Prop := PF mC mM μC μM c N T d a (t + j) ∧ wkD W s cc d ∧ μC 27 4 = rf cc ∧ μM 0 18 = s ∧ LwP μC μM cc W t j D ∧ (∀ x y, ¬ ((x = 1 ∧ 2 ≤ y) ∨ (x = cc ∧ y = 2) ∨ x = cc + 1 ∨ (x = 27 ∧ y = 5)) → μC x y = bC x y) ∧ ∀ x y, ¬ ((x = 0 ∧ (y = 7 ∨ y = 8 ∨ y = 13)) ∨ ((x = 7 ∨ x = 8) ∧ 1100 + t ≤ y)) → μM x y = bM x y
def FX (mC mM : Mem) (c : Nat → Int) (N T d t : Nat) (a0 j0 : Nat) (μC μM : Mem) : Prop := ∃ (F : Int) (a K : Nat), 0 < F ∧ μC 27 5 = F ∧ μM 0 8 = F ∧ MDq μM c N T a ∧ μM 0 13 = (K : Int) ∧ K + a0 ≤ t + j0 + a ∧ a0 ≤ a ∧ (∀ x y, ¬ ZC d x y → μC x y = mC x y) ∧ ∀ x y, ¬ ZM x y → μM x y = mM x y
def LO (mC mM bC bM : Mem) (c : Nat → Int) (N T d cc : Nat) (W : List Int) (t : Nat) (s : Int) (a j : Nat) (D : Int) (rC rM : Option (Int × Mem)) : Prop := (∃ a' j' μC μM, rC = some (1, μC) ∧ rM = some (0, μM) ∧ LwS mC mM bC bM c N T d cc W t s μC μM a' j' (D + 1) ∧ a ≤ a' ∧ j' + a ≤ j + a') ∨ (∃ μC μM, rC = some (0, μC) ∧ rM = some (0, μM) ∧ FX mC mM c N T d t a j μC μM)
set_option maxRecDepth 100000 in theorem FX.le {mC mM μC μM : Mem} {c : Nat → Int} {N T d t a j a1 j1 : Nat} (h : FX mC mM c N T d t a1 j1 μC μM) (h1 : a ≤ a1) (h2 : j1 + a ≤ j + a1) : FX mC mM c N T d t a j μC μM := by
  obtain ⟨F, b, K, g1, g2, g3, g4, g5, g6, g7, g8, g9⟩ := h
  exact ⟨F, b, K, g1, g2, g3, g4, g5, by omega, by omega, g8, g9⟩
set_option maxRecDepth 100000 in theorem LwS.fx {mC mM bC bM μC μM : Mem} {c : Nat → Int} {N T d cc t a j : Nat} {W : List Int} {s D : Int} (h : LwS mC mM bC bM c N T d cc W t s μC μM a j D) {k : Int} (hk : 1 ≤ k) : FX mC mM c N T d t a j (ud μC 27 5 (ftA c N a k)) (ud μM 0 8 (ftA c N a k)) := by
  have h := h.1
  refine ⟨ftA c N a k, a, t + j, ft_pos hk, ud_s, ud_s, h.mq.of (fun x y hx => by rw [ud_n (by omega)]) (by rw [ud_n (by omega)]; exact h.a7) h.la.1, by rw [ud_n (by omega)]; exact h.k0, by omega, Nat.le_refl _, fun x y hx => ?_, fun x y hx => ?_⟩
  · rw [ud_n (fun z => hx (by unfold ZC; omega))]
    exact h.fc x y hx
  · rw [ud_n (fun z => hx (by unfold ZM; omega))]
    exact h.fm x y hx
set_option maxRecDepth 100000 in theorem FX.emit {mC mM μC μM : Mem} {c : Nat → Int} {N T d t a j a1 : Nat} {o v : Int} (h : FX mC mM c N T d t a1 j μC μM) (h1 : a + 1 ≤ a1) (hta : t + j ≤ a1) (hN : T ≤ 1000) : ∃ μM', fX12_emit shM [(2, rf 0), (0, o), (0, v)] μM = some (0, μM') ∧ FX mC mM c N T d t a j μC μM' ∧ μM' 0 8 = μM 0 8 ∧ 0 < μM 0 8 ∧ ∃ b, MDq μM' c N T b := by
  obtain ⟨F, b, K, g1, g2, g3, g4, g5, g6, g7, g8, g9⟩ := h
  have bT := g4.2.2.2.2.2.2.2.2
  have e := r_emit (o := o) (v := v) g4.1 g5 (by omega)
  have q : MDq (emM μM K o v) c N T b := g4.of (fun x y hx => by unfold emM; rw [ud_n (by omega), ud_n (by omega), ud_n (by omega)]) (by unfold emM; rw [ud_n (by omega), ud_n (by omega), ud_n (by omega)]; exact g4.2.2.2.2.2.2.2.1) bT
  have e8 : emM μM K o v 0 8 = μM 0 8 := by unfold emM; rw [ud_n (by omega), ud_n (by omega), ud_n (by omega)]
  refine ⟨emM μM K o v, e, ⟨F, b, K + 1, g1, g2, by rw [e8]; exact g3, q, by unfold emM; rw [ud_s]; omega, by omega, by omega, g8, fun x y hx => ?_⟩, e8, by rw [g3]; exact g1, b, q⟩
  unfold emM
  rw [ud_n (fun z => hx (by unfold ZM; omega)), ud_n (fun z => hx (by unfold ZM; omega)), ud_n (fun z => hx (by unfold ZM; omega))]
  exact g9 x y hx
set_option maxRecDepth 100000 in theorem LwS.emit {mC mM bC bM μC μM : Mem} {c : Nat → Int} {N T d cc t a j : Nat} {W : List Int} {s D o v : Int} (h : LwS mC mM bC bM c N T d cc W t s μC μM a j D) (hj : t + j + 1 ≤ a) (ok : inOK W o v) (up : upO o D) : fX12_emit shM [(2, rf 0), (0, o), (0, v)] μM = some (0, emM μM (t + j) o v) ∧ LwS mC mM bC bM c N T d cc W t s (ud (ud μC (cc + 1) j (enI W o v)) cc 2 ((j + 1 : Nat) : Int)) (emM μM (t + j) o v) a (j + 1) (D + (if o = 1 ∨ o = 2 then 1 else if o = 3 then 0 else -1)) := by
  obtain ⟨p, w, q4, q18, L, fC, fM⟩ := h
  have hc := w.c
  have hd := p.rq.1
  have la := p.la
  refine ⟨r_emit p.mq.1 p.k0 (by omega), ⟨?_, ?_, p.f0 ▸ ?_, ?_, ?_, ?_, ?_⟩, w, ?_, ?_, ?_, ?_, ?_⟩
  · exact p.rq.of (fun x y hx => by rw [ud_n (by omega), ud_n (by omega)])
  · exact p.mq.of (fun x y hx => by unfold emM; rw [ud_n (by omega), ud_n (by omega), ud_n (by omega)]) (by unfold emM; rw [ud_n (by omega), ud_n (by omega), ud_n (by omega)]; exact p.a7) la.1
  · unfold emM; rw [ud_n (by omega), ud_n (by omega), ud_n (by omega)]
  · unfold emM; rw [ud_s]; omega
  · omega
  · intro x y hx
    rw [ud_n (fun z => hx (by unfold ZC; omega)), ud_n (fun z => hx (by unfold ZC; omega))]
    exact p.fc x y hx
  · intro x y hx
    unfold emM
    rw [ud_n (fun z => hx (by unfold ZM; omega)), ud_n (fun z => hx (by unfold ZM; omega)), ud_n (fun z => hx (by unfold ZM; omega))]
    exact p.fm x y hx
  · rw [ud_n (by omega), ud_n (by omega)]; exact q4
  · unfold emM; rw [ud_n (by omega), ud_n (by omega), ud_n (by omega)]; exact q18
  · refine L.add ud_s (by rw [ud_n (by omega), ud_s]) (fun i hi => by rw [ud_n (by omega), ud_n (by omega)]) ?_ ?_ (fun i hi => ?_) (fun i hi => ?_) ok up
    · show emM μM (t + j) o v 7 (1100 + (t + j)) = o
      unfold emM; rw [ud_n (by omega), ud_n (by omega), ud_s]
    · show emM μM (t + j) o v 8 (1100 + (t + j)) = v
      unfold emM; rw [ud_n (by omega), ud_s]
    · show emM μM (t + j) o v 7 (1100 + (t + i)) = μM 7 (1100 + (t + i))
      unfold emM; rw [ud_n (by omega), ud_n (by omega), ud_n (by omega)]
    · show emM μM (t + j) o v 8 (1100 + (t + i)) = μM 8 (1100 + (t + i))
      unfold emM; rw [ud_n (by omega), ud_n (by omega), ud_n (by omega)]
  · intro x y hx
    rw [ud_n (by omega), ud_n (by omega)]
    exact fC x y hx
  · intro x y hx
    unfold emM
    rw [ud_n (by omega), ud_n (by omega), ud_n (by omega)]
    exact fM x y hx
set_option maxRecDepth 100000 in theorem LwS.cc {mC mM bC bM μC μM : Mem} {c : Nat → Int} {N T d cc t a j : Nat} {W : List Int} {s D : Int} (h : LwS mC mM bC bM c N T d cc W t s μC μM a j D) : ObLaw shC μC cc ∧ μC cc 2 = (j : Int) := ⟨h.1.rq.law h.2.1.c, h.2.2.2.2.1.1⟩
set_option maxRecDepth 100000 in theorem LwS.adv {mC mM bC bM μC μM : Mem} {c : Nat → Int} {N T d cc t a j : Nat} {W : List Int} {s D : Int} (h : LwS mC mM bC bM c N T d cc W t s μC μM a j D) (ha : a < T) : ∃ μC', fX10_next shC [(2, rf 1)] μC = some (0, μC') ∧ LwS mC mM bC bM c N T d cc W t s μC' (ud μM 0 7 ((a : Int) + 1)) (a + 1) j D := by
  obtain ⟨p, w, q4, q18, L, fC, fM⟩ := h
  have hc := w.c
  have hd := p.rq.1
  obtain ⟨m, e, p', E⟩ := p.adv ha
  refine ⟨m, e, p', w, by rw [E _ _ (by omega)]; exact q4, by rw [ud_n (by omega)]; exact q18, L.of (E _ _ (by omega)) (fun i hi => E _ _ (by omega)) (fun i hi => ?_) (fun i hi => ?_), fun x y hx => ?_, fun x y hx => ?_⟩
  · show ud μM 0 7 ((a : Int) + 1) 7 (1100 + (t + i)) = μM 7 (1100 + (t + i))
    rw [ud_n (by omega)]
  · show ud μM 0 7 ((a : Int) + 1) 8 (1100 + (t + i)) = μM 8 (1100 + (t + i))
    rw [ud_n (by omega)]
  · rw [E _ _ (by omega)]; exact fC x y hx
  · rw [ud_n (by omega)]; exact fM x y hx
