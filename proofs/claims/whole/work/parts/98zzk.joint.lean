/-! reading: both sides held against each other -/
def ZC (d x y : Nat) : Prop := (x = 1 ∧ 2 ≤ y) ∨ (x = 27 ∧ 3 ≤ y) ∨ x = 28 ∨ x = 29 ∨ (x = d ∧ y < 4) ∨ (d + 1 ≤ x ∧ x ≤ d + 5) ∨ (x = d + 6 ∧ 2 ≤ y) ∨ x = d + 7 ∨ (x = d + 9 ∧ 2 ≤ y) ∨ x = d + 10
def ZM (x y : Nat) : Prop := (x = 0 ∧ (y = 7 ∨ y = 8 ∨ y = 13 ∨ y = 14 ∨ y = 17 ∨ y = 18)) ∨ (x = 6 ∧ 190 ≤ y) ∨ (x = 7 ∧ 1100 ≤ y) ∨ (x = 8 ∧ 1100 ≤ y) ∨ x = 9 ∨ x = 10
def PF (mC mM μC μM : Mem) (c : Nat → Int) (N T d a K : Nat) : Prop := RDq μC c N d a ∧ MDq μM c N T a ∧ μM 0 8 = 0 ∧ μM 0 13 = (K : Int) ∧ K ≤ a ∧ (∀ x y, ¬ ZC d x y → μC x y = mC x y) ∧ ∀ x y, ¬ ZM x y → μM x y = mM x y
set_option maxRecDepth 100000 in theorem PF.rq {mC mM μC μM : Mem} {c : Nat → Int} {N T d a K : Nat} (h : PF mC mM μC μM c N T d a K) : RDq μC c N d a := h.1
set_option maxRecDepth 100000 in theorem PF.mq {mC mM μC μM : Mem} {c : Nat → Int} {N T d a K : Nat} (h : PF mC mM μC μM c N T d a K) : MDq μM c N T a := h.2.1
set_option maxRecDepth 100000 in theorem PF.f0 {mC mM μC μM : Mem} {c : Nat → Int} {N T d a K : Nat} (h : PF mC mM μC μM c N T d a K) : μM 0 8 = 0 := h.2.2.1
set_option maxRecDepth 100000 in theorem PF.k0 {mC mM μC μM : Mem} {c : Nat → Int} {N T d a K : Nat} (h : PF mC mM μC μM c N T d a K) : μM 0 13 = (K : Int) := h.2.2.2.1
set_option maxRecDepth 100000 in theorem PF.ka {mC mM μC μM : Mem} {c : Nat → Int} {N T d a K : Nat} (h : PF mC mM μC μM c N T d a K) : K ≤ a := h.2.2.2.2.1
set_option maxRecDepth 100000 in theorem PF.fc {mC mM μC μM : Mem} {c : Nat → Int} {N T d a K : Nat} (h : PF mC mM μC μM c N T d a K) : ∀ x y, ¬ ZC d x y → μC x y = mC x y := h.2.2.2.2.2.1
set_option maxRecDepth 100000 in theorem PF.fm {mC mM μC μM : Mem} {c : Nat → Int} {N T d a K : Nat} (h : PF mC mM μC μM c N T d a K) : ∀ x y, ¬ ZM x y → μM x y = mM x y := h.2.2.2.2.2.2
set_option maxRecDepth 100000 in theorem PF.a7 {mC mM μC μM : Mem} {c : Nat → Int} {N T d a K : Nat} (h : PF mC mM μC μM c N T d a K) : μM 0 7 = (a : Int) := h.mq.2.2.2.2.2.2.2.1
set_option maxRecDepth 100000 in theorem PF.la {mC mM μC μM : Mem} {c : Nat → Int} {N T d a K : Nat} (h : PF mC mM μC μM c N T d a K) : a ≤ T ∧ T ≤ 1000 := ⟨h.mq.2.2.2.2.2.2.2.2, Nat.le_trans h.mq.2.2.2.2.1 h.mq.2.2.2.2.2.1⟩
set_option maxRecDepth 100000 in theorem PF.lt {mC mM μC μM : Mem} {c : Nat → Int} {N T d a K : Nat} (h : PF mC mM μC μM c N T d a K) (t : tkA c N a ≠ 26) : a < T := by
  have e := h.mq.end_
  have l := h.la.1
  rcases Nat.lt_or_ge a T with q | q
  · exact q
  · exact absurd (e.mpr (by omega)) t
set_option maxRecDepth 100000 in theorem PF.cls {mC mM μC μC' μM : Mem} {c : Nat → Int} {N T d a K : Nat} (h : PF mC mM μC μM c N T d a K) (e : ∀ x y, ¬ (ZC d x y ∧ x ≠ 1 ∧ ¬ (x = 27 ∧ y < 4)) → μC' x y = μC x y) : PF mC mM μC' μM c N T d a K := by
  have hd := h.rq.1
  refine ⟨h.rq.of (fun x y hx => e x y (by unfold ZC; omega)), h.mq, h.f0, h.k0, h.ka, fun x y hx => ?_, h.fm⟩
  rw [e x y (fun z => hx z.1)]
  exact h.fc x y hx
set_option maxRecDepth 100000 in theorem PF.ref {mC mM μC μM μM' : Mem} {c : Nat → Int} {N T d a K : Nat} (h : PF mC mM μC μM c N T d a K) (e : ∀ x y, ¬ ((x = 6 ∧ 190 ≤ y) ∨ x = 9 ∨ x = 10 ∨ (x = 0 ∧ (y = 14 ∨ y = 17 ∨ y = 18))) → μM' x y = μM x y) : PF mC mM μC μM' c N T d a K := by
  refine ⟨h.rq, h.mq.of (fun x y hx => e x y (by omega)) (by rw [e _ _ (by omega)]; exact h.a7) h.la.1, by rw [e _ _ (by omega)]; exact h.f0, by rw [e _ _ (by omega)]; exact h.k0, h.ka, h.fc, fun x y hx => ?_⟩
  rw [e x y (fun z => hx (by unfold ZM; omega))]
  exact h.fm x y hx
set_option maxRecDepth 100000 in theorem PF.adv {mC mM μC μM : Mem} {c : Nat → Int} {N T d a K : Nat} (h : PF mC mM μC μM c N T d a K) (ha : a < T) : ∃ μC', fX10_next shC [(2, rf 1)] μC = some (0, μC') ∧ PF mC mM μC' (ud μM 0 7 ((a : Int) + 1)) c N T d (a + 1) K ∧ ∀ x y, ¬ (x = 1 ∧ 2 ≤ y) → μC' x y = μC x y := by
  have hd := h.rq.1
  obtain ⟨μC', e, q, D⟩ := h.rq.next
  refine ⟨μC', e, ⟨q, h.mq.of (fun x y hx => by rw [ud_n (by omega)]) (by rw [ud_s]; omega) (by omega), by rw [ud_n (by omega)]; exact h.f0, by rw [ud_n (by omega)]; exact h.k0, by have := h.ka; omega, fun x y hx => ?_, fun x y hx => ?_⟩, D⟩
  · rw [D x y (fun z => hx (by unfold ZC; omega))]
    exact h.fc x y hx
  · rw [ud_n (fun z => hx (by unfold ZM; omega))]
    exact h.fm x y hx
def FO (mC mM μC μM : Mem) (c : Nat → Int) (N T d : Nat) : Prop := ∃ (F : Int) (a K : Nat), 0 < F ∧ μC 27 5 = F ∧ μM 0 8 = F ∧ MDq μM c N T a ∧ μM 0 13 = (K : Int) ∧ K ≤ a ∧ (∀ x y, ¬ ZC d x y → μC x y = mC x y) ∧ ∀ x y, ¬ ZM x y → μM x y = mM x y
set_option maxRecDepth 100000 in theorem ft_pos {c : Nat → Int} {N a : Nat} {k : Int} (h : 1 ≤ k) : 0 < ftA c N a k := by unfold ftA; omega
set_option maxRecDepth 100000 in theorem PF.fo {mC mM μC μM : Mem} {c : Nat → Int} {N T d a K : Nat} (h : PF mC mM μC μM c N T d a K) {k : Int} (hk : 1 ≤ k) : FO mC mM (ud μC 27 5 (ftA c N a k)) (ud μM 0 8 (ftA c N a k)) c N T d := by
  refine ⟨ftA c N a k, a, K, ft_pos hk, ud_s, ud_s, h.mq.of (fun x y hx => by rw [ud_n (by omega)]) (by rw [ud_n (by omega)]; exact h.a7) h.la.1, by rw [ud_n (by omega)]; exact h.k0, h.ka, fun x y hx => ?_, fun x y hx => ?_⟩
  · rw [ud_n (fun z => hx (by unfold ZC; omega))]
    exact h.fc x y hx
  · rw [ud_n (fun z => hx (by unfold ZM; omega))]
    exact h.fm x y hx
set_option maxRecDepth 100000 in theorem FO.ref {mC mM μC μM μM' : Mem} {c : Nat → Int} {N T d : Nat} (h : FO mC mM μC μM c N T d) (e : ∀ x y, ¬ ((x = 6 ∧ 190 ≤ y) ∨ x = 9 ∨ x = 10 ∨ (x = 0 ∧ (y = 14 ∨ y = 17 ∨ y = 18))) → μM' x y = μM x y) : FO mC mM μC μM' c N T d := by
  obtain ⟨F, a, K, h1, h2, h3, h4, h5, h6, h7, h8⟩ := h
  refine ⟨F, a, K, h1, h2, by rw [e _ _ (by omega)]; exact h3, h4.of (fun x y hx => e x y (by omega)) (by rw [e _ _ (by omega)]; exact h4.2.2.2.2.2.2.2.1) h4.2.2.2.2.2.2.2.2, by rw [e _ _ (by omega)]; exact h5, h6, h7, fun x y hx => ?_⟩
  rw [e x y (fun z => hx (by unfold ZM; omega))]
  exact h8 x y hx
def fld (μ : Mem) : Nat → Int := fun i => μ 6 (190 + i)
def opD (μ : Mem) : Nat → Int := fun i => μ 7 (1100 + i)
def agD (μ : Mem) : Nat → Int := fun i => μ 8 (1100 + i)
/-- the names told -/
def NR (μC μM : Mem) (c : Nat → Int) (N T n M : Nat) : Prop := μM 0 17 = ((n + M : Nat) : Int) ∧ (∀ k, k < n + M → ∃ t, t < T ∧ rsA c N t = 1 ∧ μM 9 k = rvA c N t ∧ ((∃ b : Nat, b < n ∧ μM 10 k = (b : Int) ∧ μC 28 b = nmA c N t) ∨ (∃ m : Nat, m < M ∧ μM 10 k = 12 + (m : Int) ∧ μC 29 m = nmA c N t))) ∧ (∀ b : Nat, b < n → ∃ k, k < n + M ∧ μM 10 k = (b : Int)) ∧ (∀ m : Nat, m < M → ∃ k, k < n + M ∧ μM 10 k = 12 + (m : Int)) ∧ (∀ a b, a < n → b < n → μC 28 a = μC 28 b → a = b) ∧ (∀ b m, b < n → m < M → μC 28 b ≠ μC 29 m)
/-- a law, told or not -/
def LT (μ : Mem) (cc : Nat) (W : List Int) (D : Int) (op arg : Nat → Int) (s : Int) (K : Nat) : Prop := (s = -1 ∧ μ cc 3 = 0 ∧ μ cc 2 = 1 ∧ μ (cc + 1) 0 = D) ∨ (μ cc 3 = 1 ∧ ∃ t n : Nat, s = (t : Int) ∧ PG W op arg t n ∧ t + n < K ∧ μ cc 2 = (n : Int) ∧ ∀ i, i < n → μ (cc + 1) i = enI W (op (t + i)) (arg (t + i)))
set_option maxRecDepth 100000 in theorem LT.cls {μ μ' : Mem} {cc K : Nat} {W : List Int} {D s : Int} {op arg : Nat → Int} (q : LT μ cc W D op arg s K) (e : ∀ x y, (x = cc ∧ 2 ≤ y) ∨ x = cc + 1 → μ' x y = μ x y) : LT μ' cc W D op arg s K := by
  rcases q with ⟨h1, h2, h3, h4⟩ | ⟨h0, t, n, h1, h2, h3, h4, h5⟩
  · exact .inl ⟨h1, by rw [e _ _ (by omega)]; exact h2, by rw [e _ _ (by omega)]; exact h3, by rw [e _ _ (by omega)]; exact h4⟩
  · exact .inr ⟨by rw [e _ _ (by omega)]; exact h0, t, n, h1, h2, h3, by rw [e _ _ (by omega)]; exact h4, fun i hi => by rw [e _ _ (by omega)]; exact h5 i hi⟩
/-- what is told so far -/
def CN (μC μM : Mem) (c : Nat → Int) (N T d n P M K : Nat) : Prop := (μM 0 14 = μC 27 6 ∧ (μC 27 6 = 0 ∨ μC 27 6 = 1)) ∧ FB (fld μM) n P M ∧ FR μC d (fld μM) n M ∧ (∀ a b, a < 12 → b < 12 → (n ≤ a ∨ n ≤ b) → fld μM (27 + 12 * a + b) = 0) ∧ NR μC μM c N T n M ∧ LT μC (d + 6) lieW (-19) (opD μM) (agD μM) (fld μM 183) K ∧ LT μC (d + 9) strW (-7) (opD μM) (agD μM) (fld μM 184) K
set_option maxRecDepth 100000 in theorem CN.fb {μC μM : Mem} {c : Nat → Int} {N T d n P M K : Nat} (h : CN μC μM c N T d n P M K) : FB (fld μM) n P M := h.2.1
set_option maxRecDepth 100000 in theorem CN.fr {μC μM : Mem} {c : Nat → Int} {N T d n P M K : Nat} (h : CN μC μM c N T d n P M K) : FR μC d (fld μM) n M := h.2.2.1
set_option maxRecDepth 100000 in theorem CN.lz {μC μM : Mem} {c : Nat → Int} {N T d n P M K : Nat} (h : CN μC μM c N T d n P M K) : ∀ a b, a < 12 → b < 12 → (n ≤ a ∨ n ≤ b) → fld μM (27 + 12 * a + b) = 0 := h.2.2.2.1
set_option maxRecDepth 100000 in theorem CN.nr {μC μM : Mem} {c : Nat → Int} {N T d n P M K : Nat} (h : CN μC μM c N T d n P M K) : NR μC μM c N T n M := h.2.2.2.2.1
set_option maxRecDepth 100000 in theorem CN.ll {μC μM : Mem} {c : Nat → Int} {N T d n P M K : Nat} (h : CN μC μM c N T d n P M K) : LT μC (d + 6) lieW (-19) (opD μM) (agD μM) (fld μM 183) K := h.2.2.2.2.2.1
set_option maxRecDepth 100000 in theorem CN.ls {μC μM : Mem} {c : Nat → Int} {N T d n P M K : Nat} (h : CN μC μM c N T d n P M K) : LT μC (d + 9) strW (-7) (opD μM) (agD μM) (fld μM 184) K := h.2.2.2.2.2.2
set_option maxRecDepth 100000 in theorem NR.of {μC μM μC' μM' : Mem} {c : Nat → Int} {N T n M : Nat} (h : NR μC μM c N T n M) (e1 : ∀ x y, x = 28 ∨ x = 29 → μC' x y = μC x y) (e2 : ∀ x y, x = 9 ∨ x = 10 ∨ (x = 0 ∧ y = 17) → μM' x y = μM x y) : NR μC' μM' c N T n M := by
  obtain ⟨h1, h2, h3, h4, h5, h6⟩ := h
  refine ⟨by rw [e2 _ _ (by omega)]; exact h1, fun k hk => ?_, fun b hb => ?_, fun b hb => ?_, fun a b ha hb hh => ?_, fun b m hb hm => by rw [e1 _ _ (by omega), e1 _ _ (by omega)]; exact h6 b m hb hm⟩
  · obtain ⟨t, g1, g2, g3, g4⟩ := h2 k hk
    refine ⟨t, g1, g2, by rw [e2 _ _ (by omega)]; exact g3, ?_⟩
    rcases g4 with ⟨b, i1, i2, i3⟩ | ⟨b, i1, i2, i3⟩
    · exact .inl ⟨b, i1, by rw [e2 _ _ (by omega)]; exact i2, by rw [e1 _ _ (by omega)]; exact i3⟩
    · exact .inr ⟨b, i1, by rw [e2 _ _ (by omega)]; exact i2, by rw [e1 _ _ (by omega)]; exact i3⟩
  · obtain ⟨k, g1, g2⟩ := h3 b hb
    exact ⟨k, g1, by rw [e2 _ _ (by omega)]; exact g2⟩
  · obtain ⟨k, g1, g2⟩ := h4 b hb
    exact ⟨k, g1, by rw [e2 _ _ (by omega)]; exact g2⟩
  · rw [e1 _ _ (by omega), e1 _ _ (by omega)] at hh
    exact h5 a b ha hb hh
set_option maxRecDepth 100000 in theorem CN.of {μC μM μC' μM' : Mem} {c : Nat → Int} {N T d n P M K : Nat} (h : CN μC μM c N T d n P M K) (hd : d = 3 ∨ d = 15) (e1 : ∀ x y, ¬ ((x = 1 ∧ 2 ≤ y) ∨ (x = 27 ∧ (y = 4 ∨ y = 5))) → μC' x y = μC x y) (e2 : ∀ x y, ¬ (x = 0 ∧ (y = 7 ∨ y = 8 ∨ y = 18)) → μM' x y = μM x y) : CN μC' μM' c N T d n P M K := by
  have q6 : fld μM' = fld μM := funext (fun i => e2 _ _ (by omega))
  have q7 : opD μM' = opD μM := funext (fun i => e2 _ _ (by omega))
  have q8 : agD μM' = agD μM := funext (fun i => e2 _ _ (by omega))
  refine ⟨⟨by rw [e2 _ _ (by omega), e1 _ _ (by omega)]; exact h.1.1, by rw [e1 _ _ (by omega)]; exact h.1.2⟩, by rw [q6]; exact h.fb, by rw [q6]; exact h.fr.of (fun x y h1 h2 => e1 _ _ (by omega)), by rw [q6]; exact h.lz, h.nr.of (fun x y hx => e1 _ _ (by omega)) (fun x y hx => e2 _ _ (by omega)), ?_, ?_⟩
  · rw [q6, q7, q8]
    exact h.ll.cls (fun x y hx => e1 _ _ (by omega))
  · rw [q6, q7, q8]
    exact h.ls.cls (fun x y hx => e1 _ _ (by omega))
/-- one line read by both -/
def BO (a : Nat) (mC mM : Mem) (fC fM : Option (Int × Mem)) (c : Nat → Int) (N T d : Nat) : Prop := (∃ a' K n P M μC μM, fC = some (1, μC) ∧ fM = some (0, μM) ∧ a ≤ a' ∧ PF mC mM μC μM c N T d a' K ∧ CN μC μM c N T d n P M K) ∨ (∃ μC μM, fC = some (0, μC) ∧ fM = some (0, μM) ∧ FO mC mM μC μM c N T d)
