/-! the relation kept -/
set_option maxRecDepth 100000 in theorem PC.keep {μ μ' : Mem} {S : Nat → Nat → Prop} (h : PC μ) (e : ∀ a b, ¬ S a b → μ' a b = μ a b) (hs : ∀ p ∈ ptC, ¬ S p.1 p.2.1) : PC μ' := h.of (fun p hp => e _ _ (hs p hp))
set_option maxRecDepth 100000 in theorem FR.of {μ μ' : Mem} {h n M : Nat} {fl : Nat → Int} (q : FR μ h fl n M) (e : ∀ a b, h ≤ a → a ≤ h + 5 → μ' a b = μ a b) : FR μ' h fl n M :=
  ⟨by rw [e _ _ (by omega) (by omega)]; exact q.pl, by rw [e _ _ (by omega) (by omega)]; exact q.be, by rw [e _ _ (by omega) (by omega)]; exact q.pa, by rw [e _ _ (by omega) (by omega)]; exact q.me, fun b hb => by rw [e _ _ (by omega) (by omega)]; exact q.ki b hb, fun b hb => by rw [e _ _ (by omega) (by omega)]; exact q.to b hb, fun b hb => by rw [e _ _ (by omega) (by omega)]; exact q.li b hb, fun b hb => by rw [e _ _ (by omega) (by omega)]; exact q.gr b hb, fun b hb => by rw [e _ _ (by omega) (by omega)]; exact q.fa b hb⟩
set_option maxRecDepth 100000 in theorem LW_.of {μ μ' : Mem} {c : Nat} {W : List Int} {D s : Int} {op arg : Nat → Int} (q : LW_ μ c W D op arg s) (e : ∀ a b, a = c ∨ a = c + 1 → μ' a b = μ a b) : LW_ μ' c W D op arg s := by
  rcases q with ⟨h1, h2, h3⟩ | ⟨t, n, h1, h2, h3, h4⟩
  · exact .inl ⟨h1, by rw [e _ _ (.inl rfl)]; exact h2, by rw [e _ _ (.inr rfl)]; exact h3⟩
  · exact .inr ⟨t, n, h1, h2, by rw [e _ _ (.inl rfl)]; exact h3, fun i hi => by rw [e _ _ (.inr rfl)]; exact h4 i hi⟩
set_option maxRecDepth 100000 in theorem LR.of {μ μ' : Mem} {k : Nat} {st st' : Nat → Int} (q : LR μ k st) (e : ∀ a b, k ≤ a → a ≤ k + 4 → μ' a b = μ a b) (es : ∀ i, i < 182 → st' i = st i) : LR μ' k st' :=
  ⟨by rw [e _ _ (by omega) (by omega), es _ (by omega)]; exact q.aw, by rw [e _ _ (by omega) (by omega), es _ (by omega)]; exact q.ev, fun b hb => by rw [e _ _ (by omega) (by omega), es _ (by omega)]; exact q.no b hb, fun b hb => by rw [e _ _ (by omega) (by omega), es _ (by omega)]; exact q.la b hb, fun b hb => by rw [e _ _ (by omega) (by omega), es _ (by omega)]; exact q.ln b hb, fun b hb => by rw [e _ _ (by omega) (by omega), es _ (by omega)]; exact q.bs b hb⟩
set_option maxRecDepth 100000 in theorem GR.of {μ μ' : Mem} {k : Nat} {st st' : Nat → Int} (q : GR μ k st) (hf : st 182 ≤ 24) (e : ∀ a b, k ≤ a → a ≤ k + 3 → μ' a b = μ a b) (es : ∀ i, 182 ≤ i → i < 290 → st' i = st i) : GR μ' k st' := by
  have e0 := es 182 (by omega) (by omega)
  refine ⟨by rw [e _ _ (by omega) (by omega), e0]; exact q.ma, fun i hi => ?_, fun i hi => ?_, fun i hi => ?_⟩
  · rw [e0] at hi
    rw [e _ _ (by omega) (by omega), es _ (by omega) (by omega)]
    exact q.ki i hi
  · rw [e0] at hi
    rw [e _ _ (by omega) (by omega), es _ (by omega) (by omega)]
    exact q.wh i hi
  · rw [e0] at hi
    rw [e _ _ (by omega) (by omega), es _ (by omega) (by omega)]
    exact q.nu i hi
set_option maxRecDepth 100000 in theorem SL.of {st st' : Nat → Int} {n P : Nat} (q : SL st n P) (es : ∀ i, i < 182 → st' i = st i) : SL st' n P := by
  refine ⟨?_, fun b hb => ?_, fun b h1 h2 => ?_, fun a b h1 h2 h3 h4 => ?_, fun b hb => ?_, fun b h1 h2 => ?_, fun a b h1 h2 h3 h4 => ?_, fun i hi => by rw [es _ hi]; exact q.rn i hi⟩
  · rw [es _ (by omega)]; exact q.aw
  · rw [es _ (by omega)]; exact q.no b hb
  · rw [es _ (by omega)]; exact q.nn b h1 h2
  · rw [es _ (by omega)] at h3 h4; rw [es _ (by omega)] at h3; exact q.ni a b h1 h2 h3 h4
  · rw [es _ (by omega)]; exact q.la b hb
  · rw [es _ (by omega)]; exact q.ll b h1 h2
  · rw [es _ (by omega)] at h3 h4; rw [es _ (by omega)] at h3; exact q.li a b h1 h2 h3 h4
set_option maxRecDepth 100000 in theorem SG.of {st st' : Nat → Int} {n P : Nat} (q : SG st n P) (hn : n ≤ 12) (es : ∀ i, 182 ≤ i → i < 290 → st' i = st i) (el : ∀ i, 14 ≤ i → i < 26 → st' i = st i) : SG st' n P := by
  have e0 := es 182 (by omega) (by omega)
  have hf := q.f1
  refine ⟨by rw [e0]; exact q.f0, by rw [e0]; exact q.f1, fun i hi => ?_, fun i hi => ?_, fun i hi => ?_, fun i hi h3 => ?_⟩
  · rw [e0] at hi; rw [es _ (by omega) (by omega)]; exact q.ki i hi
  · rw [e0] at hi; rw [es _ (by omega) (by omega)]; exact q.wh i hi
  · rw [e0] at hi; rw [es _ (by omega) (by omega)]; exact q.nu i hi
  · rw [e0] at hi
    rw [es _ (by omega) (by omega)] at h3
    obtain ⟨b, h4, h5, h6⟩ := q.un i hi h3
    exact ⟨b, h4, by rw [es _ (by omega) (by omega)]; exact h5, by rw [el _ (by omega) (by omega)]; exact h6⟩
set_option maxRecDepth 100000 in theorem TR.of {μC μM μC' μM' : Mem} (q : TR μC μM) (e1 : μC' 1 1 = μC 1 1) (e2 : ∀ b, μC' 2 b = μC 2 b) (e3 : μM' 0 2 = μM 0 2) (e4 : ∀ b, μM' 1 b = μM 1 b) : TR μC' μM' := by
  refine ⟨by rw [e1, e3]; exact q.le, by rw [e3]; exact q.l0, by rw [e3]; exact q.l1, fun i hi => ?_, fun i hi => ?_⟩
  · rw [e3] at hi; rw [e2, e4]; exact q.si i hi
  · rw [e3] at hi; rw [e4]; exact q.rg i hi
set_option maxRecDepth 100000 in theorem PR.of {μC μM μC' μM' : Mem} {n P : Nat} (q : PR μC μM n P) (eC : ∀ a b, 44 ≤ a → a ≤ 105 → μC' a b = μC a b) (e0 : μM' 0 24 = μM 0 24) (eM : ∀ i, 1450 ≤ i → i < 4930 → μM' 15 i = μM 15 i) : PR μC' μM' n P := by
  have hu := q.u1
  refine ⟨by rw [eC _ _ (by omega) (by omega), e0]; exact q.ma, by rw [e0]; exact q.u0, by rw [e0]; exact q.u1, by rw [eC _ _ (by omega) (by omega)]; exact q.w0, by rw [eC _ _ (by omega) (by omega)]; exact q.w1, fun j hj => ?_⟩
  rw [e0] at hj
  obtain ⟨h1, h2⟩ := q.ke j hj
  rw [e0, eC 44 2 (by omega) (by omega)]
  have es : ∀ i, i < 182 → slt μM' (5 + ((μM 0 24).toNat - 1 - j)) i = slt μM (5 + ((μM 0 24).toNat - 1 - j)) i := fun i hi => eM _ (by omega) (by omega)
  exact ⟨h1.of (fun a b ha hb => eC _ _ (by omega) (by omega)) es, h2.of es⟩
set_option maxRecDepth 100000 in theorem MR.of {μC μM μC' μM' : Mem} {n P : Nat} (hn : n ≤ 12) (q : MR μC μM n P) (e0 : μC' 0 14 = μC 0 14) (eC : ∀ a b, 123 ≤ a → a ≤ 158 → μC' a b = μC a b) (e1 : ∀ m, m < 4 → μM' 16 m = μM 16 m) (eM : ∀ i, 290 ≤ i → i < 1450 → μM' 15 i = μM 15 i) : MR μC' μM' n P := by
  obtain ⟨L, h1, h2, h3⟩ := q.la
  refine ⟨⟨L, h1, by rw [e0]; exact h2, fun m hm => by rw [e1 m hm]; exact h3 m hm⟩, fun m hm h4 => ?_⟩
  rw [e1 m hm] at h4
  obtain ⟨h5, h6, h7, h8⟩ := q.ke m hm h4
  have es : ∀ i, i < 290 → slt μM' (1 + m) i = slt μM (1 + m) i := fun i hi => eM _ (by omega) (by omega)
  exact ⟨h5.of (fun a b ha hb => eC _ _ (by omega) (by omega)) (fun i hi => es i (by omega)), h6.of h8.f1 (fun a b ha hb => eC _ _ (by omega) (by omega)) (fun i _ hi => es i hi), h7.of (fun i hi => es i (by omega)), h8.of hn (fun i _ hi => es i hi) (fun i _ hi => es i (by omega))⟩
set_option maxRecDepth 100000 in theorem R0.upd {μC μM μC' μM' : Mem} {h d n P M : Nat} (R : R0 μC μM h d n P M) (pc : PC μC') (eC : ∀ a b, a = 0 ∧ (b = 1 ∨ b = 2) ∨ a = 1 ∧ b = 1 ∨ a = 2 ∨ (h ≤ a ∧ a < h + 11 ∧ a ≠ h + 8) → μC' a b = μC a b) (pm : PM μM') (th : μM' 0 0 = 0) (eM : ∀ a b, a = 6 ∨ a = 7 ∨ a = 8 ∨ a = 1 ∨ a = 0 ∧ b = 2 → μM' a b = μM a b) (lr : LR μC' 30 (μM' 15)) (gr : GR μC' 40 (μM' 15)) (sl : SL (μM' 15) n P) (sg : SG (μM' 15) n P) (pr : PR μC' μM' n P) (mr : MR μC' μM' n P) : R0 μC' μM' h d n P M := by
  have e6 : μM' 6 = μM 6 := funext (fun b => eM 6 b (by omega))
  have e7 : μM' 7 = μM 7 := funext (fun b => eM 7 b (by omega))
  have e8 : μM' 8 = μM 8 := funext (fun b => eM 8 b (by omega))
  refine ⟨pc, ⟨R.hd.1, by rw [eC _ _ (by omega)]; exact R.hd.2.1, by rw [eC _ _ (by omega)]; exact R.hd.2.2⟩, pm, th, by rw [e6]; exact R.fb, ?_, ?_, ?_, R.tr.of (eC _ _ (by omega)) (fun b => eC _ _ (by omega)) (eM _ _ (by omega)) (fun b => eM _ _ (by omega)), lr, gr, sl, sg, pr, mr⟩
  · rw [e6]
    exact R.fr.of (fun a b h1 h2 => eC _ _ (by omega))
  · rw [e6, e7, e8]
    exact R.lw.of (fun a b h1 => eC _ _ (by omega))
  · rw [e6, e7, e8]
    exact R.sw.of (fun a b h1 => eC _ _ (by omega))
