/-! an evening: what is meant -/
noncomputable def LV (op arg : Nat → Int) (s : Int) (N : Nat) (fc : Nat → Int) : Int := if s < 0 then fc 3 else stk op arg fc s.toNat N 0
def LWN (μ : Mem) (c : Nat) (W : List Int) (D : Int) (op arg : Nat → Int) (s : Int) (N : Nat) : Prop := (s = -1 ∧ μ c 2 = 1 ∧ μ (c + 1) 0 = D) ∨ ∃ t : Nat, s = (t : Int) ∧ PG W op arg t N ∧ μ c 2 = (N : Int) ∧ ∀ i, i < N → μ (c + 1) i = enI W (op (t + i)) (arg (t + i))
theorem LW_.ex {μ : Mem} {c : Nat} {W : List Int} {D s : Int} {op arg : Nat → Int} (h : LW_ μ c W D op arg s) : ∃ N, LWN μ c W D op arg s N := by
  rcases h with h | ⟨t, n, h⟩
  · exact ⟨0, .inl h⟩
  · exact ⟨n, .inr ⟨t, h⟩⟩
theorem LWN.of {μ μ' : Mem} {c N : Nat} {W : List Int} {D s : Int} {op arg : Nat → Int} (q : LWN μ c W D op arg s N) (e : ∀ a b, a = c ∨ a = c + 1 → μ' a b = μ a b) : LWN μ' c W D op arg s N := by
  rcases q with ⟨h1, h2, h3⟩ | ⟨t, h1, h2, h3, h4⟩
  · exact .inl ⟨h1, by rw [e _ _ (.inl rfl)]; exact h2, by rw [e _ _ (.inr rfl)]; exact h3⟩
  · exact .inr ⟨t, h1, h2, by rw [e _ _ (.inl rfl)]; exact h3, fun i hi => by rw [e _ _ (.inr rfl)]; exact h4 i hi⟩
noncomputable def whoS (nw : Nat → Int) (n : Nat) (p : Int) : Int := fstN (fun b => 0 ≤ p ∧ nw b = p) n
def freS (nw : Nat → Int) (n P : Nat) (p : Int) : Prop := 0 ≤ p ∧ p < (P : Int) ∧ ∀ b, b < n → nw b ≠ p
theorem who_free {nw : Nat → Int} {n P : Nat} {p : Int} (h0 : 0 ≤ p) (h1 : p < (P : Int)) : freS nw n P p ↔ whoS nw n p = -1 := by
  constructor
  · intro h
    exact fst_none (fun b hb z => h.2.2 b hb z.2)
  · intro h
    refine ⟨h0, h1, fun b hb z => ?_⟩
    rcases fst_cases (fun b => 0 ≤ p ∧ nw b = p) n with ⟨q1, q2⟩ | ⟨m, q0, q1, q2, q3⟩
    · exact q2 b hb ⟨h0, z⟩
    · have : fstN (fun b => 0 ≤ p ∧ nw b = p) n = -1 := h
      omega
theorem who_at {nw : Nat → Int} {n b : Nat} {p : Int} (h0 : 0 ≤ p) (hi : ∀ a b, a < n → b < n → nw a = nw b → 0 ≤ nw a → a = b) (hb : b < n) (h : nw b = p) : whoS nw n p = (b : Int) := by
  refine fst_at (fun a ha z => ?_) hb ⟨h0, h⟩
  have := hi a b (by omega) hb (by rw [z.2, h]) (by rw [z.2]; exact h0)
  omega
theorem who_cases (nw : Nat → Int) (n : Nat) (p : Int) : whoS nw n p = -1 ∨ ∃ b : Nat, b < n ∧ whoS nw n p = (b : Int) ∧ nw b = p := by
  rcases fst_cases (fun b => 0 ≤ p ∧ nw b = p) n with ⟨q1, q2⟩ | ⟨m, q0, q1, q2, q3⟩
  · exact .inl q1
  · exact .inr ⟨m, q0, q1, q2.2⟩
theorem who_neg {nw : Nat → Int} {n : Nat} {p : Int} (h : p < 0) : whoS nw n p = -1 := fst_none (fun b hb z => by omega)
section DK
variable (fl st : Nat → Int) (V : (Nat → Int) → Int) (n P : Nat)
noncomputable def lkE (nw : Nat → Int) (b : Nat) (p : Int) (e : Nat) : Int := if (e ≠ b ∧ 0 ≤ nw e) ∧ (nw e - p = 1 ∨ nw e - p = -1) then likS fl st b e else 0
noncomputable def lkN (nw : Nat → Int) (b : Nat) (p : Int) : Int := sumN (lkE fl st nw b p) n
noncomputable def fre1 (nw : Nat → Int) (p : Int) : Int := by
  classical
  exact if freS nw n P p then 1 else 0
noncomputable def fcD (nw : Nat → Int) (b : Nat) (p : Int) : Nat → Int
  | 0 => fl (3 + 2 * b + 1)
  | 1 => if fl (3 + 2 * b) = 4 then 1 else 0
  | 2 => if fl (3 + 2 * b) = 3 then 1 else 0
  | 3 => lkN fl st n nw b p
  | 4 => p
  | 5 => fre1 n P nw (p - 1) + fre1 n P nw (p + 1)
  | 6 => if st (14 + b) = p then 1 else 0
  | 7 => if p = 0 ∨ p = (P : Int) - 1 then 1 else 0
  | _ => 0
noncomputable def wnS (nw : Nat → Int) (b : Nat) (p : Int) : Int := V (fcD fl st n P nw b p)
def byS (nw : Nat → Int) (b : Nat) : Int := if fl (3 + 2 * b) = 2 ∧ 0 < b then nw (b - 1) else -1
def nearS (nw : Nat → Int) (b : Nat) : Prop := 0 ≤ byS fl nw b ∧ (freS nw n P (byS fl nw b - 1) ∨ freS nw n P (byS fl nw b + 1))
def mayS (nw : Nat → Int) (b : Nat) (p : Int) : Prop := freS nw n P p ∧ (nearS fl n P nw b → p = byS fl nw b - 1 ∨ p = byS fl nw b + 1)
noncomputable def bst1 (nw : Nat → Int) (b : Nat) (p : Nat) (r : Int × Int) : Int × Int := by
  classical
  exact if mayS fl n P nw b p ∧ (r.1 < 0 ∨ r.2 < wnS fl st V n P nw b p ∨ wnS fl st V n P nw b p = r.2 ∧ fl (3 + 2 * b) = 3) then ((p : Int), wnS fl st V n P nw b p) else r
noncomputable def bstS (nw : Nat → Int) (b : Nat) : Nat → Int × Int
  | 0 => (-1, 0)
  | p + 1 => bst1 fl st V n P nw b p (bstS nw b p)
noncomputable def goS (t : Int) (b : Nat) : Prop := (if fl (3 + 2 * b) = 1 then 0 else if fl (3 + 2 * b) = 4 then 2 else (1 : Int)) = t ∧ (st 0).toNat.testBit b = false
noncomputable def dk1 (t : Int) (b : Nat) (nw : Nat → Int) : Nat → Int := by
  classical
  exact if goS fl st t b then upf nw b (bstS fl st V n P nw b P).1 else nw
noncomputable def dkB (t : Int) (nw : Nat → Int) : Nat → (Nat → Int)
  | 0 => nw
  | b + 1 => dk1 fl st V n P t b (dkB t nw b)
noncomputable def dkT : Nat → (Nat → Int)
  | 0 => fun _ => -1
  | t + 1 => dkB fl st V n P (t : Int) (dkT t) n
noncomputable def adj1 (nw : Nat → Int) (a b : Nat) : Int := if (0 ≤ nw a ∧ 0 ≤ nw b) ∧ (nw a - nw b = 1 ∨ nw a - nw b = -1) then 1 else 0
/-- the state behind it -/
noncomputable def duS : Nat → Int := fun i => if i = 1 then w32 (st 1 + 1) else if 2 ≤ i ∧ i < 14 then dkT fl st V n P 3 (i - 2) else if 14 ≤ i ∧ i < 26 then dkT fl st V n P 3 (i - 14) else if 26 ≤ i ∧ i < 38 then (if 0 ≤ dkT fl st V n P 3 (i - 26) then w32 (st i + 1) else st i) else if 38 ≤ i ∧ i < 182 then w32 (st i + adj1 (dkT fl st V n P 3) ((i - 38) / 12) ((i - 38) % 12)) else st i
end DK
/-- what holds of those that lie already -/
def NW (nw : Nat → Int) (n P : Nat) : Prop := (∀ b, -1 ≤ nw b ∧ nw b < (P : Int)) ∧ (∀ b, n ≤ b → nw b = -1) ∧ ∀ a b, nw a = nw b → 0 ≤ nw a → a = b
theorem NW.rg {nw : Nat → Int} {n P : Nat} (h : NW nw n P) (b : Nat) : -1 ≤ nw b ∧ nw b < (P : Int) := h.1 b
theorem NW.out {nw : Nat → Int} {n P b : Nat} (h : NW nw n P) (hb : n ≤ b) : nw b = -1 := h.2.1 b hb
theorem NW.inj {nw : Nat → Int} {n P a b : Nat} (h : NW nw n P) (e : nw a = nw b) (h0 : 0 ≤ nw a) : a = b := h.2.2 a b e h0
theorem bst_may {fl st : Nat → Int} {V : (Nat → Int) → Int} {n P : Nat} {nw : Nat → Int} {b : Nat} : ∀ p : Nat, (bstS fl st V n P nw b p).1 = -1 ∨ ∃ q : Nat, q < p ∧ (bstS fl st V n P nw b p).1 = (q : Int) ∧ mayS fl n P nw b q
  | 0 => .inl rfl
  | p + 1 => by
    have ih := bst_may (fl := fl) (st := st) (V := V) (n := n) (P := P) (nw := nw) (b := b) p
    show (bst1 fl st V n P nw b p (bstS fl st V n P nw b p)).1 = -1 ∨ ∃ q : Nat, q < p + 1 ∧ (bst1 fl st V n P nw b p (bstS fl st V n P nw b p)).1 = (q : Int) ∧ mayS fl n P nw b q
    unfold bst1
    by_cases c : mayS fl n P nw b p ∧ ((bstS fl st V n P nw b p).1 < 0 ∨ (bstS fl st V n P nw b p).2 < wnS fl st V n P nw b p ∨ wnS fl st V n P nw b p = (bstS fl st V n P nw b p).2 ∧ fl (3 + 2 * b) = 3)
    · rw [if_pos c]
      exact .inr ⟨p, by omega, rfl, c.1⟩
    · rw [if_neg c]
      rcases ih with h | ⟨q, h1, h2⟩
      · exact .inl h
      · exact .inr ⟨q, by omega, h2⟩
/-- one more lies down -/
theorem NW.uf_ {nw : Nat → Int} {n P b : Nat} (h : NW nw n P) (hb : b < n) {v : Int} (hv : v = -1 ∨ freS nw n P v) : NW (upf nw b v) n P := by
  obtain ⟨h1, h2, h3⟩ := h
  have hv2 : -1 ≤ v ∧ v < (P : Int) := by
    rcases hv with rfl | hv
    · omega
    · exact ⟨by have := hv.1; omega, hv.2.1⟩
  have hv3 : ∀ e, e ≠ b → 0 ≤ v → nw e ≠ v := fun e he h0 z => by
    rcases hv with rfl | hv
    · omega
    · by_cases c : e < n
      · exact hv.2.2 e c z
      · have := h2 e (by omega)
        omega
  refine ⟨fun e => ?_, fun e he => ?_, fun a e he h0 => ?_⟩
  · by_cases c : e = b
    · rw [c, upf_s]; exact hv2
    · rw [upf_n c]; exact h1 e
  · rw [upf_n (by omega)]; exact h2 e he
  · by_cases c : a = b
    · by_cases c' : e = b
      · omega
      · rw [c, upf_s] at h0
        rw [c, upf_s, upf_n c'] at he
        exact absurd he.symm (hv3 e c' h0)
    · rw [upf_n c] at h0 he
      by_cases c' : e = b
      · rw [c', upf_s] at he
        exact absurd he (hv3 a c (by omega))
      · rw [upf_n c'] at he
        exact h3 a e he h0
theorem NW.d1_ {fl st : Nat → Int} {V : (Nat → Int) → Int} {n P : Nat} {nw : Nat → Int} {b : Nat} {t : Int} (h : NW nw n P) (hb : b < n) : NW (dk1 fl st V n P t b nw) n P := by
  unfold dk1
  by_cases c : goS fl st t b
  · rw [if_pos c]
    refine h.uf_ hb ?_
    rcases bst_may (fl := fl) (st := st) (V := V) (n := n) (P := P) (nw := nw) (b := b) P with z | ⟨q, h1, h2, h3⟩
    · exact .inl z
    · rw [h2]
      exact .inr h3.1
  · rw [if_neg c]; exact h
theorem NW.dB_ {fl st : Nat → Int} {V : (Nat → Int) → Int} {n P : Nat} {nw : Nat → Int} {t : Int} (h : NW nw n P) : ∀ b, b ≤ n → NW (dkB fl st V n P t nw b) n P
  | 0, _ => h
  | b + 1, hb => (NW.dB_ h b (by omega)).d1_ (by omega)
theorem NW.dT_ {fl st : Nat → Int} {V : (Nat → Int) → Int} {n P : Nat} : ∀ t, NW (dkT fl st V n P t) n P
  | 0 => ⟨fun b => by show -1 ≤ (-1 : Int) ∧ (-1 : Int) < (P : Int); omega, fun b _ => rfl, fun a b _ h => by have : (0 : Int) ≤ -1 := h; omega⟩
  | t + 1 => (NW.dT_ t).dB_ n (Nat.le_refl n)
/-- who has not had its turn does not lie -/
theorem dkB_not {fl st : Nat → Int} {V : (Nat → Int) → Int} {n P : Nat} {nw : Nat → Int} {t : Int} {e : Nat} : ∀ b, (∀ c, c < b → c = e → ¬ goS fl st t c) → dkB fl st V n P t nw b e = nw e
  | 0, _ => rfl
  | b + 1, h => by
    have ih := dkB_not (V := V) (n := n) (P := P) (nw := nw) b (fun c hc he => h c (by omega) he)
    show dk1 fl st V n P t b (dkB fl st V n P t nw b) e = nw e
    unfold dk1
    by_cases c : goS fl st t b
    · rw [if_pos c]
      by_cases ce : e = b
      · exact absurd c (h b (by omega) ce.symm)
      · rw [upf_n ce]; exact ih
    · rw [if_neg c]; exact ih
theorem dkT_not {fl st : Nat → Int} {V : (Nat → Int) → Int} {n P : Nat} {e : Nat} : ∀ t : Nat, (∀ c : Nat, c < t → ¬ goS fl st (c : Int) e) → dkT fl st V n P t e = -1
  | 0, _ => rfl
  | t + 1, h => by
    show dkB fl st V n P (t : Int) (dkT fl st V n P t) n e = -1
    rw [dkB_not n (fun c hc he => by rw [he]; exact h t (by omega))]
    exact dkT_not t (fun c hc => h c (by omega))
theorem dk_before {fl st : Nat → Int} {V : (Nat → Int) → Int} {n P t b : Nat} (hg : goS fl st (t : Int) b) : dkB fl st V n P (t : Int) (dkT fl st V n P t) b b = -1 := by
  rw [dkB_not b (fun c hc he => by omega)]
  refine dkT_not t (fun c hc z => ?_)
  have h1 := z.1
  have h2 := hg.1
  omega
