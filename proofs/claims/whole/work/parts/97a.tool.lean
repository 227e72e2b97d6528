/-! tools: one turn of a loop, loops by steps, loops by an invariant -/
theorem ite_t {α : Type} {c : Prop} [Decidable c] {a b : α} (h : c) : (if c then a else b) = a := if_pos h
theorem ite_f {α : Type} {c : Prop} [Decidable c] {a b : α} (h : ¬ c) : (if c then a else b) = b := if_neg h
def turnS (kb kc : Nat) (c : Cn) (body upd : Sx) (sh : Shp) (env : Ev) (μ : Mem) : Option ((Ev × Mem) ⊕ Rs) := (c sh env μ).bind fun b => if b.1 then (body sh env b.2).bind fun r => if r.1 = 0 ∨ r.1 = kc then (upd sh r.2.2.1 r.2.2.2).bind fun q => if q.1 = 0 then some (.inl (q.2.2.1, q.2.2.2)) else none
      else if r.1 = kb then some (.inr (0, 0, r.2.2.1, r.2.2.2)) else some (.inr r)
    else some (.inr (0, 0, env, b.2))
theorem turn_go {kb kc : Nat} {c : Cn} {body upd : Sx} {sh : Shp} {env env' : Ev} {μ μ' : Mem} (h : turnS kb kc c body upd sh env μ = some (.inl (env', μ'))) : loopS kb kc c body upd sh env μ = loopS kb kc c body upd sh env' μ' := by
  rw [loopS_eq]
  unfold turnS at h
  obtain ⟨b, h1, h2⟩ := b_some h
  rw [h1]
  show (if b.1 then _ else _) = _
  by_cases hb : b.1 = true
  · rw [if_pos hb] at h2 ⊢
    obtain ⟨q, h3, h4⟩ := b_some h2
    rw [h3]
    show (if q.1 = 0 ∨ q.1 = kc then _ else _) = _
    by_cases hq : q.1 = 0 ∨ q.1 = kc
    · rw [if_pos hq] at h4 ⊢
      obtain ⟨z, h5, h6⟩ := b_some h4
      rw [h5]
      show (if z.1 = 0 then _ else _) = _
      by_cases hz : z.1 = 0
      · rw [if_pos hz] at h6 ⊢
        cases h6
        rfl
      · rw [if_neg hz] at h6
        cases h6
    · rw [if_neg hq] at h4
      split at h4 <;> cases h4
  · rw [if_neg hb] at h2
    cases h2
theorem turn_end {kb kc : Nat} {c : Cn} {body upd : Sx} {sh : Shp} {env : Ev} {μ : Mem} {r : Rs} (h : turnS kb kc c body upd sh env μ = some (.inr r)) : loopS kb kc c body upd sh env μ = some r := by
  rw [loopS_eq]
  unfold turnS at h
  obtain ⟨b, h1, h2⟩ := b_some h
  rw [h1]
  show (if b.1 then _ else _) = _
  by_cases hb : b.1 = true
  · rw [if_pos hb] at h2 ⊢
    obtain ⟨q, h3, h4⟩ := b_some h2
    rw [h3]
    show (if q.1 = 0 ∨ q.1 = kc then _ else _) = _
    by_cases hq : q.1 = 0 ∨ q.1 = kc
    · rw [if_pos hq] at h4 ⊢
      obtain ⟨z, h5, h6⟩ := b_some h4
      by_cases hz : z.1 = 0
      · rw [if_pos hz] at h6
        cases h6
      · rw [if_neg hz] at h6
        cases h6
    · rw [if_neg hq] at h4 ⊢
      by_cases hk : q.1 = kb
      · rw [if_pos hk] at h4 ⊢
        cases h4
        rfl
      · rw [if_neg hk] at h4 ⊢
        cases h4
        rfl
  · rw [if_neg hb] at h2 ⊢
    cases h2
    rfl
/-- turns i .. m - 1 go on, turn m ends -/
theorem loop_run {kb kc : Nat} {c : Cn} {body upd : Sx} {sh : Shp} (E : Nat → Ev) (M : Nat → Mem) {r : Rs} (m : Nat) (step : ∀ j, j < m → turnS kb kc c body upd sh (E j) (M j) = some (.inl (E (j + 1), M (j + 1)))) (last : turnS kb kc c body upd sh (E m) (M m) = some (.inr r)) : loopS kb kc c body upd sh (E 0) (M 0) = some r := by
  have key : ∀ k j, j + k = m → loopS kb kc c body upd sh (E j) (M j) = some r := by
    intro k
    induction k with
    | zero =>
      intro j hj
      have : j = m := by omega
      subst this
      exact turn_end last
    | succ k ih =>
      intro j hj
      rw [turn_go (step j (by omega))]
      exact ih (j + 1) (by omega)
  exact key m 0 (by omega)
/-- by an invariant and a measure -/
theorem loop_inv {kb kc : Nat} {c : Cn} {body upd : Sx} {sh : Shp} (I : Nat → Ev → Mem → Prop) (Q : Rs → Prop) (step : ∀ n env μ, I n env μ → (∃ env' μ' n', turnS kb kc c body upd sh env μ = some (.inl (env', μ')) ∧ n' < n ∧ I n' env' μ') ∨ ∃ r, turnS kb kc c body upd sh env μ = some (.inr r) ∧ Q r) : ∀ n env μ, I n env μ → ∃ r, loopS kb kc c body upd sh env μ = some r ∧ Q r := by
  intro n
  induction n using Nat.strongRecOn with
  | ind n ih =>
    intro env μ h
    rcases step n env μ h with ⟨env', μ', n', h1, h2, h3⟩ | ⟨r, h1, h2⟩
    · rw [turn_go h1]
      exact ih n' h2 env' μ' h3
    · exact ⟨r, turn_end h1, h2⟩
/-- up to n, or an end before it -/
theorem loop_up {kb kc : Nat} {c : Cn} {body upd : Sx} {sh : Shp} {n : Nat} (I : Nat → Ev → Mem → Prop) (Q : Rs → Prop) (step : ∀ j env μ, j ≤ n → I j env μ → (j < n ∧ ∃ env' μ', turnS kb kc c body upd sh env μ = some (.inl (env', μ')) ∧ I (j + 1) env' μ') ∨ ∃ r, turnS kb kc c body upd sh env μ = some (.inr r) ∧ Q r) {env : Ev} {μ : Mem} (h : I 0 env μ) : ∃ r, loopS kb kc c body upd sh env μ = some r ∧ Q r := by
  refine loop_inv (I := fun k env μ => k ≤ n ∧ I (n - k) env μ) Q ?_ n env μ ⟨Nat.le_refl n, by rw [Nat.sub_self]; exact h⟩
  rintro k env μ ⟨h1, h2⟩
  rcases step (n - k) env μ (by omega) h2 with ⟨h3, env', μ', h4, h5⟩ | h3
  · exact .inl ⟨env', μ', k - 1, h4, by omega, by omega, by rw [show n - (k - 1) = n - k + 1 by omega]; exact h5⟩
  · exact .inr h3
/-- the first below n, or -1 -/
def fstN (P : Nat → Prop) [DecidablePred P] : Nat → Int
  | 0 => -1
  | n + 1 => if fstN P n = -1 then (if P n then (n : Int) else -1) else fstN P n
theorem fst_none {P : Nat → Prop} [DecidablePred P] {n : Nat} (h : ∀ b, b < n → ¬ P b) : fstN P n = -1 := by
  induction n with
  | zero => rfl
  | succ n ih =>
    unfold fstN
    rw [ih (fun b hb => h b (by omega)), if_pos rfl, if_neg (h n (by omega))]
theorem fst_at {P : Nat → Prop} [DecidablePred P] {n m : Nat} (h : ∀ b, b < m → ¬ P b) (hm : m < n) (hp : P m) : fstN P n = (m : Int) := by
  induction n with
  | zero => omega
  | succ n ih =>
    unfold fstN
    by_cases h1 : m < n
    · rw [ih h1, if_neg (by omega)]
    · have : m = n := by omega
      subst this
      rw [fst_none h, if_pos rfl, if_pos hp]
theorem least {P : Nat → Prop} (n : Nat) : (∀ b, b < n → ¬ P b) ∨ ∃ m, m < n ∧ P m ∧ ∀ b, b < m → ¬ P b := by
  induction n with
  | zero => exact .inl (fun b hb => by omega)
  | succ n ih =>
    rcases ih with h | ⟨m, h1, h2, h3⟩
    · by_cases hp : P n
      · exact .inr ⟨n, by omega, hp, h⟩
      · refine .inl (fun b hb => ?_)
        by_cases hbn : b = n
        · rw [hbn]; exact hp
        · exact h b (by omega)
    · exact .inr ⟨m, by omega, h2, h3⟩
theorem fst_cases (P : Nat → Prop) [DecidablePred P] (n : Nat) : (fstN P n = -1 ∧ ∀ b, b < n → ¬ P b) ∨ ∃ m, m < n ∧ fstN P n = (m : Int) ∧ P m ∧ ∀ b, b < m → ¬ P b := by
  rcases least (P := P) n with h | ⟨m, h1, h2, h3⟩
  · exact .inl ⟨fst_none h, h⟩
  · exact .inr ⟨m, h1, fst_at h3 h1 h2, h2, h3⟩
theorem fst_congr {P Q : Nat → Prop} [DecidablePred P] [DecidablePred Q] {n : Nat} (h : ∀ b, b < n → (P b ↔ Q b)) : fstN P n = fstN Q n := by
  rcases fst_cases P n with ⟨h1, h2⟩ | ⟨m, h1, h2, h3, h4⟩
  · rw [h1, fst_none (fun b hb z => h2 b hb ((h b hb).mpr z))]
  · rw [h2, fst_at (fun b hb z => h4 b hb ((h b (by omega)).mpr z)) h1 ((h m h1).mp h3)]
/-- sums -/
def sumN (f : Nat → Int) : Nat → Int
  | 0 => 0
  | n + 1 => sumN f n + f n
theorem sum_congr {f g : Nat → Int} {n : Nat} (h : ∀ b, b < n → f b = g b) : sumN f n = sumN g n := by
  induction n with
  | zero => rfl
  | succ n ih =>
    unfold sumN
    rw [ih (fun b hb => h b (by omega)), h n (by omega)]
theorem sum_le {f : Nat → Int} {n : Nat} {c : Int} (h : ∀ b, b < n → 0 ≤ f b ∧ f b ≤ c) : 0 ≤ sumN f n ∧ sumN f n ≤ c * n := by
  induction n with
  | zero => simp [sumN]
  | succ n ih =>
    have h1 := ih (fun b hb => h b (by omega))
    have h2 := h n (by omega)
    unfold sumN
    constructor
    · omega
    · rw [Int.natCast_add, Int.mul_add]
      simp
      omega
