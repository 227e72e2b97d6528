/-! sets of missing ones: what is meant -/
def msk (f : Nat → Bool) : Nat → Nat
  | 0 => 0
  | n + 1 => msk f n ||| (if f n then 2 ^ n else 0)
theorem msk_lt (f : Nat → Bool) : ∀ n, msk f n < 2 ^ n
  | 0 => by simp [msk]
  | n + 1 => by
    have h := msk_lt f n
    have h1 : msk f n < 2 ^ (n + 1) := Nat.lt_of_lt_of_le h (Nat.pow_le_pow_right (by decide) (by omega))
    refine Nat.or_lt_two_pow h1 ?_
    split
    · exact Nat.pow_lt_pow_right (by decide) (by omega)
    · exact Nat.two_pow_pos _
theorem msk_bit (f : Nat → Bool) (b : Nat) : ∀ n, (msk f n).testBit b = (decide (b < n) && f b)
  | 0 => by simp [msk]
  | n + 1 => by
    have h := msk_bit f b n
    show (msk f n ||| (if f n then 2 ^ n else 0)).testBit b = _
    rw [Nat.testBit_or, h]
    by_cases c : b = n
    · subst c
      cases hf : f b <;> simp
    · have e : decide (b < n + 1) = decide (b < n) := decide_eq_decide.mpr ⟨fun z => by omega, fun z => by omega⟩
      rw [e]
      cases f n
      · simp
      · have : ¬ n = b := fun z => c z.symm
        simp [Nat.testBit_two_pow, this]
theorem msk_congr {f g : Nat → Bool} : ∀ {n}, (∀ b, b < n → f b = g b) → msk f n = msk g n
  | 0, _ => rfl
  | n + 1, h => by
    show msk f n ||| (if f n then 2 ^ n else 0) = msk g n ||| (if g n then 2 ^ n else 0)
    rw [msk_congr (fun b hb => h b (by omega)), h n (by omega)]
theorem andn_bit (x y b : Nat) : (andn x y).testBit b = (x.testBit b && !y.testBit b) := by
  unfold andn
  rw [Nat.testBit_xor, Nat.testBit_and]
  cases x.testBit b <;> cases y.testBit b <;> rfl
theorem eq0_bits {x n : Nat} (h : x < 2 ^ n) : x = 0 ↔ ∀ b, b < n → x.testBit b = false := by
  constructor
  · rintro rfl b _
    exact Nat.zero_testBit b
  · intro h2
    apply Nat.eq_of_testBit_eq
    intro i
    rw [Nat.zero_testBit]
    by_cases c : i < n
    · exact h2 i c
    · exact Nat.testBit_lt_two_pow (Nat.lt_of_lt_of_le h (Nat.pow_le_pow_right (by decide) (by omega)))
theorem sub_bits {g l : Nat} : g &&& l = g ↔ ∀ b, g.testBit b = true → l.testBit b = true := by
  constructor
  · intro h b hb
    have := congrArg (fun x => x.testBit b) h
    simp only [Nat.testBit_and, hb, Bool.true_and] at this
    exact this
  · intro h
    apply Nat.eq_of_testBit_eq
    intro i
    rw [Nat.testBit_and]
    cases hg : g.testBit i with
    | false => rfl
    | true => rw [h i hg]; rfl
theorem andn0 {g l : Nat} : andn g l = 0 ↔ g &&& l = g := by
  rw [sub_bits]
  constructor
  · intro h b hb
    have := congrArg (fun x => x.testBit b) h
    simp only [andn_bit, hb, Nat.zero_testBit, Bool.true_and] at this
    cases hl : l.testBit b with
    | true => rfl
    | false => rw [hl] at this; cases this
  · intro h
    apply Nat.eq_of_testBit_eq
    intro i
    rw [andn_bit, Nat.zero_testBit]
    cases hg : g.testBit i with
    | false => rfl
    | true => rw [h i hg]; rfl
def allN (f : Nat → Bool) : Nat → Bool
  | 0 => true
  | n + 1 => allN f n && f n
theorem all_iff {f : Nat → Bool} : ∀ {n}, allN f n = true ↔ ∀ k, k < n → f k = true
  | 0 => ⟨fun _ k hk => by omega, fun _ => rfl⟩
  | n + 1 => by
    show (allN f n && f n) = true ↔ _
    rw [Bool.and_eq_true, all_iff (n := n)]
    constructor
    · rintro ⟨h1, h2⟩ k hk
      by_cases c : k = n
      · rw [c]; exact h2
      · exact h1 k (by omega)
    · intro h
      exact ⟨fun k hk => h k (by omega), h n (by omega)⟩
theorem all_false {f : Nat → Bool} {j n : Nat} (hj : j ≤ n) (h : allN f j = false) : allN f n = false := by
  cases hn : allN f n with
  | false => rfl
  | true =>
    have := all_iff.mp hn
    have : allN f j = true := all_iff.mpr (fun k hk => this k (by omega))
    rw [this] at h
    cases h
def anyN (f : Nat → Bool) : Nat → Bool
  | 0 => false
  | n + 1 => anyN f n || f n
theorem any_iff {f : Nat → Bool} : ∀ {n}, anyN f n = true ↔ ∃ k, k < n ∧ f k = true
  | 0 => ⟨fun h => absurd h (by simp [anyN]), fun ⟨k, hk, _⟩ => by omega⟩
  | n + 1 => by
    show (anyN f n || f n) = true ↔ _
    rw [Bool.or_eq_true, any_iff (n := n)]
    constructor
    · rintro (⟨k, h1, h2⟩ | h)
      · exact ⟨k, by omega, h2⟩
      · exact ⟨n, by omega, h⟩
    · rintro ⟨k, h1, h2⟩
      by_cases c : k = n
      · exact .inr (c ▸ h2)
      · exact .inl ⟨k, by omega, h2⟩
section GS
variable (fl st : Nat → Int) (n : Nat)
def lyB (b : Nat) : Bool := decide (0 ≤ st (14 + b))
def layM : Nat := msk (lyB st) n
def meB (k b : Nat) : Bool := if st (183 + 4 * k) < 2 then decide (st (14 + b) = st (183 + 4 * k + 1)) else decide (fl (3 + 2 * b + 1) = st (183 + 4 * k + 1))
def ctI (k g : Nat) : Int := sumN (fun b => if (lyB st b && !g.testBit b && meB fl st k b) = true then 1 else 0) n
noncomputable def miB (k g e : Nat) : Bool := g.testBit e && (decide (st (14 + e) - st (14 + (st (183 + 4 * k + 1)).toNat) = 1) || decide (st (14 + e) - st (14 + (st (183 + 4 * k + 1)).toNat) = -1)) && decide (st (183 + 4 * k + 2) ≤ likS fl st (st (183 + 4 * k + 1)).toNat e)
noncomputable def soB (k g : Nat) : Bool := if st (183 + 4 * k) < 3 then (if st (183 + 4 * k) = 2 then decide (ctI fl st n k g = st (183 + 4 * k + 2)) else decide (0 < ctI fl st n k g) == decide (st (183 + 4 * k) = 1)) else (!g.testBit (st (183 + 4 * k + 1)).toNat && (anyN (miB fl st k g) n == decide (st (183 + 4 * k) = 3)))
noncomputable def fitB (g : Nat) : Bool := decide (g &&& layM st n = g) && allN (fun k => soB fl st n k g) (st 182).toNat
noncomputable def fitL : List Nat := (List.range (2 ^ n)).filter (fitB fl st n)
/-- the class's masks of one thing told -/
def abB (k b : Nat) : Bool := lyB st b && (if st (183 + 4 * k) < 3 then meB fl st k b else decide ((b : Int) = st (183 + 4 * k + 1)))
noncomputable def neB (k b : Nat) : Bool := lyB st b && decide (3 ≤ st (183 + 4 * k)) && (decide (st (14 + (st (183 + 4 * k + 1)).toNat) - st (14 + b) = 1) || decide (st (14 + (st (183 + 4 * k + 1)).toNat) - st (14 + b) = -1)) && decide (st (183 + 4 * k + 2) ≤ likS fl st (st (183 + 4 * k + 1)).toNat b)
def abM (k : Nat) : Nat := msk (abB fl st k) n
noncomputable def neM (k : Nat) : Nat := msk (neB fl st k) n
noncomputable def hoB (k g : Nat) : Bool := if st (183 + 4 * k) = 0 then decide (andn (abM fl st n k) g = 0) else if st (183 + 4 * k) = 1 then decide (andn (abM fl st n k) g ≠ 0) else if st (183 + 4 * k) = 2 then decide (((pcN 16 (andn (abM fl st n k) g) : Nat) : Int) = st (183 + 4 * k + 2)) else if st (183 + 4 * k) = 3 then decide (andn (abM fl st n k) g ≠ 0) && decide (neM fl st n k &&& g ≠ 0) else decide (andn (abM fl st n k) g ≠ 0) && decide (neM fl st n k &&& g = 0)
end GS
theorem sum_more {f : Nat → Int} {n : Nat} : ∀ m, (∀ b, n ≤ b → f b = 0) → sumN f (n + m) = sumN f n
  | 0, _ => rfl
  | m + 1, h => by
    show sumN f (n + m) + f (n + m) = sumN f n
    rw [sum_more m h, h (n + m) (by omega)]
    omega
theorem andn_lt {x y n : Nat} (h : x < 2 ^ n) : andn x y < 2 ^ n := Nat.xor_lt_two_pow h (Nat.lt_of_le_of_lt Nat.and_le_left h)
theorem cnt_pc {fl st : Nat → Int} {n k g : Nat} (hn : n ≤ 12) (h3 : st (183 + 4 * k) < 3) : ((pcN 16 (andn (abM fl st n k) g) : Nat) : Int) = ctI fl st n k g := by
  rw [pc_sum]
  obtain ⟨m, hm⟩ : ∃ m, 16 = n + m := ⟨16 - n, by omega⟩
  rw [hm, sum_more m (fun b hb => by
    unfold btI
    rw [andn_bit, abM, msk_bit, decide_eq_false (by omega)]
    rfl)]
  unfold ctI
  refine sum_congr (fun b hb => ?_)
  unfold btI
  rw [andn_bit, abM, msk_bit, decide_eq_true hb]
  unfold abB
  rw [if_pos h3]
  cases lyB st b <;> cases g.testBit b <;> cases meB fl st k b <;> rfl
theorem pos_sum {f : Nat → Bool} : ∀ n, 0 < sumN (fun b => if f b = true then (1 : Int) else 0) n ↔ ∃ b, b < n ∧ f b = true
  | 0 => ⟨fun h => by have : (0 : Int) < 0 := h; omega, fun ⟨b, hb, _⟩ => by omega⟩
  | n + 1 => by
    have ih := pos_sum (f := f) n
    have nn : 0 ≤ sumN (fun b => if f b = true then (1 : Int) else 0) n := (sum01 (fun b _ => by cases f b <;> simp)).1
    show 0 < sumN (fun b => if f b = true then (1 : Int) else 0) n + (if f n = true then (1 : Int) else 0) ↔ _
    constructor
    · intro h
      by_cases c : f n = true
      · exact ⟨n, by omega, c⟩
      · rw [if_neg c] at h
        obtain ⟨b, h1, h2⟩ := ih.mp (by omega)
        exact ⟨b, by omega, h2⟩
    · rintro ⟨b, h1, h2⟩
      by_cases c : b = n
      · rw [c] at h2
        rw [if_pos h2]
        omega
      · have := ih.mpr ⟨b, by omega, h2⟩
        split <;> omega
theorem ab_ne {fl st : Nat → Int} {n k g : Nat} : andn (abM fl st n k) g ≠ 0 ↔ ∃ b, b < n ∧ (abB fl st k b && !g.testBit b) = true := by
  constructor
  · intro h
    refine Classical.byContradiction (fun z => h ((eq0_bits (andn_lt (msk_lt _ n))).mpr (fun b hb => ?_)))
    rw [andn_bit, msk_bit, decide_eq_true hb]
    cases hx : (abB fl st k b && !g.testBit b) with
    | false => simpa using hx
    | true => exact absurd ⟨b, hb, hx⟩ z
  · rintro ⟨b, hb, hx⟩ h
    have := (eq0_bits (andn_lt (msk_lt _ n))).mp h b hb
    rw [andn_bit, msk_bit, decide_eq_true hb] at this
    rw [Bool.true_and, hx] at this
    cases this
theorem ho_so {fl st : Nat → Int} {n P k g : Nat} (hn : n ≤ 12) (sg : SG st n P) (sl : SL st n P) (hk : (k : Int) < st 182) (hg : g &&& layM st n = g) : hoB fl st n k g = soB fl st n k g := by
  have kr := sg.ki k hk
  unfold hoB soB
  by_cases c3 : st (183 + 4 * k) < 3
  · rw [if_pos c3]
    have pos : andn (abM fl st n k) g ≠ 0 ↔ 0 < ctI fl st n k g := by
      unfold ctI
      rw [ab_ne, pos_sum]
      constructor
      · rintro ⟨b, h1, h2⟩
        refine ⟨b, h1, ?_⟩
        unfold abB at h2
        rw [if_pos c3] at h2
        revert h2
        cases lyB st b <;> cases g.testBit b <;> cases meB fl st k b <;> simp
      · rintro ⟨b, h1, h2⟩
        refine ⟨b, h1, ?_⟩
        unfold abB
        rw [if_pos c3]
        revert h2
        cases lyB st b <;> cases g.testBit b <;> cases meB fl st k b <;> simp
    by_cases c2 : st (183 + 4 * k) = 2
    · rw [if_neg (by omega), if_neg (by omega), if_pos c2, if_pos c2, cnt_pc hn c3]
    · rw [if_neg c2, if_neg c2]
      by_cases c1 : st (183 + 4 * k) = 1
      · rw [if_neg (by omega), if_pos c1, decide_eq_decide.mpr pos, decide_eq_true c1]
        cases decide (0 < ctI fl st n k g) <;> rfl
      · rw [if_pos (by omega), decide_eq_false c1]
        by_cases z : andn (abM fl st n k) g = 0
        · rw [decide_eq_true z, decide_eq_false (fun q => pos.mpr q z)]; rfl
        · rw [decide_eq_false z, decide_eq_true (pos.mp z)]; rfl
  · rw [if_neg c3, if_neg (by omega), if_neg (by omega), if_neg (by omega)]
    obtain ⟨b, hb, e1, e2⟩ := sg.un k hk (by omega)
    have tb : (st (183 + 4 * k + 1)).toNat = b := by rw [e1, Int.toNat_natCast]
    have th : andn (abM fl st n k) g ≠ 0 ↔ g.testBit b = false := by
      rw [ab_ne]
      constructor
      · rintro ⟨x, h1, h2⟩
        unfold abB at h2
        rw [if_neg c3, e1] at h2
        simp only [Bool.and_eq_true, decide_eq_true_eq, Bool.not_eq_true'] at h2
        have : x = b := by omega
        rw [← this]
        exact h2.2
      · intro h
        refine ⟨b, hb, ?_⟩
        unfold abB lyB
        rw [if_neg c3, e1, h, decide_eq_true e2]
        simp
    have nr : neM fl st n k &&& g ≠ 0 ↔ anyN (miB fl st k g) n = true := by
      rw [any_iff]
      have hlt : neM fl st n k &&& g < 2 ^ n := Nat.lt_of_le_of_lt Nat.and_le_left (msk_lt _ n)
      have bit : ∀ x, x < n → ((neM fl st n k &&& g).testBit x = miB fl st k g x) := fun x hx => by
        rw [Nat.testBit_and, neM, msk_bit, decide_eq_true hx]
        unfold neB miB
        have le : decide (3 ≤ st (183 + 4 * k)) = true := decide_eq_true (by omega)
        rw [le]
        cases hgx : g.testBit x with
        | false => simp
        | true =>
          have hl := (sub_bits.mp hg) x hgx
          rw [layM, msk_bit, decide_eq_true hx] at hl
          have hl : lyB st x = true := by simpa using hl
          rw [hl]
          have s1 : decide (st (14 + (st (183 + 4 * k + 1)).toNat) - st (14 + x) = 1) = decide (st (14 + x) - st (14 + (st (183 + 4 * k + 1)).toNat) = -1) := decide_eq_decide.mpr ⟨fun z => by omega, fun z => by omega⟩
          have s2 : decide (st (14 + (st (183 + 4 * k + 1)).toNat) - st (14 + x) = -1) = decide (st (14 + x) - st (14 + (st (183 + 4 * k + 1)).toNat) = 1) := decide_eq_decide.mpr ⟨fun z => by omega, fun z => by omega⟩
          rw [s1, s2]
          simp [Bool.or_comm]
      constructor
      · intro h
        refine Classical.byContradiction (fun z => h ((eq0_bits hlt).mpr (fun x hx => ?_)))
        rw [bit x hx]
        cases hm : miB fl st k g x with
        | false => rfl
        | true => exact absurd ⟨x, hx, hm⟩ z
      · rintro ⟨x, hx, hm⟩ h
        have := (eq0_bits hlt).mp h x hx
        rw [bit x hx, hm] at this
        cases this
    rw [tb]
    have r1 : decide (andn (abM fl st n k) g ≠ 0) = !g.testBit b := by
      cases hx : g.testBit b with
      | false => exact decide_eq_true (th.mpr hx)
      | true => exact decide_eq_false (fun z => by rw [th.mp z] at hx; cases hx)
    by_cases c4 : st (183 + 4 * k) = 3
    · rw [if_pos c4, r1, decide_eq_true c4]
      have r2 : decide (neM fl st n k &&& g ≠ 0) = anyN (miB fl st k g) n := by
        cases hx : anyN (miB fl st k g) n with
        | true => exact decide_eq_true (nr.mpr hx)
        | false => exact decide_eq_false (fun z => by rw [nr.mp z] at hx; cases hx)
      rw [r2]
      cases g.testBit b <;> cases anyN (miB fl st k g) n <;> rfl
    · rw [if_neg c4, r1, decide_eq_false c4]
      have r2 : decide (neM fl st n k &&& g = 0) = !anyN (miB fl st k g) n := by
        cases hx : anyN (miB fl st k g) n with
        | true => exact decide_eq_false (nr.mpr hx)
        | false =>
          refine decide_eq_true (Classical.byContradiction (fun z => ?_))
          rw [nr.mp z] at hx
          cases hx
      rw [r2]
      cases g.testBit b <;> cases anyN (miB fl st k g) n <;> rfl
theorem lay_lt (st : Nat → Int) (n : Nat) : layM st n < 2 ^ n := msk_lt _ n
/-- the class's list is the reference's -/
theorem fit_dep {fl st : Nat → Int} {n P : Nat} (hn : n ≤ 12) (sg : SG st n P) (sl : SL st n P) : ((List.range (2 ^ pcN n (layM st n))).map (dep n (layM st n))).filter (fun g => allN (fun k => hoB fl st n k g) (st 182).toNat) = fitL fl st n := by
  rw [← sub_list n (layM st n) (lay_lt st n), List.filter_filter]
  unfold fitL
  refine List.filter_congr (fun g _ => ?_)
  unfold fitB
  by_cases c : g &&& layM st n = g
  · rw [decide_eq_true c, Bool.and_true, Bool.true_and]
    have e : ∀ m, m ≤ (st 182).toNat → allN (fun k => hoB fl st n k g) m = allN (fun k => soB fl st n k g) m := by
      intro m
      induction m with
      | zero => intro _; rfl
      | succ m ih =>
        intro hm
        show (allN (fun k => hoB fl st n k g) m && hoB fl st n m g) = (allN (fun k => soB fl st n k g) m && soB fl st n m g)
        rw [ih (by omega), ho_so hn sg sl (by have := sg.f0; omega) c]
    exact e _ (Nat.le_refl _)
  · rw [decide_eq_false c, Bool.and_false, Bool.false_and]
