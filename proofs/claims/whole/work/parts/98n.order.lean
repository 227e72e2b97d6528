/-! orders of meadows, and what they cost -/
def btr (f w : Nat → Int) (a b : Nat) : Prop := f a * w b < f b * w a
def prc (f w : Nat → Int) (a b : Nat) : Prop := btr f w a b ∨ (¬ btr f w b a ∧ a < b)
def cst (f w : Nat → Int) : Int → List Nat → Int
  | _, [] => 0
  | T, x :: L => (T + f x) * w x + cst f w (T + f x) L
section OD
variable {f w : Nat → Int}
theorem cst_c {T : Int} {x : Nat} {L : List Nat} : cst f w T (x :: L) = (T + f x) * w x + cst f w (T + f x) L := rfl
theorem cst_swap {T : Int} {m x : Nat} {R : List Nat} : cst f w T (m :: x :: R) = cst f w T (x :: m :: R) + (f m * w x - f x * w m) := by
  rw [cst_c, cst_c, cst_c, cst_c, show T + f x + f m = T + f m + f x by omega]
  simp only [Int.add_mul]
  omega
theorem cst_front {m : Nat} {B : List Nat} : ∀ (A : List Nat) (T : Int), (∀ x ∈ A, ¬ btr f w m x) → cst f w T (A ++ m :: B) ≤ cst f w T (m :: (A ++ B))
  | [], T, h => Int.le_refl _
  | x :: A, T, h => by
    have h1 := cst_front (m := m) (B := B) A (T + f x) (fun y hy => h y (List.mem_cons_of_mem x hy))
    have h2 := h x List.mem_cons_self
    unfold btr at h2
    have h3 := cst_swap (f := f) (w := w) (T := T) (m := m) (x := x) (R := A ++ B)
    show cst f w T (x :: (A ++ m :: B)) ≤ cst f w T (m :: x :: (A ++ B))
    rw [h3, cst_c, cst_c (x := x) (L := m :: (A ++ B))]
    omega
theorem cst_front_lt {m x : Nat} {A B : List Nat} {T : Int} (h : ∀ y ∈ x :: A, ¬ btr f w m y) (hx : btr f w x m) : cst f w T (x :: A ++ m :: B) < cst f w T (m :: (x :: A ++ B)) := by
  have h1 := cst_front (m := m) (B := B) A (T + f x) (fun y hy => h y (List.mem_cons_of_mem x hy))
  unfold btr at hx
  have h3 := cst_swap (f := f) (w := w) (T := T) (m := m) (x := x) (R := A ++ B)
  show cst f w T (x :: (A ++ m :: B)) < cst f w T (m :: x :: (A ++ B))
  rw [h3, cst_c, cst_c (x := x) (L := m :: (A ++ B))]
  omega
theorem cst_app : ∀ (A B : List Nat) (T : Int), cst f w T (A ++ B) = cst f w T A + cst f w (T + (A.map f).sum) B
  | [], B, T => by simp [cst]
  | x :: A, B, T => by
    have := cst_app A B (T + f x)
    show cst f w T (x :: (A ++ B)) = _
    rw [cst_c, cst_c, this, List.map_cons, List.sum_cons, Int.add_assoc T (f x)]
    omega
theorem cst_nn (hf : ∀ m, 0 ≤ f m) (hw : ∀ m, 0 ≤ w m) : ∀ (A : List Nat) (T : Int), 0 ≤ T → 0 ≤ cst f w T A
  | [], T, _ => Int.le_refl _
  | x :: A, T, hT => by
    rw [cst_c]
    have h1 := hf x
    have h2 := cst_nn hf hw A (T + f x) (by omega)
    have h3 := Int.mul_nonneg (show 0 ≤ T + f x by omega) (hw x)
    omega
theorem nb_trans (hf : ∀ m, 1 ≤ f m) {a b c : Nat} (h1 : ¬ btr f w b a) (h2 : ¬ btr f w c b) : ¬ btr f w c a := by
  unfold btr at *
  have fa := hf a
  have fb := hf b
  have fc := hf c
  have h3 : f a * w b ≤ f b * w a := by omega
  have h4 : f b * w c ≤ f c * w b := by omega
  have h5 : f a * (f b * w c) ≤ f a * (f c * w b) := Int.mul_le_mul_of_nonneg_left h4 (by omega)
  have h6 : f c * (f a * w b) ≤ f c * (f b * w a) := Int.mul_le_mul_of_nonneg_left h3 (by omega)
  have e1 : f a * (f c * w b) = f c * (f a * w b) := by rw [← Int.mul_assoc, ← Int.mul_assoc, Int.mul_comm (f a)]
  have e2 : f a * (f b * w c) = f b * (f a * w c) := by rw [← Int.mul_assoc, ← Int.mul_assoc, Int.mul_comm (f a)]
  have e3 : f c * (f b * w a) = f b * (f c * w a) := by rw [← Int.mul_assoc, ← Int.mul_assoc, Int.mul_comm (f c)]
  have h7 : f b * (f a * w c) ≤ f b * (f c * w a) := by omega
  have h8 := Int.le_of_mul_le_mul_left h7 (by omega)
  omega
theorem prc_nb {a b : Nat} (h : prc f w a b) : ¬ btr f w b a := by
  rcases h with h | h
  · unfold btr at *
    omega
  · exact h.1
/-- a new one put into its place -/
theorem ins_pw (hf : ∀ m, 1 ≤ f m) {L : List Nat} {m k : Nat} (hp : L.Pairwise (prc f w)) (hlt : ∀ x ∈ L, x < m) (hk : k ≤ L.length) (h1 : ∀ i (hi : i < L.length), k ≤ i → btr f w m L[i]) (h2 : ∀ hk : 0 < k, ¬ btr f w m (L[k - 1]'(by omega))) : (L.take k ++ m :: L.drop k).Pairwise (prc f w) := by
  have hx := List.pairwise_iff_getElem.mp hp
  have a1 : ∀ x ∈ L.take k, ¬ btr f w m x := by
    intro x hxm
    obtain ⟨i, hi, rfl⟩ := List.mem_iff_getElem.mp hxm
    rw [List.length_take] at hi
    rw [List.getElem_take]
    by_cases c : i = k - 1
    · subst c
      exact h2 (by omega)
    · have q := hx i (k - 1) (by omega) (by omega) (by omega)
      exact nb_trans hf (prc_nb q) (h2 (by omega))
  have a2 : ∀ y ∈ L.drop k, btr f w m y := by
    intro y hy
    obtain ⟨i, hi, rfl⟩ := List.mem_iff_getElem.mp hy
    rw [List.length_drop] at hi
    rw [List.getElem_drop]
    exact h1 _ (by omega) (by omega)
  have hp' : (L.take k ++ L.drop k).Pairwise (prc f w) := by rw [List.take_append_drop]; exact hp
  obtain ⟨b1, b2, b3⟩ := List.pairwise_append.mp hp'
  refine List.pairwise_append.mpr ⟨b1, List.pairwise_cons.mpr ⟨fun y hy => .inl (a2 y hy), b2⟩, fun x hx' y hy => ?_⟩
  rcases List.mem_cons.mp hy with rfl | hy
  · exact .inr ⟨a1 x hx', hlt x (List.mem_of_mem_take hx')⟩
  · exact b3 x hx' y hy
/-- those left over, in the order s -/
def rem (s : List Nat) (u : Nat) : List Nat := s.filter (fun m => !u.testBit m)
theorem rem_bit {s : List Nat} {u m : Nat} : rem s (u ||| 2 ^ m) = (rem s u).filter (fun x => decide (x ≠ m)) := by
  unfold rem
  rw [List.filter_filter]
  congr 1
  funext x
  rw [Nat.testBit_or, Nat.testBit_two_pow]
  by_cases c : m = x
  · subst c; simp
  · have c' : ¬ x = m := fun z => c z.symm
    simp [c, c']
theorem filt_ne {A B : List Nat} {m : Nat} (h : (A ++ m :: B).Nodup) : (A ++ m :: B).filter (fun x => decide (x ≠ m)) = A ++ B := by
  obtain ⟨h1, h2, h3⟩ := List.nodup_append.mp h
  have hB := (List.nodup_cons.mp h2).1
  have a1 : A.filter (fun x => decide (x ≠ m)) = A := List.filter_eq_self.mpr (fun x hx => by
    have : x ≠ m := h3 x hx m List.mem_cons_self
    simp [this])
  have a2 : B.filter (fun x => decide (x ≠ m)) = B := List.filter_eq_self.mpr (fun x hx => by
    have : x ≠ m := fun z => hB (z ▸ hx)
    simp [this])
  rw [List.filter_append, List.filter_cons, a1, a2]
  simp
/-- the first of those left over, taken first, is best -/
theorem best_first (hf : ∀ m, 1 ≤ f m) {s : List Nat} (hs : s.Pairwise (prc f w)) (hn : s.Nodup) {u s0 m : Nat} {R : List Nat} (h0 : rem s u = s0 :: R) (hm : m ∈ rem s u) (T : Int) : cst f w T (rem s u) ≤ cst f w T (m :: rem s (u ||| 2 ^ m)) ∧ (m < s0 → cst f w T (rem s u) < cst f w T (m :: rem s (u ||| 2 ^ m))) := by
  have hp : (rem s u).Pairwise (prc f w) := hs.filter _
  have hd : (rem s u).Nodup := hn.filter _
  obtain ⟨A, B, e⟩ := List.append_of_mem hm
  have e2 : rem s (u ||| 2 ^ m) = A ++ B := by
    rw [rem_bit, e]
    rw [e] at hd
    exact filt_ne hd
  rw [e2, e]
  rw [e] at hp h0
  obtain ⟨b1, b2, b3⟩ := List.pairwise_append.mp hp
  have hA : ∀ x ∈ A, ¬ btr f w m x := fun x hx => prc_nb (b3 x hx m List.mem_cons_self)
  refine ⟨cst_front A T hA, fun hlt => ?_⟩
  cases A with
  | nil =>
    have : m = s0 := by
      have := h0
      simp at this
      exact this.1
    omega
  | cons x A =>
    have hx : x = s0 := by
      have := h0
      simp at this
      exact this.1
    subst hx
    have q := b3 x List.mem_cons_self m List.mem_cons_self
    refine cst_front_lt hA ?_
    rcases q with q | q
    · exact q
    · omega
end OD
