/-! few looks: what both count -/
/-- which sets of the row lack beast b -/
def spl (S : Nat → Nat) (K r b : Nat) : Nat := msk (fun k => r.testBit k && (S k).testBit b) K
def minN (F : Nat → Nat) (c : Nat) : Nat → Nat
  | 0 => c
  | n + 1 => if F n < minN F c n then F n else minN F c n
theorem minN_s (F : Nat → Nat) (c n : Nat) : minN F c (n + 1) = if F n < minN F c n then F n else minN F c n := rfl
theorem min_c {F : Nat → Nat} {c : Nat} : ∀ n, minN F c n ≤ c
  | 0 => Nat.le_refl c
  | n + 1 => by
    have := min_c (F := F) (c := c) n
    rw [minN_s]
    split <;> omega
theorem min_le {F : Nat → Nat} {c : Nat} : ∀ {n b}, b < n → minN F c n ≤ F b
  | 0, b, h => by omega
  | n + 1, b, h => by
    rw [minN_s]
    by_cases e : b = n
    · subst e
      split <;> omega
    · have := min_le (F := F) (c := c) (show b < n by omega)
      split <;> omega
theorem min_at {F : Nat → Nat} {c : Nat} : ∀ n, minN F c n = c ∨ ∃ b, b < n ∧ minN F c n = F b
  | 0 => .inl rfl
  | n + 1 => by
    rw [minN_s]
    split
    · exact .inr ⟨n, by omega, rfl⟩
    · rcases min_at (F := F) (c := c) n with h | ⟨b, h1, h2⟩
      · exact .inl h
      · exact .inr ⟨b, by omega, h2⟩
theorem min_congr {F G : Nat → Nat} {c : Nat} : ∀ {n}, (∀ b, b < n → F b = G b) → minN F c n = minN G c n
  | 0, _ => rfl
  | n + 1, h => by
    rw [minN_s, minN_s, h n (by omega), min_congr (fun b hb => h b (by omega))]
def lkB (S : Nat → Nat) (K : Nat) (lk : Nat → Nat) (r b : Nat) : Nat := if spl S K r b = 0 ∨ spl S K r b = r then 99 else 1 + (if lk (andn r (spl S K r b)) < lk (spl S K r b) then lk (spl S K r b) else lk (andn r (spl S K r b)))
def lkF (S : Nat → Nat) (n K : Nat) : Nat → Nat → Nat
  | 0, _ => 0
  | d + 1, r => if r &&& (r - 1) = 0 then 0 else minN (lkB S K (lkF S n K d) r) 99 n
def lkM (S : Nat → Nat) (n K : Nat) (r : Nat) : Nat := lkF S n K 16 r
theorem pc_split : ∀ n g r : Nat, g &&& r = g → pcN n g + pcN n (andn r g) = pcN n r
  | 0, _, _, _ => rfl
  | n + 1, g, r, h => by
    rw [pcN_s, pcN_s, pcN_s, andn_d, andn_m]
    have h2 : g / 2 &&& r / 2 = g / 2 := by rw [← Nat.and_div_two, h]
    have ih := pc_split n (g / 2) (r / 2) h2
    have h3 : g % 2 = 1 → r % 2 = 1 := by
      intro z
      have := sub_bits.mp h 0 (by rw [Nat.testBit_zero, z]; rfl)
      rw [Nat.testBit_zero] at this
      simpa using this
    have e1 := Nat.mod_two_eq_zero_or_one g
    have e2 := Nat.mod_two_eq_zero_or_one r
    split <;> omega
theorem pc_pos : ∀ n x : Nat, x < 2 ^ n → (pcN n x = 0 ↔ x = 0)
  | 0, x, h => by
    have : x = 0 := by simpa using h
    subst this
    exact ⟨fun _ => rfl, fun _ => rfl⟩
  | n + 1, x, h => by
    rw [pcN_s]
    have := pc_pos n (x / 2) (by rw [Nat.pow_succ] at h; omega)
    omega
theorem bit_one : ∀ n x : Nat, 1 ≤ pcN n x → ∃ i, i < n ∧ x.testBit i = true
  | 0, x, h => by simp [pcN] at h
  | n + 1, x, h => by
    rw [pcN_s] at h
    by_cases c : x % 2 = 1
    · exact ⟨0, by omega, by rw [Nat.testBit_zero, c]; rfl⟩
    · obtain ⟨i, h1, h2⟩ := bit_one n (x / 2) (by omega)
      exact ⟨i + 1, by omega, by rw [Nat.testBit_succ]; exact h2⟩
theorem bit_two : ∀ n x : Nat, 2 ≤ pcN n x → ∃ i j, i < j ∧ j < n ∧ x.testBit i = true ∧ x.testBit j = true
  | 0, x, h => by simp [pcN] at h
  | n + 1, x, h => by
    rw [pcN_s] at h
    by_cases c : x % 2 = 1
    · obtain ⟨j, h1, h2⟩ := bit_one n (x / 2) (by omega)
      exact ⟨0, j + 1, by omega, by omega, by rw [Nat.testBit_zero, c]; rfl, by rw [Nat.testBit_succ]; exact h2⟩
    · obtain ⟨i, j, h1, h2, h3, h4⟩ := bit_two n (x / 2) (by omega)
      exact ⟨i + 1, j + 1, by omega, by omega, by rw [Nat.testBit_succ]; exact h3, by rw [Nat.testBit_succ]; exact h4⟩
theorem spl_bit (S : Nat → Nat) (K r b k : Nat) : (spl S K r b).testBit k = (decide (k < K) && (r.testBit k && (S k).testBit b)) := msk_bit _ k K
theorem spl_sub (S : Nat → Nat) (K r b : Nat) : spl S K r b &&& r = spl S K r b := by
  rw [sub_bits]
  intro k hk
  rw [spl_bit] at hk
  simp only [Bool.and_eq_true] at hk
  exact hk.2.1
theorem spl_lt {S : Nat → Nat} {K r b : Nat} : spl S K r b < 2 ^ K := msk_lt _ K
theorem K16 {K x : Nat} (hK : K ≤ 16) (h : x < 2 ^ K) : x < 65536 := Nat.lt_of_lt_of_le h (Nat.pow_le_pow_right (n := 2) (by decide) hK)
/-- both parts of a row that is told apart are smaller -/
theorem part_lt {r g : Nat} (hr : r < 65536) (hs : g &&& r = g) (h0 : g ≠ 0) (h1 : g ≠ r) : 1 ≤ pcN 16 g ∧ 1 ≤ pcN 16 (andn r g) ∧ pcN 16 g + pcN 16 (andn r g) = pcN 16 r := by
  have e := pc_split 16 g r hs
  have l1 := sub_le hs
  have p1 := pc_pos 16 g (by omega)
  have p2 := pc_pos 16 (andn r g) (andn_lt hr)
  have a0 : andn r g ≠ 0 := by
    intro z
    have := andn0.mp z
    rw [Nat.and_comm, hs] at this
    exact h1 this
  omega
theorem one_bit' : ∀ n r : Nat, r < 2 ^ n → (r &&& (r - 1) = 0 ↔ pcN n r ≤ 1)
  | 0, r, h => by
    have : r = 0 := by simpa using h
    subst this
    exact ⟨fun _ => by decide, fun _ => rfl⟩
  | n + 1, r, h => by
    have h2 : r / 2 < 2 ^ n := by rw [Nat.pow_succ] at h; omega
    have ih := one_bit' n (r / 2) h2
    have pz := pc_pos n (r / 2) h2
    have d : (r &&& (r - 1)) / 2 = r / 2 &&& (r - 1) / 2 := Nat.and_div_two
    have m : (r &&& (r - 1)) % 2 = 0 := by
      have t : (r &&& (r - 1)).testBit 0 = false := by
        rw [Nat.testBit_and, Nat.testBit_zero, Nat.testBit_zero]
        by_cases c : r % 2 = 1
        · rw [decide_eq_false (show ¬ (r - 1) % 2 = 1 by omega), Bool.and_false]
        · rw [decide_eq_false c, Bool.false_and]
      rw [Nat.testBit_zero] at t
      have := of_decide_eq_false t
      omega
    rw [pcN_s]
    by_cases c : r % 2 = 1
    · rw [show (r - 1) / 2 = r / 2 by omega, Nat.and_self] at d
      omega
    · by_cases z : r = 0
      · subst z
        exact ⟨fun _ => by rw [show 0 % 2 = 0 from rfl, show 0 / 2 = 0 from rfl]; have := (pc_pos n 0 (Nat.two_pow_pos n)).mpr rfl; omega, fun _ => rfl⟩
      · rw [show (r - 1) / 2 = r / 2 - 1 by omega] at d
        omega
theorem one_bit {x : Nat} (h : x < 65536) : x &&& (x - 1) = 0 ↔ pcN 16 x ≤ 1 := one_bit' 16 x h
theorem lk_stab {S : Nat → Nat} {n K : Nat} : ∀ d r, r < 65536 → pcN 16 r ≤ d → lkF S n K (d + 1) r = lkF S n K d r
  | 0, r, hr, h => by
    have : r = 0 := (pc_pos 16 r hr).mp (by omega)
    subst this
    rfl
  | d + 1, r, hr, h => by
    show (if r &&& (r - 1) = 0 then 0 else minN (lkB S K (lkF S n K (d + 1)) r) 99 n) = if r &&& (r - 1) = 0 then 0 else minN (lkB S K (lkF S n K d) r) 99 n
    by_cases c : r &&& (r - 1) = 0
    · rw [if_pos c, if_pos c]
    · rw [if_neg c, if_neg c]
      refine min_congr (fun b _ => ?_)
      unfold lkB
      by_cases c2 : spl S K r b = 0 ∨ spl S K r b = r
      · rw [if_pos c2, if_pos c2]
      · rw [if_neg c2, if_neg c2]
        have sub := spl_sub S K r b
        have pl := part_lt hr sub (fun z => c2 (.inl z)) (fun z => c2 (.inr z))
        have l1 := sub_le sub
        have l2 : andn r (spl S K r b) < 65536 := andn_lt (n := 16) hr
        rw [lk_stab d (spl S K r b) (by omega) (by omega), lk_stab d (andn r (spl S K r b)) l2 (by omega)]
theorem lk_eq {S : Nat → Nat} {n K r : Nat} (hr : r < 65536) : lkM S n K r = if pcN 16 r ≤ 1 then 0 else minN (lkB S K (lkM S n K) r) 99 n := by
  have h := lk_stab (S := S) (n := n) (K := K) 16 r hr (pc_le 16 r)
  unfold lkM
  rw [← h]
  show (if r &&& (r - 1) = 0 then 0 else minN (lkB S K (lkF S n K 16) r) 99 n) = _
  by_cases c : pcN 16 r ≤ 1
  · rw [if_pos c, if_pos ((one_bit hr).mpr c)]
  · rw [if_neg c, if_neg (fun z => c ((one_bit hr).mp z))]
/-- the sets differ, and are of the beasts -/
def DS (S : Nat → Nat) (n K : Nat) : Prop := K ≤ 16 ∧ (∀ k, k < K → S k < 2 ^ n) ∧ ∀ i j, i < K → j < K → S i = S j → i = j
theorem tell_ex {S : Nat → Nat} {n K r : Nat} (D : DS S n K) (hr : r < 2 ^ K) (h : 2 ≤ pcN 16 r) : ∃ b, b < n ∧ spl S K r b ≠ 0 ∧ spl S K r b ≠ r := by
  obtain ⟨i, j, h1, h2, h3, h4⟩ := bit_two 16 r h
  have lt : ∀ i, r.testBit i = true → i < K := fun i hi => by
    refine Classical.byContradiction (fun z => ?_)
    have : r.testBit i = false := Nat.testBit_lt_two_pow (Nat.lt_of_lt_of_le hr (Nat.pow_le_pow_right (by decide) (by omega)))
    rw [hi] at this
    cases this
  have iK := lt i h3
  have jK := lt j h4
  have ne : S i ≠ S j := fun z => by
    have := D.2.2 i j iK jK z
    omega
  have ex : ∃ b, (S i).testBit b ≠ (S j).testBit b := Classical.byContradiction (fun z => ne (Nat.eq_of_testBit_eq (fun b => Classical.byContradiction (fun y => z ⟨b, y⟩))))
  obtain ⟨b, hb⟩ := ex
  have bn : b < n := by
    refine Classical.byContradiction (fun z => hb ?_)
    have p : 2 ^ n ≤ 2 ^ b := Nat.pow_le_pow_right (by decide) (by omega)
    rw [Nat.testBit_lt_two_pow (Nat.lt_of_lt_of_le (D.2.1 i iK) p), Nat.testBit_lt_two_pow (Nat.lt_of_lt_of_le (D.2.1 j jK) p)]
  have e1 := spl_bit S K r b i
  have e2 := spl_bit S K r b j
  rw [h3, decide_eq_true iK, Bool.true_and, Bool.true_and] at e1
  rw [h4, decide_eq_true jK, Bool.true_and, Bool.true_and] at e2
  refine ⟨b, bn, fun z => ?_, fun z => ?_⟩
  · rw [z, Nat.zero_testBit] at e1 e2
    exact hb (by rw [← e1, ← e2])
  · rw [z, h3] at e1
    rw [z, h4] at e2
    exact hb (by rw [← e1, ← e2])
theorem lkB_pos {S : Nat → Nat} {K r b : Nat} {lk : Nat → Nat} : 1 ≤ lkB S K lk r b := by
  unfold lkB
  split <;> omega
theorem lkm_b {S : Nat → Nat} {n K : Nat} (D : DS S n K) : ∀ d r, r < 2 ^ K → pcN 16 r ≤ d → lkM S n K r ≤ pcN 16 r - 1 ∧ (2 ≤ pcN 16 r → 1 ≤ lkM S n K r)
  | 0, r, hr, h => by
    rw [lk_eq (K16 D.1 hr), if_pos (by omega)]
    omega
  | d + 1, r, hr, h => by
    have r16 := K16 D.1 hr
    rw [lk_eq r16]
    by_cases c : pcN 16 r ≤ 1
    · rw [if_pos c]
      omega
    · rw [if_neg c]
      obtain ⟨b, hb, t1, t2⟩ := tell_ex D hr (by omega)
      have sub := spl_sub S K r b
      have pl := part_lt r16 sub t1 t2
      have l1 := sub_le sub
      have ml := min_le (F := lkB S K (lkM S n K) r) (c := 99) hb
      have i1 := lkm_b D d (spl S K r b) spl_lt (by omega)
      have i2 := lkm_b D d (andn r (spl S K r b)) (andn_lt hr) (by omega)
      have e : lkB S K (lkM S n K) r b = 1 + (if lkM S n K (andn r (spl S K r b)) < lkM S n K (spl S K r b) then lkM S n K (spl S K r b) else lkM S n K (andn r (spl S K r b))) := by
        unfold lkB
        rw [if_neg (fun z => z.elim t1 t2)]
      rw [e] at ml
      constructor
      · split at ml <;> omega
      · intro _
        rcases min_at (F := lkB S K (lkM S n K) r) (c := 99) n with z | ⟨b', _, z⟩
        · rw [z]; omega
        · rw [z]; exact lkB_pos
theorem lk_15 {S : Nat → Nat} {n K r : Nat} (D : DS S n K) (hr : r < 2 ^ K) : lkM S n K r ≤ 15 := by
  have := (lkm_b D 16 r hr (pc_le 16 r)).1
  have := pc_le 16 r
  omega
