/-! subsets of a mask, in their order -/
theorem eq_hv {x y : Nat} (h1 : x % 2 = y % 2) (h2 : x / 2 = y / 2) : x = y := by omega
theorem sub_iff (g l : Nat) : g &&& l = g ↔ (g % 2 = 1 → l % 2 = 1) ∧ g / 2 &&& l / 2 = g / 2 := by
  have h1 := Nat.and_mod_two_eq_one (a := g) (b := l)
  have h2 := Nat.and_div_two (a := g) (b := l)
  constructor
  · intro h
    rw [h] at h1 h2
    exact ⟨fun z => (h1.mp z).2, h2.symm⟩
  · rintro ⟨h3, h4⟩
    refine eq_hv ?_ (by rw [h2]; exact h4)
    rcases Nat.mod_two_eq_zero_or_one g with z | z
    · have : ¬ (g &&& l) % 2 = 1 := fun q => by have := (h1.mp q).1; omega
      omega
    · have := h1.mpr ⟨z, h3 z⟩
      omega
def andn (x y : Nat) : Nat := x ^^^ (x &&& y)
theorem andn_d (x y : Nat) : andn x y / 2 = andn (x / 2) (y / 2) := by
  unfold andn
  rw [Nat.xor_div_two, Nat.and_div_two]
theorem andn_m (x y : Nat) : andn x y % 2 = if x % 2 = 1 ∧ y % 2 = 0 then 1 else 0 := by
  have h1 := Nat.xor_mod_two_eq_one (a := x) (b := x &&& y)
  have h2 := Nat.and_mod_two_eq_one (a := x) (b := y)
  unfold andn
  by_cases a : x % 2 = 1
  · by_cases b : y % 2 = 1
    · have h3 := h2.mpr ⟨a, b⟩
      have h4 : ¬ (x ^^^ (x &&& y)) % 2 = 1 := fun q => (h1.mp q) ⟨fun _ => h3, fun _ => a⟩
      rw [if_neg (by omega)]
      omega
    · have h3 : ¬ (x &&& y) % 2 = 1 := fun q => b (h2.mp q).2
      have h4 := h1.mpr (fun q => h3 (q.mp a))
      rw [if_pos ⟨a, by omega⟩]
      exact h4
  · have h3 : ¬ (x &&& y) % 2 = 1 := fun q => a (h2.mp q).1
    have h4 : ¬ (x ^^^ (x &&& y)) % 2 = 1 := fun q => (h1.mp q) ⟨fun z => absurd z a, fun z => absurd z h3⟩
    rw [if_neg (fun z => a z.1)]
    omega
theorem sub_le {D k : Nat} (h : D &&& k = D) : D ≤ k := by
  rw [← h]
  exact Nat.and_le_right
theorem andn_self : ∀ n D k : Nat, k < 2 ^ n → D &&& k = D → andn k (k - D) = D
  | 0, D, k, hk, h => by
    have := sub_le h
    have h0 : k = 0 := by simpa using hk
    have h1 : D = 0 := by omega
    subst h0 h1
    rfl
  | n + 1, D, k, hk, h => by
    have hs := (sub_iff D k).mp h
    rw [Nat.pow_succ] at hk
    have ih := andn_self n (D / 2) (k / 2) (by omega) hs.2
    have hle := sub_le hs.2
    have hl := sub_le h
    have e1 : (k - D) / 2 = k / 2 - D / 2 := by
      rcases Nat.mod_two_eq_zero_or_one D with z | z
      · omega
      · have := hs.1 z
        omega
    have e2 : (k - D) % 2 = k % 2 - D % 2 := by
      rcases Nat.mod_two_eq_zero_or_one D with z | z
      · omega
      · have := hs.1 z
        omega
    refine eq_hv ?_ ?_
    · rw [andn_m, e2]
      rcases Nat.mod_two_eq_zero_or_one D with z | z
      · rcases Nat.mod_two_eq_zero_or_one k with q | q
        · rw [if_neg (by omega)]; omega
        · rw [if_neg (by omega)]; omega
      · have := hs.1 z
        rw [if_pos ⟨by omega, by omega⟩]
        omega
    · rw [andn_d, e1, ih]
/-- the next subset of l behind s -/
def nxN (l s : Nat) : Nat := if s = l then 0 else andn l (l - s - 1)
theorem nx_ev {l s : Nat} (hl : l % 2 = 0) (hs : s % 2 = 0) (hle : s ≤ l) : nxN l s = 2 * nxN (l / 2) (s / 2) := by
  unfold nxN
  by_cases c : s = l
  · rw [if_pos c, if_pos (by rw [c])]
  · rw [if_neg c, if_neg (by omega)]
    refine eq_hv ?_ ?_
    · rw [andn_m, if_neg (by omega)]; omega
    · rw [andn_d, show (l - s - 1) / 2 = l / 2 - s / 2 - 1 by omega]; omega
theorem nx_od0 {n l s : Nat} (hn : l < 2 ^ (n + 1)) (hl : l % 2 = 1) (hs : s % 2 = 0) (h : s / 2 &&& l / 2 = s / 2) : nxN l s = s + 1 := by
  unfold nxN
  rw [Nat.pow_succ] at hn
  have hle := sub_le h
  rw [if_neg (by omega)]
  refine eq_hv ?_ ?_
  · rw [andn_m, if_pos ⟨hl, by omega⟩]; omega
  · rw [andn_d, show (l - s - 1) / 2 = l / 2 - s / 2 by omega, andn_self n (s / 2) (l / 2) (by omega) h]; omega
theorem nx_od1 {l s : Nat} (hl : l % 2 = 1) (hs : s % 2 = 1) (hle : s ≤ l) : nxN l s = 2 * nxN (l / 2) (s / 2) := by
  unfold nxN
  by_cases c : s = l
  · rw [if_pos c, if_pos (by rw [c])]
  · rw [if_neg c, if_neg (by omega)]
    refine eq_hv ?_ ?_
    · rw [andn_m, if_neg (by omega)]; omega
    · rw [andn_d, show (l - s - 1) / 2 = l / 2 - s / 2 - 1 by omega]; omega
def dep : Nat → Nat → Nat → Nat
  | 0, _, _ => 0
  | n + 1, l, i => if l % 2 = 0 then 2 * dep n (l / 2) i else i % 2 + 2 * dep n (l / 2) (i / 2)
def pcN : Nat → Nat → Nat
  | 0, _ => 0
  | n + 1, l => l % 2 + pcN n (l / 2)
theorem pcN_s (n l : Nat) : pcN (n + 1) l = l % 2 + pcN n (l / 2) := rfl
theorem dep_sub : ∀ n l i : Nat, dep n l i &&& l = dep n l i
  | 0, l, i => by show 0 &&& l = 0; exact Nat.zero_and l
  | n + 1, l, i => by
    have key : ∀ j, dep n (l / 2) j &&& l / 2 = dep n (l / 2) j := fun j => dep_sub n (l / 2) j
    unfold dep
    rw [sub_iff]
    by_cases c : l % 2 = 0
    · rw [if_pos c]
      refine ⟨fun z => by omega, ?_⟩
      rw [show 2 * dep n (l / 2) i / 2 = dep n (l / 2) i by omega]
      exact key i
    · rw [if_neg c]
      refine ⟨fun z => by omega, ?_⟩
      rw [show (i % 2 + 2 * dep n (l / 2) (i / 2)) / 2 = dep n (l / 2) (i / 2) by omega]
      exact key (i / 2)
theorem dep_zero : ∀ n l : Nat, dep n l 0 = 0
  | 0, l => rfl
  | n + 1, l => by
    unfold dep
    have := dep_zero n (l / 2)
    by_cases c : l % 2 = 0
    · rw [if_pos c, this]
    · rw [if_neg c, show 0 / 2 = 0 from rfl, this]
theorem dep_next : ∀ n l i : Nat, l < 2 ^ n → i + 1 < 2 ^ pcN n l → dep n l (i + 1) = nxN l (dep n l i)
  | 0, l, i, hl, hi => by
    have : i + 1 < 1 := hi
    omega
  | n + 1, l, i, hl, hi => by
    have hl2 : l / 2 < 2 ^ n := by rw [Nat.pow_succ] at hl; omega
    have hs := dep_sub (n + 1) l i
    have hle := sub_le hs
    by_cases c : l % 2 = 0
    · have e : pcN (n + 1) l = pcN n (l / 2) := by rw [pcN_s]; omega
      rw [e] at hi
      have ih := dep_next n (l / 2) i hl2 hi
      have e1 : dep (n + 1) l i = 2 * dep n (l / 2) i := by rw [dep, if_pos c]
      have e2 : dep (n + 1) l (i + 1) = 2 * dep n (l / 2) (i + 1) := by rw [dep, if_pos c]
      rw [e1] at hle
      rw [e1, e2, ih, nx_ev c (by omega) hle, show 2 * dep n (l / 2) i / 2 = dep n (l / 2) i by omega]
    · have c1 : l % 2 = 1 := by omega
      have e : pcN (n + 1) l = pcN n (l / 2) + 1 := by rw [pcN_s]; omega
      rw [e, Nat.pow_succ] at hi
      have e1 : dep (n + 1) l i = i % 2 + 2 * dep n (l / 2) (i / 2) := by rw [dep, if_neg c]
      have e2 : dep (n + 1) l (i + 1) = (i + 1) % 2 + 2 * dep n (l / 2) ((i + 1) / 2) := by rw [dep, if_neg c]
      have hs2 := dep_sub n (l / 2) (i / 2)
      rcases Nat.mod_two_eq_zero_or_one i with z | z
      · rw [e1, e2, z, show (i + 1) % 2 = 1 by omega, show (i + 1) / 2 = i / 2 by omega]
        have e3 : (0 + 2 * dep n (l / 2) (i / 2)) / 2 = dep n (l / 2) (i / 2) := by omega
        rw [nx_od0 hl c1 (by omega) (by rw [e3]; exact hs2)]
        omega
      · have ih := dep_next n (l / 2) (i / 2) hl2 (by omega)
        rw [e1, z] at hle
        rw [e1, e2, z, show (i + 1) % 2 = 0 by omega, show (i + 1) / 2 = i / 2 + 1 by omega, ih, nx_od1 c1 (by omega) hle, show (1 + 2 * dep n (l / 2) (i / 2)) / 2 = dep n (l / 2) (i / 2) by omega]
        omega
theorem rng2 : ∀ m : Nat, List.range (2 * m) = (List.range m).flatMap (fun t => [2 * t, 2 * t + 1])
  | 0 => rfl
  | m + 1 => by
    rw [show 2 * (m + 1) = (2 * m + 1) + 1 by omega, List.range_succ, List.range_succ, List.range_succ, List.flatMap_append, rng2 m]
    simp
theorem fm_ev (q : Nat → Bool) : ∀ R : List Nat, R.flatMap (fun t => if q t then [2 * t] else []) = (R.filter q).map (fun t => 2 * t)
  | [] => rfl
  | x :: R => by
    rw [List.flatMap_cons, fm_ev q R, List.filter_cons]
    cases q x <;> simp
theorem fm_od (q : Nat → Bool) : ∀ R : List Nat, R.flatMap (fun t => if q t then [2 * t, 2 * t + 1] else []) = (R.filter q).flatMap (fun t => [2 * t, 2 * t + 1])
  | [] => rfl
  | x :: R => by
    rw [List.flatMap_cons, fm_od q R, List.filter_cons]
    cases q x <;> simp
theorem sub_list : ∀ n l : Nat, l < 2 ^ n → (List.range (2 ^ n)).filter (fun g => decide (g &&& l = g)) = (List.range (2 ^ pcN n l)).map (dep n l)
  | 0, l, hl => by
    have h0 : l = 0 := by simpa using hl
    subst h0
    decide
  | n + 1, l, hl => by
    have hl2 : l / 2 < 2 ^ n := by rw [Nat.pow_succ] at hl; omega
    have ih := sub_list n (l / 2) hl2
    rw [Nat.pow_succ, Nat.mul_comm, rng2, List.filter_flatMap]
    by_cases c : l % 2 = 0
    · have e : pcN (n + 1) l = pcN n (l / 2) := by rw [pcN_s]; omega
      have e1 : dep (n + 1) l = fun i => 2 * dep n (l / 2) i := by funext i; rw [dep, if_pos c]
      have e2 : (fun t : Nat => List.filter (fun g => decide (g &&& l = g)) [2 * t, 2 * t + 1]) = fun t => if (fun g => decide (g &&& l / 2 = g)) t = true then [2 * t] else [] := by
        funext t
        have h1 : decide (2 * t &&& l = 2 * t) = decide (t &&& l / 2 = t) := by
          apply decide_eq_decide.mpr
          rw [sub_iff, show 2 * t / 2 = t by omega]
          exact ⟨fun z => z.2, fun z => ⟨fun q => by omega, z⟩⟩
        have h2 : decide ((2 * t + 1) &&& l = 2 * t + 1) = false := by
          apply decide_eq_false
          rw [sub_iff]
          exact fun z => by have := z.1 (by omega); omega
        rw [List.filter_cons, List.filter_cons, h1, h2]
        simp
      rw [e, e1, e2, fm_ev, ih, List.map_map]
      rfl
    · have c1 : l % 2 = 1 := by omega
      have e : pcN (n + 1) l = pcN n (l / 2) + 1 := by rw [pcN_s]; omega
      have e2 : (fun t : Nat => List.filter (fun g => decide (g &&& l = g)) [2 * t, 2 * t + 1]) = fun t => if (fun g => decide (g &&& l / 2 = g)) t = true then [2 * t, 2 * t + 1] else [] := by
        funext t
        have h1 : decide (2 * t &&& l = 2 * t) = decide (t &&& l / 2 = t) := by
          apply decide_eq_decide.mpr
          rw [sub_iff, show 2 * t / 2 = t by omega]
          exact ⟨fun z => z.2, fun z => ⟨fun q => by omega, z⟩⟩
        have h2 : decide ((2 * t + 1) &&& l = 2 * t + 1) = decide (t &&& l / 2 = t) := by
          apply decide_eq_decide.mpr
          rw [sub_iff, show (2 * t + 1) / 2 = t by omega]
          exact ⟨fun z => z.2, fun z => ⟨fun q => c1, z⟩⟩
        rw [List.filter_cons, List.filter_cons, h1, h2]
        by_cases q : t &&& l / 2 = t <;> simp [q]
      rw [e, Nat.pow_succ, Nat.mul_comm, rng2, e2, fm_od, ih, List.map_flatMap, List.flatMap_map]
      congr 1
      funext i
      have d0 : dep (n + 1) l (2 * i) = 2 * dep n (l / 2) i := by
        rw [dep, if_neg c, show 2 * i / 2 = i by omega]; omega
      have d1 : dep (n + 1) l (2 * i + 1) = 2 * dep n (l / 2) i + 1 := by
        rw [dep, if_neg c, show (2 * i + 1) / 2 = i by omega]; omega
      simp [d0, d1]
