/-! the tokens of a text -/
def rnF (p : Nat → Bool) (N : Nat) : Nat → Nat → Nat
  | 0, k => k
  | f + 1, k => if k < N ∧ p k = true then rnF p N f (k + 1) else k
def rnE (p : Nat → Bool) (N k : Nat) : Nat := rnF p N N k
theorem rn_all {p : Nat → Bool} {N : Nat} : ∀ f k, k ≤ N → N - k ≤ f → k ≤ rnF p N f k ∧ rnF p N f k ≤ N ∧ (∀ i, k ≤ i → i < rnF p N f k → p i = true) ∧ (rnF p N f k < N → p (rnF p N f k) = false)
  | 0, k, hk, hf => by
    have e : rnF p N 0 k = k := rfl
    rw [e]
    exact ⟨Nat.le_refl _, hk, fun i h1 h2 => by omega, fun h => by omega⟩
  | f + 1, k, hk, hf => by
    have e : rnF p N (f + 1) k = if k < N ∧ p k = true then rnF p N f (k + 1) else k := rfl
    rw [e]
    by_cases c : k < N ∧ p k = true
    · rw [if_pos c]
      obtain ⟨h1, h2, h3, h4⟩ := rn_all (p := p) (N := N) f (k + 1) (by omega) (by omega)
      refine ⟨by omega, h2, fun i g1 g2 => ?_, h4⟩
      by_cases e : i = k
      · rw [e]; exact c.2
      · exact h3 i (by omega) g2
    · rw [if_neg c]
      refine ⟨Nat.le_refl _, hk, fun i g1 g2 => by omega, fun h => ?_⟩
      cases hp : p k with
      | false => rfl
      | true => exact absurd ⟨h, hp⟩ c
theorem rn_spec {p : Nat → Bool} {N k : Nat} (hk : k ≤ N) : k ≤ rnE p N k ∧ rnE p N k ≤ N ∧ (∀ i, k ≤ i → i < rnE p N k → p i = true) ∧ (rnE p N k < N → p (rnE p N k) = false) := rn_all N k hk (by omega)
theorem rn_uniq {p : Nat → Bool} {N k e : Nat} (h1 : k ≤ e) (h2 : e ≤ N) (h3 : ∀ i, k ≤ i → i < e → p i = true) (h4 : e < N → p e = false) : rnE p N k = e := by
  obtain ⟨g1, g2, g3, g4⟩ := rn_spec (p := p) (N := N) (k := k) (by omega)
  rcases Nat.lt_trichotomy (rnE p N k) e with c | c | c
  · have a := g4 (by omega)
    have b := h3 _ g1 c
    rw [a] at b
    cases b
  · exact c
  · have a := h4 (by omega)
    have b := g3 _ h1 c
    rw [a] at b
    cases b
theorem rn_step {p : Nat → Bool} {N k : Nat} (hk : k < N) (hp : p k = true) : rnE p N k = rnE p N (k + 1) := by
  obtain ⟨g1, g2, g3, g4⟩ := rn_spec (p := p) (N := N) (k := k + 1) (by omega)
  refine rn_uniq (by omega) g2 (fun i h1 h2 => ?_) g4
  by_cases e : i = k
  · rw [e]; exact hp
  · exact g3 i (by omega) h2
theorem rn_stop {p : Nat → Bool} {N k : Nat} (hk : k ≤ N) (h : k < N → p k = false) : rnE p N k = k := rn_uniq (Nat.le_refl _) hk (fun i h1 h2 => by omega) h
def blB (c : Nat → Int) (k : Nat) : Bool := decide (c k = 10 ∨ c k = 32)
def ltB (c : Nat → Int) (k : Nat) : Bool := decide (97 ≤ c k ∧ c k ≤ 122)
def dgB (c : Nat → Int) (k : Nat) : Bool := decide (48 ≤ c k ∧ c k ≤ 57)
def sgB (x : Int) : Bool := decide (x = 40 ∨ x = 41 ∨ x = 59 ∨ x = 61 ∨ x = 60 ∨ x = 43 ∨ x = 45 ∨ x = 42)
def skE (c : Nat → Int) (N k : Nat) : Nat := rnE (blB c) N k
def teE (c : Nat → Int) (N s : Nat) : Nat := if s < N then (if ltB c s = true then rnE (ltB c) N s else if dgB c s = true then rnE (dgB c) N s else s + 1) else s
def bpE (c : Nat → Int) (N : Nat) : Nat → Nat
  | 0 => 0
  | i + 1 => teE c N (skE c N (bpE c N i))
def plE (c : Nat → Int) (N i : Nat) : Nat := skE c N (bpE c N i)
theorem bp_s (c : Nat → Int) (N i : Nat) : bpE c N (i + 1) = teE c N (plE c N i) := rfl
theorem te_b {c : Nat → Int} {N s : Nat} (hs : s ≤ N) : s ≤ teE c N s ∧ teE c N s ≤ N ∧ (s < N → s < teE c N s) := by
  unfold teE
  by_cases h : s < N
  · rw [if_pos h]
    by_cases h1 : ltB c s = true
    · rw [if_pos h1]
      obtain ⟨g1, g2, g3, g4⟩ := rn_spec (p := ltB c) hs
      refine ⟨g1, g2, fun _ => ?_⟩
      rcases Nat.lt_or_ge s (rnE (ltB c) N s) with q | q
      · exact q
      · have e : rnE (ltB c) N s = s := by omega
        have := g4 (by omega)
        rw [e, h1] at this
        cases this
    · rw [if_neg h1]
      by_cases h2 : dgB c s = true
      · rw [if_pos h2]
        obtain ⟨g1, g2, g3, g4⟩ := rn_spec (p := dgB c) hs
        refine ⟨g1, g2, fun _ => ?_⟩
        rcases Nat.lt_or_ge s (rnE (dgB c) N s) with q | q
        · exact q
        · have e : rnE (dgB c) N s = s := by omega
          have := g4 (by omega)
          rw [e, h2] at this
          cases this
      · rw [if_neg h2]
        omega
  · rw [if_neg h]
    omega
theorem skp_b {c : Nat → Int} {N k : Nat} (hk : k ≤ N) : k ≤ skE c N k ∧ skE c N k ≤ N ∧ (skE c N k < N → blB c (skE c N k) = false) := by
  obtain ⟨g1, g2, g3, g4⟩ := rn_spec (p := blB c) hk
  exact ⟨g1, g2, g4⟩
theorem bp_b {c : Nat → Int} {N : Nat} : ∀ i, bpE c N i ≤ N
  | 0 => Nat.zero_le _
  | i + 1 => (te_b (skp_b (bp_b i)).2.1).2.1
theorem pl_b {c : Nat → Int} {N i : Nat} : bpE c N i ≤ plE c N i ∧ plE c N i ≤ N := ⟨(skp_b (bp_b i)).1, (skp_b (bp_b i)).2.1⟩
theorem bp_up {c : Nat → Int} {N i : Nat} (h : plE c N i < N) : plE c N i < bpE c N (i + 1) := (te_b pl_b.2).2.2 h
def hnE (b : Int) (d : Nat → Int) : Nat → Int
  | 0 => 0
  | j + 1 => hnE b d j * b + d j
theorem hn_s (b : Int) (d : Nat → Int) (j : Nat) : hnE b d (j + 1) = hnE b d j * b + d j := rfl
theorem hn_congr {b : Int} {d e : Nat → Int} : ∀ m, (∀ j, j < m → d j = e j) → hnE b d m = hnE b e m
  | 0, _ => rfl
  | m + 1, h => by rw [hn_s, hn_s, hn_congr m (fun j hj => h j (by omega)), h m (by omega)]
theorem hn_nn27 {d : Nat → Int} : ∀ m, (∀ j, j < m → 1 ≤ d j ∧ d j ≤ 26) → 0 ≤ hnE 27 d m
  | 0, _ => Int.le_refl _
  | m + 1, h => by
    have a := hn_nn27 m (fun j hj => h j (by omega))
    have b := h m (by omega)
    rw [hn_s]
    omega
theorem hn_nn37 {d : Nat → Int} : ∀ m, (∀ j, j < m → 1 ≤ d j ∧ d j ≤ 26) → 0 ≤ hnE 37 d m
  | 0, _ => Int.le_refl _
  | m + 1, h => by
    have a := hn_nn37 m (fun j hj => h j (by omega))
    have b := h m (by omega)
    rw [hn_s]
    omega
theorem hn_inj27 {d e : Nat → Int} : ∀ m n, (∀ j, j < m → 1 ≤ d j ∧ d j ≤ 26) → (∀ j, j < n → 1 ≤ e j ∧ e j ≤ 26) → hnE 27 d m = hnE 27 e n → m = n ∧ ∀ j, j < m → d j = e j
  | 0, 0, _, _, _ => ⟨rfl, fun j hj => by omega⟩
  | 0, n + 1, _, he, h => by
    have a := hn_nn27 n (fun j hj => he j (by omega))
    have b := he n (by omega)
    rw [hn_s, show hnE 27 d 0 = 0 from rfl] at h
    omega
  | m + 1, 0, hd, _, h => by
    have a := hn_nn27 m (fun j hj => hd j (by omega))
    have b := hd m (by omega)
    rw [hn_s, show hnE 27 e 0 = 0 from rfl] at h
    omega
  | m + 1, n + 1, hd, he, h => by
    have a := hd m (by omega)
    have b := he n (by omega)
    rw [hn_s, hn_s] at h
    obtain ⟨h1, h2⟩ := hn_inj27 m n (fun j hj => hd j (by omega)) (fun j hj => he j (by omega)) (by omega)
    subst h1
    refine ⟨rfl, fun j hj => ?_⟩
    by_cases q : j = m
    · subst q; omega
    · exact h2 j (by omega)
theorem hn_inj37 {d e : Nat → Int} : ∀ m n, (∀ j, j < m → 1 ≤ d j ∧ d j ≤ 26) → (∀ j, j < n → 1 ≤ e j ∧ e j ≤ 26) → hnE 37 d m = hnE 37 e n → m = n ∧ ∀ j, j < m → d j = e j
  | 0, 0, _, _, _ => ⟨rfl, fun j hj => by omega⟩
  | 0, n + 1, _, he, h => by
    have a := hn_nn37 n (fun j hj => he j (by omega))
    have b := he n (by omega)
    rw [hn_s, show hnE 37 d 0 = 0 from rfl] at h
    omega
  | m + 1, 0, hd, _, h => by
    have a := hn_nn37 m (fun j hj => hd j (by omega))
    have b := hd m (by omega)
    rw [hn_s, show hnE 37 e 0 = 0 from rfl] at h
    omega
  | m + 1, n + 1, hd, he, h => by
    have a := hd m (by omega)
    have b := he n (by omega)
    rw [hn_s, hn_s] at h
    obtain ⟨h1, h2⟩ := hn_inj37 m n (fun j hj => hd j (by omega)) (fun j hj => he j (by omega)) (by omega)
    subst h1
    refine ⟨rfl, fun j hj => ?_⟩
    by_cases q : j = m
    · subst q; omega
    · exact h2 j (by omega)
theorem hn_both {d e : Nat → Int} {m n : Nat} (hd : ∀ j, j < m → 1 ≤ d j ∧ d j ≤ 26) (he : ∀ j, j < n → 1 ≤ e j ∧ e j ≤ 26) : hnE 37 d m = hnE 37 e n ↔ hnE 27 d m = hnE 27 e n := by
  refine ⟨fun h => ?_, fun h => ?_⟩
  · obtain ⟨h1, h2⟩ := hn_inj37 m n hd he h
    subst h1
    exact hn_congr m h2
  · obtain ⟨h1, h2⟩ := hn_inj27 m n hd he h
    subst h1
    exact hn_congr m h2
def wlet : List (List Int) := [[6, 9, 5, 12, 4], [2, 5, 1, 19, 20], [20, 15, 14, 5], [12, 9, 11, 5], [12, 9, 5], [13, 5, 1, 4, 15, 23], [7, 18, 1, 19, 19], [6, 1, 18], [19, 20, 18, 1, 25], [5, 23, 5], [12, 5, 1, 4, 5, 18], [20, 23, 9, 14], [2, 12, 9, 14, 4], [12, 1, 13, 5], [6, 15, 18, 5, 9, 7, 14], [14, 15, 20], [1, 14, 4], [15, 18], [12, 9, 11, 9, 14, 7], [16, 12, 1, 3, 5], [18, 15, 15, 13], [15, 12, 4], [5, 4, 7, 5], [6, 18, 9, 5, 14, 4, 19]]
def wl27 : List Int := [3369766, 1162559, 404978, 243059, 8996, 189216023, 4075642, 4419, 10504213, 4271, 174866841, 410684, 1306021, 237281, 2549427656, 10631, 1111, 423, 177193312, 8740067, 365647, 11263, 101525, 2587694977]
def wl37 : List Int := [11708136, 4003679, 1034118, 620569, 16766, 910898953, 14032972, 8269, 36646823, 7701, 841554621, 1044894, 4369001, 609691, 16468518566, 19741, 1891, 573, 849564962, 30595897, 932857, 20983, 259005, 16659689727]
def wdg (w j : Nat) : Int := (wlet.getD w []).getD j 0
def wln (w : Nat) : Nat := (wlet.getD w []).length
theorem wl_ok : ∀ w, w < 24 → wl27.getD w 0 = hnE 27 (wdg w) (wln w) ∧ wl37.getD w 0 = hnE 37 (wdg w) (wln w) ∧ ∀ j, j < wln w → 1 ≤ wdg w j ∧ wdg w j ≤ 26 := by decide
theorem word_iff {d : Nat → Int} {m w : Nat} (hd : ∀ j, j < m → 1 ≤ d j ∧ d j ≤ 26) (hw : w < 24) : hnE 37 d m = wl37.getD w 0 ↔ hnE 27 d m = wl27.getD w 0 := by
  obtain ⟨h1, h2, h3⟩ := wl_ok w hw
  rw [h1, h2]
  exact hn_both hd h3
def wnL : List Int → Int → Nat → Int
  | [], _, k => (k : Int)
  | x :: r, v, k => if v = x then (k : Int) else wnL r v (k + 1)
theorem wn_b : ∀ (L : List Int) (v : Int) (k : Nat), (k : Int) ≤ wnL L v k ∧ wnL L v k ≤ ((k + L.length : Nat) : Int)
  | [], v, k => by
    show (k : Int) ≤ (k : Int) ∧ (k : Int) ≤ ((k + 0 : Nat) : Int)
    omega
  | x :: r, v, k => by
    have h := wn_b r v (k + 1)
    have e : wnL (x :: r) v k = if v = x then (k : Int) else wnL r v (k + 1) := rfl
    rw [e, List.length_cons]
    by_cases c : v = x
    · rw [if_pos c]; omega
    · rw [if_neg c]; omega
theorem wn_iff : ∀ (L : List Int) (v : Int) (k w : Nat), L.Nodup → w < L.length → (wnL L v k = ((k + w : Nat) : Int) ↔ v = L.getD w 0)
  | [], v, k, w, _, h => by
    rw [List.length_nil] at h
    omega
  | x :: r, v, k, w, hn, hw => by
    have e : wnL (x :: r) v k = if v = x then (k : Int) else wnL r v (k + 1) := rfl
    have b := wn_b r v (k + 1)
    rw [List.nodup_cons] at hn
    rw [List.length_cons] at hw
    rw [e]
    cases w with
    | zero =>
      rw [show (x :: r).getD 0 0 = x from rfl]
      by_cases c : v = x
      · rw [if_pos c]
        exact ⟨fun _ => c, fun _ => rfl⟩
      · rw [if_neg c]
        exact ⟨fun z => by omega, fun z => absurd z c⟩
    | succ w =>
      rw [show (x :: r).getD (w + 1) 0 = r.getD w 0 from rfl]
      by_cases c : v = x
      · rw [if_pos c]
        refine ⟨fun z => by omega, fun z => ?_⟩
        have m : r.getD w 0 ∈ r := by
          rw [List.getD_eq_getElem?_getD, List.getElem?_eq_getElem (show w < r.length by omega)]
          exact List.getElem_mem _
        rw [← z, c] at m
        exact absurd m hn.1
      · rw [if_neg c]
        have := wn_iff r v (k + 1) w hn.2 (by omega)
        rw [show k + 1 + w = k + (w + 1) by omega] at this
        exact this
theorem wl_nd : wl27.Nodup := by decide
theorem wn_w {v : Int} {w : Nat} (hw : w < 24) : wnL wl27 v 0 = (w : Int) ↔ v = wl27.getD w 0 := by
  have := wn_iff wl27 v 0 w wl_nd hw
  rw [Nat.zero_add] at this
  exact this
theorem wn_r (v : Int) : 0 ≤ wnL wl27 v 0 ∧ wnL wl27 v 0 ≤ 24 := wn_b wl27 v 0
/-- what the class sees at a token that begins at s -/
def nmE (c : Nat → Int) (N s : Nat) : Int := hnE 27 (fun j => c (s + j) - 96) (teE c N s - s)
def vlE (c : Nat → Int) (N s : Nat) : Int := hnE 10 (fun j => c (s + j) - 48) (teE c N s - s)
def tkE (c : Nat → Int) (N s : Nat) : Int := if s < N then (if ltB c s = true then (if 8 < teE c N s - s then 27 else wnL wl27 (nmE c N s) 0) else if dgB c s = true then (if 4 < teE c N s - s then 27 else 25) else if sgB (c s) = true then c s else 27) else 26
/-- what the reference sees there -/
def rsE (c : Nat → Int) (N s : Nat) : Int := if s < N then (if ltB c s = true then (if 8 < teE c N s - s then 4 else 1) else if dgB c s = true then (if 4 < teE c N s - s then 4 else 2) else if sgB (c s) = true then 3 else 4) else 0
def rvE (c : Nat → Int) (N s : Nat) : Int := if ltB c s = true then hnE 37 (fun j => c (s + j) - 96) (teE c N s - s) else if dgB c s = true then vlE c N s else c s
theorem te_l {c : Nat → Int} {N s : Nat} (hs : s < N) (h : ltB c s = true) : (∀ i, s ≤ i → i < teE c N s → ltB c i = true) ∧ (teE c N s < N → ltB c (teE c N s) = false) := by
  have e : teE c N s = rnE (ltB c) N s := by unfold teE; rw [if_pos hs, if_pos h]
  rw [e]
  exact (rn_spec (p := ltB c) (by omega)).2.2
theorem te_d {c : Nat → Int} {N s : Nat} (hs : s < N) (h1 : ltB c s = false) (h : dgB c s = true) : (∀ i, s ≤ i → i < teE c N s → dgB c i = true) ∧ (teE c N s < N → dgB c (teE c N s) = false) := by
  have e : teE c N s = rnE (dgB c) N s := by unfold teE; rw [if_pos hs, h1, if_neg (by decide), if_pos h]
  rw [e]
  exact (rn_spec (p := dgB c) (by omega)).2.2
theorem te_o {c : Nat → Int} {N s : Nat} (hs : s < N) (h1 : ltB c s = false) (h : dgB c s = false) : teE c N s = s + 1 := by
  unfold teE; rw [if_pos hs, h1, h, if_neg (by decide), if_neg (by decide)]
theorem lt_d {c : Nat → Int} {N s : Nat} (hs : s < N) (h : ltB c s = true) : ∀ j, j < teE c N s - s → 1 ≤ c (s + j) - 96 ∧ c (s + j) - 96 ≤ 26 := fun j hj => by
  have := of_decide_eq_true ((te_l hs h).1 (s + j) (by omega) (by omega))
  omega
def bnd (b q : Int) : Nat → Int
  | 0 => 0
  | m + 1 => bnd b q m * b + q
theorem hn_b27 {d : Nat → Int} : ∀ m, (∀ j, j < m → 1 ≤ d j ∧ d j ≤ 26) → 0 ≤ hnE 27 d m ∧ hnE 27 d m ≤ bnd 27 26 m
  | 0, _ => ⟨Int.le_refl _, Int.le_refl _⟩
  | m + 1, h => by
    have a := hn_b27 m (fun j hj => h j (by omega))
    have b := h m (by omega)
    have e : bnd 27 26 (m + 1) = bnd 27 26 m * 27 + 26 := rfl
    rw [hn_s, e]
    omega
theorem hn_b37 {d : Nat → Int} : ∀ m, (∀ j, j < m → 1 ≤ d j ∧ d j ≤ 26) → 0 ≤ hnE 37 d m ∧ hnE 37 d m ≤ bnd 37 26 m
  | 0, _ => ⟨Int.le_refl _, Int.le_refl _⟩
  | m + 1, h => by
    have a := hn_b37 m (fun j hj => h j (by omega))
    have b := h m (by omega)
    have e : bnd 37 26 (m + 1) = bnd 37 26 m * 37 + 26 := rfl
    rw [hn_s, e]
    omega
theorem hn_b10 {d : Nat → Int} : ∀ m, (∀ j, j < m → 0 ≤ d j ∧ d j ≤ 9) → 0 ≤ hnE 10 d m ∧ hnE 10 d m ≤ bnd 10 9 m
  | 0, _ => ⟨Int.le_refl _, Int.le_refl _⟩
  | m + 1, h => by
    have a := hn_b10 m (fun j hj => h j (by omega))
    have b := h m (by omega)
    have e : bnd 10 9 (m + 1) = bnd 10 9 m * 10 + 9 := rfl
    rw [hn_s, e]
    omega
theorem bnd_27 : ∀ m, m ≤ 8 → bnd 27 26 m ≤ 282429536480 := by decide
theorem bnd_37 : ∀ m, m ≤ 8 → bnd 37 26 m ≤ 3512479453920 := by decide
theorem bnd_10 : ∀ m, m ≤ 4 → bnd 10 9 m ≤ 9999 := by decide
/-- what both see, held against each other -/
theorem tok_both {c : Nat → Int} {N s : Nat} (hs : s < N) : (rsE c N s = 1 ∧ 0 ≤ tkE c N s ∧ tkE c N s ≤ 24 ∧ ∀ w : Nat, w < 24 → (rvE c N s = wl37.getD w 0 ↔ tkE c N s = (w : Int))) ∨ (rsE c N s = 2 ∧ tkE c N s = 25 ∧ rvE c N s = vlE c N s ∧ 0 ≤ vlE c N s ∧ vlE c N s ≤ 9999) ∨ (rsE c N s = 3 ∧ tkE c N s = rvE c N s ∧ sgB (rvE c N s) = true) ∨ (rsE c N s = 4 ∧ tkE c N s = 27) := by
  cases h1 : ltB c s with
  | true =>
    by_cases l8 : 8 < teE c N s - s
    · refine .inr (.inr (.inr ⟨?_, ?_⟩))
      · unfold rsE; rw [if_pos hs, if_pos h1, if_pos l8]
      · unfold tkE; rw [if_pos hs, if_pos h1, if_pos l8]
    · have e1 : tkE c N s = wnL wl27 (nmE c N s) 0 := by unfold tkE; rw [if_pos hs, if_pos h1, if_neg l8]
      have e2 : rvE c N s = hnE 37 (fun j => c (s + j) - 96) (teE c N s - s) := by unfold rvE; rw [if_pos h1]
      have e3 := wn_r (nmE c N s)
      refine .inl ⟨by unfold rsE; rw [if_pos hs, if_pos h1, if_neg l8], by rw [e1]; exact e3.1, by rw [e1]; exact e3.2, fun w hw => ?_⟩
      rw [e1, e2, wn_w hw]
      exact word_iff (lt_d hs h1) hw
  | false =>
    have h1' : ¬ ltB c s = true := by rw [h1]; decide
    cases h2 : dgB c s with
    | true =>
      by_cases l4 : 4 < teE c N s - s
      · refine .inr (.inr (.inr ⟨?_, ?_⟩))
        · unfold rsE; rw [if_pos hs, if_neg h1', if_pos h2, if_pos l4]
        · unfold tkE; rw [if_pos hs, if_neg h1', if_pos h2, if_pos l4]
      · have dd : ∀ j, j < teE c N s - s → 0 ≤ c (s + j) - 48 ∧ c (s + j) - 48 ≤ 9 := fun j hj => by
          have := of_decide_eq_true ((te_d hs h1 h2).1 (s + j) (by omega) (by omega))
          omega
        have b := hn_b10 (d := fun j => c (s + j) - 48) (teE c N s - s) dd
        have b2 := bnd_10 (teE c N s - s) (by omega)
        refine .inr (.inl ⟨by unfold rsE; rw [if_pos hs, if_neg h1', if_pos h2, if_neg l4], by unfold tkE; rw [if_pos hs, if_neg h1', if_pos h2, if_neg l4], by unfold rvE; rw [if_neg h1', if_pos h2], b.1, ?_⟩)
        exact Int.le_trans b.2 b2
    | false =>
      have h2' : ¬ dgB c s = true := by rw [h2]; decide
      have ev : rvE c N s = c s := by unfold rvE; rw [if_neg h1', if_neg h2']
      cases h3 : sgB (c s) with
      | true =>
        refine .inr (.inr (.inl ⟨by unfold rsE; rw [if_pos hs, if_neg h1', if_neg h2', if_pos h3], by unfold tkE; rw [if_pos hs, if_neg h1', if_neg h2', if_pos h3, ev], by rw [ev]; exact h3⟩))
      | false =>
        have h3' : ¬ sgB (c s) = true := by rw [h3]; decide
        refine .inr (.inr (.inr ⟨by unfold rsE; rw [if_pos hs, if_neg h1', if_neg h2', if_neg h3'], by unfold tkE; rw [if_pos hs, if_neg h1', if_neg h2', if_neg h3']⟩))
theorem name_both {c : Nat → Int} {N s t : Nat} (hs : s < N) (ht : t < N) (h1 : rsE c N s = 1) (h2 : rsE c N t = 1) : rvE c N s = rvE c N t ↔ nmE c N s = nmE c N t := by
  have l : ∀ x, x < N → rsE c N x = 1 → ltB c x = true := fun x hx h => by
    cases q : ltB c x with
    | true => rfl
    | false =>
      exfalso
      unfold rsE at h
      rw [if_pos hx, if_neg (by rw [q]; decide)] at h
      split at h
      · split at h <;> omega
      · split at h <;> omega
  have a := l s hs h1
  have b := l t ht h2
  have e1 : rvE c N s = hnE 37 (fun j => c (s + j) - 96) (teE c N s - s) := by unfold rvE; rw [if_pos a]
  have e2 : rvE c N t = hnE 37 (fun j => c (t + j) - 96) (teE c N t - t) := by unfold rvE; rw [if_pos b]
  rw [e1, e2]
  exact hn_both (lt_d hs a) (lt_d ht b)
