/-! making cells: the world grows -/
def dv (q : Nat × Nat) (b : Nat) : Int := if sty q b = 2 then -1 else 0
def nwM (μ : Mem) (n : Nat) (q : Nat × Nat) : Mem := fun a b => if a = n then dv q b else μ a b
/-- how many slots a cell has -/
def szS (q : Nat × Nat) : Nat := if q.1 < 100 then (ftab.getD q.1 []).length else q.2
def tot (L : Shp) : Nat := (L.map szS).sum
theorem rg_mono {n m t : Nat} {v : Int} (h : rg n t v) (hm : n ≤ m) : rg m t v := by
  match t, h with
  | 0, h => exact h
  | 1, h => exact h
  | t + 2, h => exact ⟨h.1, by have := h.2; omega⟩
theorem ad1_ext {ad : Adr} {L : Adr} {k : Nat} (h : k < ad.length) : ad1 (ad ++ L) k = ad1 ad k := by
  unfold ad1
  rw [List.getD_eq_getElem?_getD, List.getD_eq_getElem?_getD, List.getElem?_append_left h]
theorem ad2_ext {ad : Adr} {L : Adr} {k : Nat} (h : k < ad.length) : ad2 (ad ++ L) k = ad2 ad k := by
  unfold ad2
  rw [List.getD_eq_getElem?_getD, List.getD_eq_getElem?_getD, List.getElem?_append_left h]
theorem ad1_new {ad : Adr} {x : Nat × ClassId} : ad1 (ad ++ [x]) ad.length = x.1 := by
  unfold ad1
  rw [List.getD_eq_getElem?_getD, List.getElem?_append_right (Nat.le_refl _), Nat.sub_self]
  rfl
theorem ad2_new {ad : Adr} {x : Nat × ClassId} : ad2 (ad ++ [x]) ad.length = x.2 := by
  unfold ad2
  rw [List.getD_eq_getElem?_getD, List.getElem?_append_right (Nat.le_refl _), Nat.sub_self]
  rfl
theorem vv_ext {ad L : Adr} {t : Nat} {v : Int} (h : rg ad.length t v) (ht : t < 3) : vv (ad ++ L) t v = vv ad t v := by
  match t, ht, h with
  | 0, _, _ => rfl
  | 1, _, _ => rfl
  | 2, _, h =>
    show (if v < 0 then Value.null else .ref (ad1 (ad ++ L) v.toNat)) = if v < 0 then Value.null else .ref (ad1 ad v.toNat)
    by_cases hv : v < 0
    · rw [if_pos hv, if_pos hv]
    · rw [if_neg hv, if_neg hv, ad1_ext (by have := h.2; omega)]
theorem sty_lt (q : Nat × Nat) (j : Nat) : sty q j < 3 := by
  unfold sty
  split
  · have h : ∀ L ∈ ftab, ∀ t ∈ L, t < 3 := by decide
    by_cases h1 : q.1 < ftab.length
    · have h2 : ftab.getD q.1 [] ∈ ftab := by
        rw [List.getD_eq_getElem?_getD, List.getElem?_eq_getElem h1]
        exact List.getElem_mem h1
      generalize ftab.getD q.1 [] = L at h2
      by_cases h3 : j < L.length
      · rw [List.getD_eq_getElem?_getD, List.getElem?_eq_getElem h3]
        exact h _ h2 _ (List.getElem_mem h3)
      · rw [List.getD_eq_getElem?_getD, List.getElem?_eq_none (by omega)]
        decide
    · have h2 : ftab.getD q.1 [] = [] := by rw [List.getD_eq_getElem?_getD, List.getElem?_eq_none (by omega)]; rfl
      rw [h2]
      simp
  · split
    · decide
    · split <;> decide
theorem cE_ext {ad L : Adr} {k : Nat} {q : Nat × Nat} {f : Nat → Int} (hk : k < ad.length) (hf : ∀ j, rg ad.length (sty q j) (f j)) : cE (ad ++ L) k q f = cE ad k q f := by
  unfold cE
  rw [ad2_ext hk]
  split
  · rename_i h1
    congr 2
    apply List.ext_getElem?
    intro j
    rw [List.getElem?_mapIdx, List.getElem?_mapIdx]
    cases he : (ftab.getD q.1 [])[j]? with
    | none => rfl
    | some t =>
      have h2 := hf j
      have h3 := sty_lt q j
      rw [show sty q j = t from sty_obj (n := q.2) h1 he] at h2 h3
      show some (vv (ad ++ L) t (f j)) = some (vv ad t (f j))
      rw [vv_ext h2 h3]
  · split
    · rfl
    · split
      · rfl
      · rename_i h1 h2 h3
        congr 7
        funext j
        have h4 := hf j
        have h5 : sty q j = 2 := by
          unfold sty
          rw [if_neg h1, if_neg h2, if_neg h3]
        rw [h5] at h4
        by_cases hv : f j < 0
        · rw [if_pos hv, if_pos hv]
        · rw [if_neg hv, if_neg hv, ad1_ext (by have := h4.2; omega)]
theorem wsO_ext {ad : Adr} {sh : Shp} {μ : Mem} {x : Nat × ClassId} {q : Nat × Nat} (hl : ad.length = sh.length) (hM : mok sh μ) : wsO (ad ++ [x]) (sh ++ [q]) (nwM μ sh.length q) = wsO ad sh μ ++ [(x.1, cE (ad ++ [x]) sh.length q (dv q))] := by
  unfold wsO
  rw [List.mapIdx_append]
  congr 1
  · apply List.ext_getElem?
    intro k
    rw [List.getElem?_mapIdx, List.getElem?_mapIdx]
    cases he : sh[k]? with
    | none => rfl
    | some y =>
      have hk := (List.getElem?_eq_some_iff.mp he).1
      show some (_, _) = some (_, _)
      have e1 : nwM μ sh.length q k = μ k := by
        funext b
        unfold nwM
        rw [if_neg (by omega)]
      rw [e1, ad1_ext (by omega), cE_ext (by omega) (fun j => by rw [hl]; exact hM k y he j)]
  · have e1 : nwM μ sh.length q sh.length = dv q := by
      funext b
      unfold nwM
      rw [if_pos rfl]
    simp only [List.mapIdx_cons, List.mapIdx_nil, Nat.zero_add, e1]
    rw [← hl, ad1_new]
theorem mok_ext {sh : Shp} {μ : Mem} {q : Nat × Nat} (hM : mok sh μ) : mok (sh ++ [q]) (nwM μ sh.length q) := by
  intro k y hk j
  unfold nwM
  by_cases h : k = sh.length
  · rw [if_pos h]
    subst h
    rw [List.getElem?_append_right (Nat.le_refl _), Nat.sub_self] at hk
    cases hk
    unfold dv
    have := sty_lt q j
    split
    · rename_i h2
      rw [h2]
      exact ⟨by omega, by omega⟩
    · match sty q j, this with
      | 0, _ => exact ⟨by omega, by omega⟩
      | 1, _ => exact ⟨by omega, by omega⟩
      | 2, _ => exact ⟨by omega, by rw [List.length_append, List.length_singleton]; omega⟩
  · rw [if_neg h]
    have hk2 : k < (sh ++ [q]).length := (List.getElem?_eq_some_iff.mp hk).1
    rw [List.length_append, List.length_singleton] at hk2
    rw [List.getElem?_append_left (by omega)] at hk
    exact rg_mono (hM k y hk j) (by rw [List.length_append]; omega)
theorem eok_ext {ad L : Adr} {n m : Nat} {env : Ev} {ls : Array Slot} (h : eok ad n env ls) (hl : ad.length = n) (hm : n ≤ m) : eok (ad ++ L) m env ls := by
  refine ⟨h.1, h.2.1, fun i t v hi ht => ?_⟩
  obtain ⟨h1, h2, h3⟩ := h.2.2 i t v hi ht
  refine ⟨rg_mono h1 hm, h2, ?_⟩
  rw [vv_ext (by rw [hl]; exact h1) ht]
  exact h3
theorem sok_ext {n m : Nat} {st : List Vl} (h : sok n st) (hm : n ≤ m) : sok m st := fun q hq => ⟨(h q hq).1, rg_mono (h q hq).2.1 hm, (h q hq).2.2⟩
theorem sv_ext {ad L : Adr} {n : Nat} {st : List Vl} (h : sok n st) (hl : ad.length = n) : sv (ad ++ L) st = sv ad st := by
  unfold sv
  apply List.map_congr_left
  intro q hq
  exact vv_ext (by rw [hl]; exact (h q hq).2.1) (h q hq).1
theorem wsD_any {A : Nat → Prop} {ad : Adr} {sh : Shp} {μ μ' : Mem} (h : va_D A (wsO ad sh μ)) : va_D A (wsO ad sh μ') := by
  have key : ∀ (k : Nat) (q : Nat × va_E), (wsO ad sh μ')[k]? = some q → ∃ q0, (wsO ad sh μ)[k]? = some q0 ∧ q0.1 = q.1 := by
    intro k q hk
    unfold wsO at hk ⊢
    rw [List.getElem?_mapIdx] at hk ⊢
    cases he : sh[k]? with
    | none => rw [he] at hk; cases hk
    | some y =>
      rw [he] at hk
      cases hk
      exact ⟨_, rfl, rfl⟩
  refine ⟨fun i j x y hi hj hxy => ?_, fun k q hk => ?_⟩
  · obtain ⟨x0, h1, h2⟩ := key i x hi
    obtain ⟨y0, h3, h4⟩ := key j y hj
    exact h.1 i j x0 y0 h1 h3 (h2.trans (hxy.trans h4.symm))
  · obtain ⟨q0, h1, h2⟩ := key k q hk
    rw [← h2]
    exact h.2 k q0 h1
