/-! stores and arithmetic -/
def eL (ad : Adr) (env : Ev) : List (Nat × Value) := (env.mapIdx (fun i q => (i, q))).filterMap (fun x => if x.2.1 < 3 then some (x.1, vv ad x.2.1 x.2.2) else none)
theorem eL_mem {ad : Adr} {env : Ev} {x : Nat × Value} : x ∈ eL ad env ↔ ∃ t v, env[x.1]? = some (t, v) ∧ t < 3 ∧ x.2 = vv ad t v := by
  unfold eL
  rw [List.mem_filterMap]
  constructor
  · rintro ⟨⟨i, t, v⟩, h1, h2⟩
    obtain ⟨j, hj, hx⟩ := List.mem_mapIdx.mp h1
    simp only at h2
    by_cases ht : t < 3
    · rw [if_pos ht] at h2
      cases h2
      have e1 : j = i := congrArg Prod.fst hx
      subst e1
      have e2 : env[j] = (t, v) := congrArg Prod.snd hx
      exact ⟨t, v, by rw [List.getElem?_eq_getElem hj, e2], ht, rfl⟩
    · rw [if_neg ht] at h2
      cases h2
  · rintro ⟨t, v, h1, h2, h3⟩
    obtain ⟨hj, hx⟩ := List.getElem?_eq_some_iff.mp h1
    refine ⟨(x.1, (t, v)), List.mem_mapIdx.mpr ⟨x.1, hj, by rw [hx]⟩, ?_⟩
    simp only [if_pos h2, ← h3]
theorem eL_has {ad : Adr} {n : Nat} {env : Ev} {ls : Array Slot} (h : eok ad n env ls) : lv_has ls env.length (eL ad env) := by
  refine ⟨h.1, h.2.1, fun q hq => ?_⟩
  obtain ⟨t, v, h1, h2, h3⟩ := eL_mem.mp hq
  rw [h3]
  exact (h.2.2 q.1 t v h1 h2).2.2
/-- a local written: a long that lay there is gone -/
def stE (env : Ev) (i t : Nat) (v : Int) : Ev :=
  env.mapIdx (fun j q => if j = i then (t, v) else if j + 1 = i ∧ q.1 = 1 then (3, 0) else if t = 1 ∧ j = i + 1 then (3, 0) else q)
theorem stE_len (env : Ev) (i t : Nat) (v : Int) : (stE env i t v).length = env.length := by
  unfold stE
  rw [List.length_mapIdx]
theorem vv_cat {ad : Adr} {t : Nat} {v : Int} (h : t < 3) : (vv ad t v).category = 2 ↔ t = 1 := by
  match t, h with
  | 0, _ => simp [vv, Value.category]
  | 1, _ => simp [vv, Value.category]
  | 2, _ =>
    unfold vv
    simp only
    split <;> simp [Value.category]
theorem stE_ok1 {ad : Adr} {n : Nat} {env : Ev} {ls ls' : Array Slot} {i t : Nat} {v : Int} (h : eok ad n env ls) (ht : t < 3) (ht1 : t ≠ 1) (hv : rg n t v) (hv2 : t = 2 → 0 ≤ v) (h' : lv_has ls' env.length ((i, vv ad t v) :: (eL ad env).filter (fun q => !(q.1 == i) && !(q.1 + 1 == i && q.2.category == 2)))) : eok ad n (stE env i t v) ls' := by
  refine ⟨by rw [stE_len]; exact h'.1, h'.2.1, fun j t' v' hj ht' => ?_⟩
  unfold stE at hj
  rw [List.getElem?_mapIdx] at hj
  cases he : env[j]? with
  | none => rw [he] at hj; cases hj
  | some q =>
    rw [he] at hj
    replace hj := Option.some.inj hj
    dsimp only at hj
    by_cases hji : j = i
    · rw [if_pos hji] at hj
      cases hj
      exact ⟨hv, hv2, hji ▸ h'.2.2 _ List.mem_cons_self⟩
    · rw [if_neg hji] at hj
      by_cases hc : j + 1 = i ∧ q.1 = 1
      · rw [if_pos hc] at hj
        cases hj
        omega
      · rw [if_neg hc, if_neg (fun z => ht1 z.1)] at hj
        subst hj
        obtain ⟨g1, g2, g3⟩ := h.2.2 j t' v' he ht'
        refine ⟨g1, g2, h'.2.2 (j, vv ad t' v') (List.mem_cons_of_mem _ (List.mem_filter.mpr ⟨eL_mem.mpr ⟨t', v', he, ht', rfl⟩, ?_⟩))⟩
        have e1 : (j == i) = false := by simpa using hji
        simp only [e1, Bool.not_false, Bool.true_and]
        by_cases hj1 : j + 1 = i
        · have : ¬ (vv ad t' v').category = 2 := fun z => hc ⟨hj1, (vv_cat ht').mp z⟩
          simp [this]
        · simp [hj1]
theorem stE_ok2 {ad : Adr} {n : Nat} {env : Ev} {ls ls' : Array Slot} {i : Nat} {v : Int} (h : eok ad n env ls) (hv : rg n 1 v) (h' : lv_has ls' env.length ((i, vv ad 1 v) :: (eL ad env).filter (fun q => !(q.1 == i) && (!(q.1 == i + 1) && !(q.1 + 1 == i && q.2.category == 2))))) : eok ad n (stE env i 1 v) ls' := by
  refine ⟨by rw [stE_len]; exact h'.1, h'.2.1, fun j t' v' hj ht' => ?_⟩
  unfold stE at hj
  rw [List.getElem?_mapIdx] at hj
  cases he : env[j]? with
  | none => rw [he] at hj; cases hj
  | some q =>
    rw [he] at hj
    replace hj := Option.some.inj hj
    dsimp only at hj
    by_cases hji : j = i
    · rw [if_pos hji] at hj
      cases hj
      exact ⟨hv, by omega, hji ▸ h'.2.2 _ List.mem_cons_self⟩
    · rw [if_neg hji] at hj
      by_cases hc : j + 1 = i ∧ q.1 = 1
      · rw [if_pos hc] at hj
        cases hj
        omega
      · rw [if_neg hc] at hj
        by_cases hc2 : (1 : Nat) = 1 ∧ j = i + 1
        · rw [if_pos hc2] at hj
          cases hj
          omega
        · rw [if_neg hc2] at hj
          subst hj
          obtain ⟨g1, g2, g3⟩ := h.2.2 j t' v' he ht'
          refine ⟨g1, g2, h'.2.2 (j, vv ad t' v') (List.mem_cons_of_mem _ (List.mem_filter.mpr ⟨eL_mem.mpr ⟨t', v', he, ht', rfl⟩, ?_⟩))⟩
          have e1 : (j == i) = false := by simpa using hji
          have e2 : (j == i + 1) = false := by simpa using (fun z => hc2 ⟨rfl, z⟩ : ¬ j = i + 1)
          simp only [e1, e2, Bool.not_false, Bool.true_and]
          by_cases hj1 : j + 1 = i
          · have : ¬ (vv ad t' v').category = 2 := fun z => hc ⟨hj1, (vv_cat ht').mp z⟩
            simp [this]
          · simp [hj1]
section RU
variable {M : Md} {Γ : Cx} {pc : Nat} {env : Ev} {st : List Vl} {μ : Mem}
theorem r_istore_n (G : CK M Γ) {j : Fin 4} {i : Nat} {v : Int} (hd : decode M.1 pc = .ok (.istore_n j, 1)) (hj : (j : Nat) = i) (hi : i < env.length) (k : WP M Γ (pc + 1) (stE env i 0 v) st μ) : WP M Γ pc env ((0, v) :: st) μ := by
  obtain ⟨p, l, e, s, m, args, below, meth, c, D, ad, sh, F, A, R, nc, ns, Q⟩ := Γ
  obtain ⟨hx, hb, hml, hown, hts, hD, hK, hKa, hrt, hlk, hal, hsk, hR, hQ⟩ := G
  intro H locs ls hP hM hS hE hn hst
  exact lv_istore_n hx hb hd hj (eL_has hE) hi rfl (fun ls' h' => k H locs ls' hP hM hS (stE_ok1 hE (by omega) (by omega) (sok_t hst).2.1 (by omega) h') (by rw [stE_len]; exact hn) (sok_d hst))
theorem r_istore (G : CK M Γ) {i : Nat} {v : Int} (hd : decode M.1 pc = .ok (.istore i, 2)) (hi : i < env.length) (k : WP M Γ (pc + 2) (stE env i 0 v) st μ) : WP M Γ pc env ((0, v) :: st) μ := by
  obtain ⟨p, l, e, s, m, args, below, meth, c, D, ad, sh, F, A, R, nc, ns, Q⟩ := Γ
  obtain ⟨hx, hb, hml, hown, hts, hD, hK, hKa, hrt, hlk, hal, hsk, hR, hQ⟩ := G
  intro H locs ls hP hM hS hE hn hst
  exact lv_istore hx hb hd (eL_has hE) hi rfl (fun ls' h' => k H locs ls' hP hM hS (stE_ok1 hE (by omega) (by omega) (sok_t hst).2.1 (by omega) h') (by rw [stE_len]; exact hn) (sok_d hst))
theorem r_lstore_n (G : CK M Γ) {j : Fin 4} {i : Nat} {v : Int} (hd : decode M.1 pc = .ok (.lstore_n j, 1)) (hj : (j : Nat) = i) (hi : i + 1 < env.length) (k : WP M Γ (pc + 1) (stE env i 1 v) st μ) : WP M Γ pc env ((1, v) :: st) μ := by
  obtain ⟨p, l, e, s, m, args, below, meth, c, D, ad, sh, F, A, R, nc, ns, Q⟩ := Γ
  obtain ⟨hx, hb, hml, hown, hts, hD, hK, hKa, hrt, hlk, hal, hsk, hR, hQ⟩ := G
  intro H locs ls hP hM hS hE hn hst
  exact lv_lstore_n hx hb hd hj (eL_has hE) hi rfl (fun ls' h' => k H locs ls' hP hM hS (stE_ok2 hE (sok_t hst).2.1 h') (by rw [stE_len]; exact hn) (sok_d hst))
theorem r_lstore (G : CK M Γ) {i : Nat} {v : Int} (hd : decode M.1 pc = .ok (.lstore i, 2)) (hi : i + 1 < env.length) (k : WP M Γ (pc + 2) (stE env i 1 v) st μ) : WP M Γ pc env ((1, v) :: st) μ := by
  obtain ⟨p, l, e, s, m, args, below, meth, c, D, ad, sh, F, A, R, nc, ns, Q⟩ := Γ
  obtain ⟨hx, hb, hml, hown, hts, hD, hK, hKa, hrt, hlk, hal, hsk, hR, hQ⟩ := G
  intro H locs ls hP hM hS hE hn hst
  exact lv_lstore hx hb hd (eL_has hE) hi rfl (fun ls' h' => k H locs ls' hP hM hS (stE_ok2 hE (sok_t hst).2.1 h') (by rw [stE_len]; exact hn) (sok_d hst))
theorem r_astore_n (G : CK M Γ) {j : Fin 4} {i : Nat} {v : Int} (hd : decode M.1 pc = .ok (.astore_n j, 1)) (hj : (j : Nat) = i) (hi : i < env.length) (k : WP M Γ (pc + 1) (stE env i 2 v) st μ) : WP M Γ pc env ((2, v) :: st) μ := by
  obtain ⟨p, l, e, s, m, args, below, meth, c, D, ad, sh, F, A, R, nc, ns, Q⟩ := Γ
  obtain ⟨hx, hb, hml, hown, hts, hD, hK, hKa, hrt, hlk, hal, hsk, hR, hQ⟩ := G
  intro H locs ls hP hM hS hE hn hst
  obtain ⟨h1, h2, h3⟩ := sok_t hst
  show W _ _ _ _ _ _ _ _ _ _ _ _ _ _ _ (F0 m pc ls (vv ad 2 v :: sv ad st))
  rw [vv_ref (h3 rfl)]
  refine lv_astore_n hx hb hd hj (eL_has hE) hi rfl (fun ls' h' => k H locs ls' hP hM hS (stE_ok1 hE (by omega) (by omega) h2 h3 ?_) (by rw [stE_len]; exact hn) (sok_d hst))
  rw [vv_ref (h3 rfl)]
  exact h'
theorem r_astore (G : CK M Γ) {i : Nat} {v : Int} (hd : decode M.1 pc = .ok (.astore i, 2)) (hi : i < env.length) (k : WP M Γ (pc + 2) (stE env i 2 v) st μ) : WP M Γ pc env ((2, v) :: st) μ := by
  obtain ⟨p, l, e, s, m, args, below, meth, c, D, ad, sh, F, A, R, nc, ns, Q⟩ := Γ
  obtain ⟨hx, hb, hml, hown, hts, hD, hK, hKa, hrt, hlk, hal, hsk, hR, hQ⟩ := G
  intro H locs ls hP hM hS hE hn hst
  obtain ⟨h1, h2, h3⟩ := sok_t hst
  show W _ _ _ _ _ _ _ _ _ _ _ _ _ _ _ (F0 m pc ls (vv ad 2 v :: sv ad st))
  rw [vv_ref (h3 rfl)]
  refine lv_astore hx hb hd (eL_has hE) hi rfl (fun ls' h' => k H locs ls' hP hM hS (stE_ok1 hE (by omega) (by omega) h2 h3 ?_) (by rw [stE_len]; exact hn) (sok_d hst))
  rw [vv_ref (h3 rfl)]
  exact h'
theorem r_iinc (G : CK M Γ) {i : Nat} {n v : Int} (hd : decode M.1 pc = .ok (.iinc i n, 3)) (hi : env[i]? = some (0, v)) (k : WP M Γ (pc + 3) (stE env i 0 (w32 (v + n))) st μ) : WP M Γ pc env st μ := by
  obtain ⟨p, l, e, s, m, args, below, meth, c, D, ad, sh, F, A, R, nc, ns, Q⟩ := Γ
  obtain ⟨hx, hb, hml, hown, hts, hD, hK, hKa, hrt, hlk, hal, hsk, hR, hQ⟩ := G
  intro H locs ls hP hM hS hE hn hst
  obtain ⟨kk, hk⟩ := List.getElem?_of_mem (eL_mem.mpr ⟨0, v, hi, by omega, rfl⟩ : ((i, vv ad 0 v) : Nat × Value) ∈ eL ad env)
  have hi2 : i < env.length := (List.getElem?_eq_some_iff.mp hi).1
  exact lv_iinc hx hb hd (eL_has hE) hk (i32_add v n) hi2 rfl (fun ls' h' => k H locs ls' hP hM hS (stE_ok1 hE (by omega) (by omega) (w32_rg _ _) (by omega) h') (by rw [stE_len]; exact hn) hst)
end RU
