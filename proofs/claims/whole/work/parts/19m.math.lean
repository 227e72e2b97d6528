/-! Math.max, min, abs -/
section MA
variable {M : Md} {Γ : Cx} {w pc p1 p2 : Nat}
theorem E_mmax {idx : Nat} {a b : Ex} (hw9 : Cond.methodLink M.2.1 idx Lib.Math.max.name ∈ tbl ∧ Cond.static Lib.Math.max.name ∈ tbl ∧ Cond.initialized "java/lang/Math" ∈ tbl ∧ Cond.code Lib.Math.max.name Lib.Math.max.code 2 (some .int) ∈ tbl) (ha : EO M Γ w pc p1 0 a) (hb : EO M Γ (w + 1) p1 p2 0 b) (hd : decode M.1 p2 = .ok (.invokestatic idx, 3)) (hdep : 1 ≤ M.2.2.1) (hw8 : w ≤ 8) : EO M Γ w pc (p2 + 3) 0 (binE (fun x y => if x < y then y else x) a b) := by
  intro G env st μ v μ' h hw k
  obtain ⟨⟨x, μ1⟩, h1, h⟩ := b_some h
  obtain ⟨⟨y, μ2⟩, h2, h3⟩ := b_some h
  cases h3
  refine ha G env st μ _ _ h1 hw (hb G env _ _ _ _ h2 (wd0 hw) ?_)
  obtain ⟨p, l, e, s, m, args, below, meth, c, D, ad, sh, F, A, R, nc, ns, Q⟩ := Γ
  obtain ⟨hx, hb, hml, hown, hts, hD, hK, hKa, hrt, hlk, hal, hsk, hR, hQ⟩ := G
  intro H locs ls hP hM hS hE hn hst
  obtain ⟨-, hy1, -⟩ := sok_t hst
  obtain ⟨-, hx1, -⟩ := sok_t (sok_d hst)
  have hst2 := sok_d (sok_d hst)
  refine va_mmax hx hb (by rw [hml, hE.1, hn]) hown (hts _ hw9.1) (hts _ hw9.2.1) (hts _ hw9.2.2.1) (hts _ hw9.2.2.2) (Nat.le_trans hdep hR.1) ?_ hR.2.2.1 hR.2.2.2 hd ?_
  · show ((sv ad st).map fun v => v.category).sum + 13 ≤ R.locals
    rw [wd_sv hst2]
    have := hR.2.1
    omega
  · have e1 : (if Int32.ofInt x < Int32.ofInt y then Int32.ofInt y else Int32.ofInt x) = Int32.ofInt (if x < y then y else x) := by
      by_cases hc : x < y
      · rw [if_pos hc, if_pos ((i32_lt hx1 hy1).mpr hc)]
      · rw [if_neg hc, if_neg (fun z => hc ((i32_lt hx1 hy1).mp z))]
    show W _ _ _ _ _ _ _ _ _ _ _ _ _ _ _ (F0 m (p2 + 3) ls (.int (if Int32.ofInt x < Int32.ofInt y then Int32.ofInt y else Int32.ofInt x) :: sv ad st))
    rw [e1]
    exact k H locs ls hP hM hS hE hn (sok_i hst2 (by dsimp only; split; exact hy1; exact hx1))
theorem E_mmin {idx : Nat} {a b : Ex} (hw9 : Cond.methodLink M.2.1 idx Lib.Math.min.name ∈ tbl ∧ Cond.static Lib.Math.min.name ∈ tbl ∧ Cond.initialized "java/lang/Math" ∈ tbl ∧ Cond.code Lib.Math.min.name Lib.Math.min.code 2 (some .int) ∈ tbl) (ha : EO M Γ w pc p1 0 a) (hb : EO M Γ (w + 1) p1 p2 0 b) (hd : decode M.1 p2 = .ok (.invokestatic idx, 3)) (hdep : 1 ≤ M.2.2.1) (hw8 : w ≤ 8) : EO M Γ w pc (p2 + 3) 0 (binE (fun x y => if y < x then y else x) a b) := by
  intro G env st μ v μ' h hw k
  obtain ⟨⟨x, μ1⟩, h1, h⟩ := b_some h
  obtain ⟨⟨y, μ2⟩, h2, h3⟩ := b_some h
  cases h3
  refine ha G env st μ _ _ h1 hw (hb G env _ _ _ _ h2 (wd0 hw) ?_)
  obtain ⟨p, l, e, s, m, args, below, meth, c, D, ad, sh, F, A, R, nc, ns, Q⟩ := Γ
  obtain ⟨hx, hb, hml, hown, hts, hD, hK, hKa, hrt, hlk, hal, hsk, hR, hQ⟩ := G
  intro H locs ls hP hM hS hE hn hst
  obtain ⟨-, hy1, -⟩ := sok_t hst
  obtain ⟨-, hx1, -⟩ := sok_t (sok_d hst)
  have hst2 := sok_d (sok_d hst)
  refine va_mmin hx hb (by rw [hml, hE.1, hn]) hown (hts _ hw9.1) (hts _ hw9.2.1) (hts _ hw9.2.2.1) (hts _ hw9.2.2.2) (Nat.le_trans hdep hR.1) ?_ hR.2.2.1 hR.2.2.2 hd ?_
  · show ((sv ad st).map fun v => v.category).sum + 13 ≤ R.locals
    rw [wd_sv hst2]
    have := hR.2.1
    omega
  · have e1 : (if Int32.ofInt y < Int32.ofInt x then Int32.ofInt y else Int32.ofInt x) = Int32.ofInt (if y < x then y else x) := by
      by_cases hc : y < x
      · rw [if_pos hc, if_pos ((i32_lt hy1 hx1).mpr hc)]
      · rw [if_neg hc, if_neg (fun z => hc ((i32_lt hy1 hx1).mp z))]
    show W _ _ _ _ _ _ _ _ _ _ _ _ _ _ _ (F0 m (p2 + 3) ls (.int (if Int32.ofInt y < Int32.ofInt x then Int32.ofInt y else Int32.ofInt x) :: sv ad st))
    rw [e1]
    exact k H locs ls hP hM hS hE hn (sok_i hst2 (by dsimp only; split; exact hy1; exact hx1))
theorem E_mabs {idx : Nat} {a : Ex} (hw9 : Cond.methodLink M.2.1 idx Lib.Math.abs.name ∈ tbl ∧ Cond.static Lib.Math.abs.name ∈ tbl ∧ Cond.initialized "java/lang/Math" ∈ tbl ∧ Cond.code Lib.Math.abs.name Lib.Math.abs.code 1 (some .int) ∈ tbl) (ha : EO M Γ w pc p1 0 a) (hd : decode M.1 p1 = .ok (.invokestatic idx, 3)) (hdep : 1 ≤ M.2.2.1) (hw8 : w ≤ 8) : EO M Γ w pc (p1 + 3) 0 (unE (fun x => if 0 ≤ x then x else w32 (0 - x)) a) := by
  intro G env st μ v μ' h hw k
  obtain ⟨⟨x, μ1⟩, h1, h3⟩ := b_some h
  cases h3
  refine ha G env st μ _ _ h1 hw ?_
  obtain ⟨p, l, e, s, m, args, below, meth, c, D, ad, sh, F, A, R, nc, ns, Q⟩ := Γ
  obtain ⟨hx, hb, hml, hown, hts, hD, hK, hKa, hrt, hlk, hal, hsk, hR, hQ⟩ := G
  intro H locs ls hP hM hS hE hn hst
  obtain ⟨-, hx1, -⟩ := sok_t hst
  have hst2 := sok_d hst
  refine va_mabs hx hb (by rw [hml, hE.1, hn]) hown (hts _ hw9.1) (hts _ hw9.2.1) (hts _ hw9.2.2.1) (hts _ hw9.2.2.2) (Nat.le_trans hdep hR.1) ?_ hR.2.2.1 hR.2.2.2 hd ?_
  · show ((sv ad st).map fun v => v.category).sum + 13 ≤ R.locals
    rw [wd_sv hst2]
    have := hR.2.1
    omega
  · have e1 : (if (0 : Int32) ≤ Int32.ofInt x then Int32.ofInt x else 0 - Int32.ofInt x) = Int32.ofInt (if 0 ≤ x then x else w32 (0 - x)) := by
      have hq : (0 : Int32) ≤ Int32.ofInt x ↔ 0 ≤ x := i32_le (r0 sh.length) hx1
      by_cases hc : 0 ≤ x
      · rw [if_pos hc, if_pos (hq.mpr hc)]
      · rw [if_neg hc, if_neg (fun z => hc (hq.mp z)), ← i32_sub]
        rfl
    show W _ _ _ _ _ _ _ _ _ _ _ _ _ _ _ (F0 m (p1 + 3) ls (.int (if (0 : Int32) ≤ Int32.ofInt x then Int32.ofInt x else 0 - Int32.ofInt x) :: sv ad st))
    rw [e1]
    exact k H locs ls hP hM hS hE hn (sok_i hst2 (by dsimp only; split; exact hx1; exact w32_rg _ _))
end MA
