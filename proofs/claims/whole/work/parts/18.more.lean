/-! further rules -/
noncomputable def o_iushr (a b : Int) : Int := opq ((((Int32.ofInt a).toUInt32 >>> ((Int32.ofInt b).toUInt32 &&& Int32.toUInt32 31)).toInt32).toInt)
section RU
variable {M : Md} {Γ : Cx} {pc p1 p2 p3 w : Nat} {env : Ev} {st : List Vl} {μ : Mem} {bs : List (Nat × Nat)}
theorem r_iushr (G : CK M Γ) {a b : Int} (hd : decode M.1 pc = .ok (.iushr, 1)) (k : WP M Γ (pc + 1) env ((0, o_iushr a b) :: st) μ) : WP M Γ pc env ((0, b) :: (0, a) :: st) μ := by
  obtain ⟨p, l, e, s, m, args, below, meth, c, D, ad, sh, F, A, R, nc, ns, Q⟩ := Γ
  obtain ⟨hx, hb, hml, hown, hts, hD, hK, hKa, hrt, hlk, hal, hsk, hR, hQ⟩ := G
  intro H locs ls hP hM hS hE hn hst
  exact lv_iushr hx hb hd (i32_of (show _ = o_iushr a b from (opq_eq _).symm)) (k H locs ls hP hM hS hE hn (sok_i (sok_d (sok_d hst)) (rgo32 _ _)))
theorem r_ineg (G : CK M Γ) {a : Int} (hd : decode M.1 pc = .ok (.ineg, 1)) (k : WP M Γ (pc + 1) env ((0, w32 (-a)) :: st) μ) : WP M Γ pc env ((0, a) :: st) μ := by
  obtain ⟨p, l, e, s, m, args, below, meth, c, D, ad, sh, F, A, R, nc, ns, Q⟩ := Γ
  obtain ⟨hx, hb, hml, hown, hts, hD, hK, hKa, hrt, hlk, hal, hsk, hR, hQ⟩ := G
  intro H locs ls hP hM hS hE hn hst
  have k1 := k H locs ls hP hM hS hE hn (sok_i (sok_d hst) (w32_rg _ _))
  refine lv_ineg hx hb hd ?_
  have e1 : -Int32.ofInt a = Int32.ofInt (w32 (-a)) := by rw [i32_w, Int32.ofInt_neg]
  first | (rw [e1]; exact k1) | (show W _ _ _ _ _ _ _ _ _ _ _ _ _ _ _ (F0 m (pc + 1) ls (.int (-Int32.ofInt a) :: sv ad st)); rw [e1]; exact k1)
theorem E_iushr {a b : Ex} (ha : EO M Γ w pc p1 0 a) (hb : EO M Γ (w + 1) p1 p2 0 b) (hd : decode M.1 p2 = .ok (.iushr, 1)) : EO M Γ w pc (p2 + 1) 0 (binE o_iushr a b) := by
  intro G env st μ v μ' h hw k
  obtain ⟨⟨x, μ1⟩, h1, h⟩ := b_some h
  obtain ⟨⟨y, μ2⟩, h2, h3⟩ := b_some h
  cases h3
  exact ha G env st μ _ _ h1 hw (hb G env _ _ _ _ h2 (wd0 hw) (r_iushr G hd k))
theorem E_ineg {a : Ex} (ha : EO M Γ w pc p1 0 a) (hd : decode M.1 p1 = .ok (.ineg, 1)) : EO M Γ w pc (p1 + 1) 0 (unE (fun x => w32 (-x)) a) := by
  intro G env st μ v μ' h hw k
  obtain ⟨⟨x, μ1⟩, h1, h3⟩ := b_some h
  cases h3
  exact ha G env st μ _ _ h1 hw (r_ineg G hd k)
theorem C_thruT {c : Cn} {pf tgt : Nat} {off : Int} (hc : CO M Γ w pc p1 pf c) (hd : decode M.1 p1 = .ok (.goto off, 3)) (ht : (p1 : Int) + off = (tgt : Int)) : CO M Γ w pc tgt pf c := by
  intro G env st μ b μ' h hw k
  refine hc G env st μ b μ' h hw ?_
  cases b with
  | true => exact r_goto G hd ht k
  | false => exact k
theorem C_thruF {c : Cn} {pt tgt : Nat} {off : Int} (hc : CO M Γ w pc pt p1 c) (hd : decode M.1 p1 = .ok (.goto off, 3)) (ht : (p1 : Int) + off = (tgt : Int)) : CO M Γ w pc pt tgt c := by
  intro G env st μ b μ' h hw k
  refine hc G env st μ b μ' h hw ?_
  cases b with
  | true => exact k
  | false => exact r_goto G hd ht k
theorem S_aopl_lor {a i e : Ex} (ha : EO M Γ 0 pc p1 2 a) (hi : EO M Γ 1 p1 p2 0 i) (h2 : decode M.1 p2 = .ok (.dup2, 1)) (h3 : decode M.1 (p2 + 1) = .ok (.laload, 1)) (he : EO M Γ 4 (p2 + 2) p3 1 e) (ho : decode M.1 p3 = .ok (.lor, 1)) (hd : decode M.1 (p3 + 1) = .ok (.lastore, 1)) : SO M Γ pc (p3 + 2) bs (aopS 101 (o_lor) a i e) := by
  intro G env μ x v env' μ' h k
  obtain ⟨⟨xa, μ1⟩, g1, h⟩ := b_some h
  obtain ⟨⟨xi, μ2⟩, g2, h⟩ := b_some h
  obtain ⟨⟨xe, μ3⟩, g3, h4⟩ := b_some h
  dsimp only at h4
  split at h4
  · rename_i q hq
    split at h4
    · rename_i hc
      cases h4
      obtain ⟨ci', nn⟩ := q
      obtain ⟨rfl, f1, f2⟩ := hc
      exact ha G env [] μ _ _ g1 (Nat.le_refl _) (hi G env _ _ _ _ g2 (wd2 (Nat.le_refl _)) (r_dup2 G h2 (by decide) (by decide) (r_lald G h3 hq f1 f2 (he G env _ _ _ _ g3 (wd1 (wd0 (wd2 (Nat.le_refl _)))) (r_lor G ho (r_last G hd hq f1 f2 k))))))
    · cases h4
  · cases h4
theorem E_ldcw {i : Nat} {n : Int} (hd : decode M.1 pc = .ok (.ldc_w i, 3)) (hw9 : Cond.constant M.2.1 i (Int32.ofInt n) ∈ tbl) (hr : -2147483648 ≤ n ∧ n < 2147483648) : EO M Γ w pc (pc + 3) 0 (numE n) := by
  intro G env st μ v μ' h hw k
  cases h
  obtain ⟨p, l, e, s, m, args, below, meth, c, D, ad, sh, F, A, R, nc, ns, Q⟩ := Γ
  obtain ⟨hx, hb, hml, hown, hts, hD, hK, hKa, hrt, hlk, hal, hsk, hR, hQ⟩ := G
  intro H locs ls hP hM hS hE hn hst
  exact lv_ldcw hx hb hown (hts _ hw9) hd (k H locs ls hP hM hS hE hn (sok_i hst hr))
theorem E_boolT {c : Cn} {off off2 : Int} {X : Nat} (hc : CO M Γ w pc p1 p2 c) (h1 : decode M.1 p1 = .ok (.iconst 1, 1)) (h2 : decode M.1 (p1 + 1) = .ok (.goto off, 3)) (h3 : decode M.1 p2 = .ok (.iconst 0, 1)) (ht : ((p1 + 1 : Nat) : Int) + off = (X : Int)) (h4 : decode M.1 (p2 + 1) = .ok (.goto off2, 3)) (ht2 : ((p2 + 1 : Nat) : Int) + off2 = (X : Int)) : EO M Γ w pc X 0 (boolE c) := by
  intro G env st μ v μ' h hw k
  obtain ⟨⟨b, μ1⟩, g1, g3⟩ := b_some h
  cases g3
  refine hc G env st μ _ _ g1 hw ?_
  cases b with
  | true => exact r_iconst G h1 ⟨by omega, by omega⟩ (r_goto G h2 ht k)
  | false => exact r_iconst G h3 ⟨by omega, by omega⟩ (r_goto G h4 ht2 k)
end RU
