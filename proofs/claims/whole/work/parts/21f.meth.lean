noncomputable def kX12_allStray_0c : Cn := (cmpC 2 (locE 0 3) (cvE 12 fX12_meadows [(2, (locE 2 0))]))
noncomputable def kX12_allStray_0b : Sx := (stS 2 0 (binE (fun x y => w32 (x + y)) (locE 0 2) (cvE 12 fX12_straysTo [(2, (locE 2 0)), (0, (locE 0 1)), (0, (locE 0 3))])))
noncomputable def kX12_allStray_0u : Sx := (incS 3 1)
noncomputable def kX12_allStray_0 : Sx := loopS 2 3 kX12_allStray_0c kX12_allStray_0b kX12_allStray_0u
noncomputable def bX12_allStray : Sx := (seqS (stS 2 0 (numE 0)) (seqS (seqS (stS 3 0 (numE 0)) kX12_allStray_0) (retS (locE 0 2))))
noncomputable def fX12_allStray : Fn := runB 4 bX12_allStray
theorem sX12_allStray (Γ : Cx) : SO (cX12_allStray, yX12_allStray.cls, 5, 4, (some .int)) Γ 0 0 [] bX12_allStray :=
  (S_seq (p1 := 2) (S_istore_n (E_iconst dX12_allStray_0 (by decide)) dX12_allStray_1 rfl)
  (S_seq (p1 := 27) (S_seq (p1 := 4) (S_istore_n (E_iconst dX12_allStray_2 (by decide)) dX12_allStray_3 rfl) (S_loop (p1 := 12) (p2 := 27) (p3 := 21) (kb := 2) (kc := 3) (by decide) (by decide) (by decide) (C_icmp_ge_n (E_iload_n dX12_allStray_4 rfl) (E_callV mX12_meadows cv_X12_362 (A_cons2 (E_aload_n dX12_allStray_5 rfl) A_nil) dX12_allStray_6 (by decide) ⟨by decide, by decide⟩ rfl (by decide)) dX12_allStray_9 rfl)
  (S_istore_n (E_iadd (E_iload_n dX12_allStray_12 rfl) (E_callV mX12_straysTo cv_X12_365 (A_cons2 (E_aload_n dX12_allStray_13 rfl) (A_cons0 (E_iload_n dX12_allStray_14 rfl) (A_cons0 (E_iload_n dX12_allStray_15 rfl) A_nil))) dX12_allStray_16 (by decide) ⟨by decide, by decide⟩ rfl (by decide)) dX12_allStray_19) dX12_allStray_20 rfl)
  (S_thru (S_iinc dX12_allStray_21) dX12_allStray_24 rfl)))
  (S_reti rfl (E_iload_n dX12_allStray_27 rfl) dX12_allStray_28)))
theorem mX12_allStray : MO yX12_allStray cX12_allStray 4 (some .int) 5 fX12_allStray := MO_of (by decide) (fun Γ => sX12_allStray Γ)
noncomputable def bX12_isBeast : Sx := (retZ (boolE (andC (zC 3 (locE 0 1)) (cmpC 2 (locE 0 1) (cvE 12 fX12_beasts [(2, (locE 2 0))])))))
noncomputable def fX12_isBeast : Fn := runB 2 bX12_isBeast
theorem sX12_isBeast (Γ : Cx) : SO (cX12_isBeast, yX12_isBeast.cls, 2, 2, (some .boolean)) Γ 0 0 [] bX12_isBeast :=
  (S_retz rfl (E_bool (p1 := 12) (p2 := 16) (C_and (p1 := 4) (C_if_lt_n (E_iload_n dX12_isBeast_0 rfl) dX12_isBeast_1 rfl) (C_icmp_ge_n (E_iload_n dX12_isBeast_4 rfl) (E_callV mX12_beasts cv_X12_277 (A_cons2 (E_aload_n dX12_isBeast_5 rfl) A_nil) dX12_isBeast_6 (by decide) ⟨by decide, by decide⟩ rfl (by decide)) dX12_isBeast_9 rfl)) dX12_isBeast_12 dX12_isBeast_13 dX12_isBeast_16 rfl) dX12_isBeast_17)
theorem mX12_isBeast : MO yX12_isBeast cX12_isBeast 2 (some .boolean) 2 fX12_isBeast := MO_of (by decide) (fun Γ => sX12_isBeast Γ)
noncomputable def kX12_copies_0c : Cn := (cmpC 2 (locE 0 3) (numE 290))
noncomputable def kX12_copies_0b : Sx := (astS 100 (getE 12 23 2 (locE 2 0)) (binE (fun x y => w32 (x + y)) (binE (fun x y => w32 (x * y)) (numE 290) (locE 0 2)) (locE 0 3)) (aldE 100 (getE 12 23 2 (locE 2 0)) (binE (fun x y => w32 (x + y)) (binE (fun x y => w32 (x * y)) (numE 290) (locE 0 1)) (locE 0 3))))
noncomputable def kX12_copies_0u : Sx := (incS 3 1)
noncomputable def kX12_copies_0 : Sx := loopS 2 3 kX12_copies_0c kX12_copies_0b kX12_copies_0u
noncomputable def bX12_copies : Sx := (seqS (seqS (stS 3 0 (numE 0)) kX12_copies_0) retV)
noncomputable def fX12_copies : Fn := runB 4 bX12_copies
theorem sX12_copies (Γ : Cx) : SO (cX12_copies, yX12_copies.cls, 1, 4, none) Γ 0 0 [] bX12_copies :=
  (S_seq (p1 := 39) (S_seq (p1 := 2) (S_istore_n (E_iconst dX12_copies_0 (by decide)) dX12_copies_1 rfl) (S_loop (p1 := 9) (p2 := 39) (p3 := 33) (kb := 2) (kc := 3) (by decide) (by decide) (by decide) (C_icmp_ge_n (E_iload_n dX12_copies_2 rfl) (E_sipush dX12_copies_3 (by decide)) dX12_copies_6 rfl)
  (S_iast (E_getf fl_X12_112 (E_aload_n dX12_copies_9 rfl) dX12_copies_10) (E_iadd (E_imul (E_sipush dX12_copies_13 (by decide)) (E_iload_n dX12_copies_16 rfl) dX12_copies_17) (E_iload_n dX12_copies_18 rfl) dX12_copies_19) (E_iald (E_getf fl_X12_112 (E_aload_n dX12_copies_20 rfl) dX12_copies_21) (E_iadd (E_imul (E_sipush dX12_copies_24 (by decide)) (E_iload_n dX12_copies_27 rfl) dX12_copies_28) (E_iload_n dX12_copies_29 rfl) dX12_copies_30) dX12_copies_31) dX12_copies_32)
  (S_thru (S_iinc dX12_copies_33) dX12_copies_36 rfl))) (S_retv rfl dX12_copies_39))
theorem mX12_copies : MO yX12_copies cX12_copies 4 none 1 fX12_copies := MO_of (by decide) (fun Γ => sX12_copies Γ)
noncomputable def kX12_keeps_0c : Cn := (cmpC 2 (locE 0 1) (numE 12))
noncomputable def kX12_keeps_0b : Sx := (exS (cvE 12 fX12_copies [(2, (locE 2 0)), (0, (binE (fun x y => w32 (x + y)) (numE 5) (locE 0 1))), (0, (binE (fun x y => w32 (x - y)) (binE (fun x y => w32 (x + y)) (numE 5) (locE 0 1)) (numE 1)))]))
noncomputable def kX12_keeps_0u : Sx := (incS 1 1)
noncomputable def kX12_keeps_0 : Sx := loopS 2 3 kX12_keeps_0c kX12_keeps_0b kX12_keeps_0u
noncomputable def bX12_keeps : Sx := (seqS (seqS (ifS (cmpC 0 (getE 12 24 0 (locE 2 0)) (numE 12)) (seqS (seqS (stS 1 0 (numE 1)) kX12_keeps_0) (fopS 12 24 (fun x y => w32 (x - y)) (locE 2 0) (numE 1))) skipS) (seqS (exS (cvE 12 fX12_copies [(2, (locE 2 0)), (0, (numE 0)), (0, (binE (fun x y => w32 (x + y)) (numE 5) (getE 12 24 0 (locE 2 0))))])) (fopS 12 24 (fun x y => w32 (x + y)) (locE 2 0) (numE 1)))) retV)
noncomputable def fX12_keeps : Fn := runB 2 bX12_keeps
theorem sX12_keeps (Γ : Cx) : SO (cX12_keeps, yX12_keeps.cls, 2, 2, none) Γ 0 0 [] bX12_keeps :=
  (S_seq (p1 := 66) (S_seq (p1 := 45) (S_if (p1 := 9) (p2 := 45) (q := 45) (C_icmp_ne_n (E_getf fl_X12_271 (E_aload_n dX12_keeps_0 rfl) dX12_keeps_1) (E_bipush dX12_keeps_4 (by decide)) dX12_keeps_6 rfl) (S_seq (p1 := 35) (S_seq (p1 := 11) (S_istore_n (E_iconst dX12_keeps_9 (by decide)) dX12_keeps_10 rfl) (S_loop (p1 := 17) (p2 := 35) (p3 := 29) (kb := 2) (kc := 3) (by decide) (by decide) (by decide) (C_icmp_ge_n (E_iload_n dX12_keeps_11 rfl) (E_bipush dX12_keeps_12 (by decide)) dX12_keeps_14 rfl)
  (S_callV mX12_copies cv_X12_274 (A_cons2 (E_aload_n dX12_keeps_17 rfl) (A_cons0 (E_iadd (E_iconst dX12_keeps_18 (by decide)) (E_iload_n dX12_keeps_19 rfl) dX12_keeps_20) (A_cons0 (E_isub (E_iadd (E_iconst dX12_keeps_21 (by decide)) (E_iload_n dX12_keeps_22 rfl) dX12_keeps_23) (E_iconst dX12_keeps_24 (by decide)) dX12_keeps_25) A_nil))) dX12_keeps_26 (by decide) rfl)
  (S_thru (S_iinc dX12_keeps_29) dX12_keeps_32 rfl)))
  (S_fop_isub fl_X12_271 fp_X12_271 (E_aload_n dX12_keeps_35 rfl) dX12_keeps_36 dX12_keeps_37 (E_iconst dX12_keeps_40 (by decide)) dX12_keeps_41 dX12_keeps_42)) S_skip)
  (S_seq (p1 := 56) (S_callV mX12_copies cv_X12_274 (A_cons2 (E_aload_n dX12_keeps_45 rfl) (A_cons0 (E_iconst dX12_keeps_46 (by decide)) (A_cons0 (E_iadd (E_iconst dX12_keeps_47 (by decide)) (E_getf fl_X12_271 (E_aload_n dX12_keeps_48 rfl) dX12_keeps_49) dX12_keeps_52) A_nil))) dX12_keeps_53 (by decide) rfl)
  (S_fop_iadd fl_X12_271 fp_X12_271 (E_aload_n dX12_keeps_56 rfl) dX12_keeps_57 dX12_keeps_58 (E_iconst dX12_keeps_61 (by decide)) dX12_keeps_62 dX12_keeps_63))) (S_retv rfl dX12_keeps_66))
theorem mX12_keeps : MO yX12_keeps cX12_keeps 2 none 2 fX12_keeps := MO_of (by decide) (fun Γ => sX12_keeps Γ)
noncomputable def bX12_away : Sx := (seqS (putS 12 0 0 .int (locE 2 0) (numE 0)) (seqS (ifS (orC (notC (zC 1 (cvE 12 fX12_isBeast [(2, (locE 2 0)), (0, (locE 0 1))]))) (cmpC 1 (cvE 12 fX12_isAway [(2, (locE 2 0)), (0, (locE 0 1))]) (locE 0 2))) (retZ (numE 0)) skipS) (seqS (exS (cvE 12 fX12_keeps [(2, (locE 2 0))])) (seqS (aopS 100 o_ixor (getE 12 23 2 (locE 2 0)) (numE 0) (binE o_ishl (numE 1) (locE 0 1))) (seqS (astS 100 (getE 12 23 2 (locE 2 0)) (binE (fun x y => w32 (x + y)) (numE 2) (locE 0 1)) (numE (-1))) (retZ (numE 1)))))))
noncomputable def fX12_away : Fn := runB 3 bX12_away
theorem sX12_away (Γ : Cx) : SO (cX12_away, yX12_away.cls, 3, 3, (some .boolean)) Γ 0 0 [] bX12_away :=
  (S_seq (p1 := 5) (S_putf fp_X12_1 (E_aload_n dX12_away_0 rfl) (E_iconst dX12_away_1 (by decide)) dX12_away_2)
  (S_seq (p1 := 24) (S_if (p1 := 22) (p2 := 24) (q := 24) (C_or (p1 := 13) (C_not (C_if_eq_n (E_callV mX12_isBeast cv_X12_316 (A_cons2 (E_aload_n dX12_away_5 rfl) (A_cons0 (E_iload_n dX12_away_6 rfl) A_nil)) dX12_away_7 (by decide) ⟨by decide, by decide⟩ rfl (by decide)) dX12_away_10 rfl)) (C_icmp_eq_n (E_callV mX12_isAway cv_X12_310 (A_cons2 (E_aload_n dX12_away_13 rfl) (A_cons0 (E_iload_n dX12_away_14 rfl) A_nil)) dX12_away_15 (by decide) ⟨by decide, by decide⟩ rfl (by decide)) (E_iload_n dX12_away_18 rfl) dX12_away_19 rfl)) (S_retz rfl (E_iconst dX12_away_22 (by decide)) dX12_away_23) S_skip)
  (S_seq (p1 := 28) (S_callV mX12_keeps cv_X12_323 (A_cons2 (E_aload_n dX12_away_24 rfl) A_nil) dX12_away_25 (by decide) rfl)
  (S_seq (p1 := 40) (S_aop_ixor (E_getf fl_X12_112 (E_aload_n dX12_away_28 rfl) dX12_away_29) (E_iconst dX12_away_32 (by decide)) dX12_away_33 dX12_away_34 (E_ishl (E_iconst dX12_away_35 (by decide)) (E_iload_n dX12_away_36 rfl) dX12_away_37) dX12_away_38 dX12_away_39)
  (S_seq (p1 := 49) (S_iast (E_getf fl_X12_112 (E_aload_n dX12_away_40 rfl) dX12_away_41) (E_iadd (E_iconst dX12_away_44 (by decide)) (E_iload_n dX12_away_45 rfl) dX12_away_46) (E_iconst dX12_away_47 (by decide)) dX12_away_48)
  (S_retz rfl (E_iconst dX12_away_49 (by decide)) dX12_away_50))))))
theorem mX12_away : MO yX12_away cX12_away 3 (some .boolean) 3 fX12_away := MO_of (by decide) (fun Γ => sX12_away Γ)
noncomputable def bX12_within : Sx := (retZ (boolE (andC (cmpC 3 (locE 0 0) (locE 0 1)) (cmpC 5 (locE 0 0) (locE 0 2)))))
noncomputable def fX12_within : Fn := runB 3 bX12_within
theorem sX12_within (Γ : Cx) : SO (cX12_within, yX12_within.cls, 1, 3, (some .boolean)) Γ 0 0 [] bX12_within :=
  (S_retz rfl (E_bool (p1 := 10) (p2 := 14) (C_and (p1 := 5) (C_icmp_lt_n (E_iload_n dX12_within_0 rfl) (E_iload_n dX12_within_1 rfl) dX12_within_2 rfl) (C_icmp_gt_n (E_iload_n dX12_within_5 rfl) (E_iload_n dX12_within_6 rfl) dX12_within_7 rfl)) dX12_within_10 dX12_within_11 dX12_within_14 rfl) dX12_within_15)
theorem mX12_within : MO yX12_within cX12_within 3 (some .boolean) 1 fX12_within := MO_of (by decide) (fun Γ => sX12_within Γ)
def wX12_beast_25_sel : Int → Nat := fun v => if v = 0 then 0 else if v = 1 then 1 else if v = 2 then 2 else if v = 3 then 3 else 4
def wX12_beast_25_pcs : Nat → Nat := fun i => match i with
  | 0 => 56
  | 1 => 62
  | 2 => 68
  | 3 => 77
  | _ => 91
theorem wX12_beast_25 (Γ : Cx) : SW (cX12_beast, yX12_beast.cls, 3, 3, (some .int)) Γ 25 wX12_beast_25_pcs wX12_beast_25_sel := by
  intro G env μ v k
  by_cases h0 : v = 0
  · subst h0; exact r_tsw G dX12_beast_25 (Or.inr ⟨⟨by decide, by decide⟩, _, rfl, rfl⟩) k
  by_cases h1 : v = 1
  · subst h1; exact r_tsw G dX12_beast_25 (Or.inr ⟨⟨by decide, by decide⟩, _, rfl, rfl⟩) k
  by_cases h2 : v = 2
  · subst h2; exact r_tsw G dX12_beast_25 (Or.inr ⟨⟨by decide, by decide⟩, _, rfl, rfl⟩) k
  by_cases h3 : v = 3
  · subst h3; exact r_tsw G dX12_beast_25 (Or.inr ⟨⟨by decide, by decide⟩, _, rfl, rfl⟩) k
  have hsel : wX12_beast_25_sel v = 4 := by simp [wX12_beast_25_sel, h0, h1, h2, h3]
  rw [hsel] at k
  exact r_tsw G dX12_beast_25 (Or.inl ⟨by omega, rfl⟩) k
noncomputable def bX12_beast : Sx := (seqS (putS 12 0 0 .int (locE 2 0) (numE 0)) (seqS (ifS (orC (notC (zC 1 (cvE 12 fX12_isBeast [(2, (locE 2 0)), (0, (locE 0 1))]))) (notC (zC 1 (csE fX12_within [(0, (locE 0 2)), (0, (numE 0)), (0, (numE 4))])))) (retS (numE (-1))) skipS) (swS 2 (locE 0 2) wX12_beast_25_sel (fun i => match i with | 0 => (retS (cvE 12 fX12_kindOf [(2, (locE 2 0)), (0, (locE 0 1))])) | 1 => (retS (cvE 12 fX12_toneOf [(2, (locE 2 0)), (0, (locE 0 1))])) | 2 => (retS (aldE 100 (getE 12 23 2 (locE 2 0)) (binE (fun x y => w32 (x + y)) (numE 2) (locE 0 1)))) | 3 => (retS (condE (zC 1 (cvE 12 fX12_isAway [(2, (locE 2 0)), (0, (locE 0 1))])) (numE 1) (numE 0))) | _ => (retS (aldE 100 (getE 12 23 2 (locE 2 0)) (binE (fun x y => w32 (x + y)) (numE 26) (locE 0 1))))))))
noncomputable def fX12_beast : Fn := runB 3 bX12_beast
theorem sX12_beast (Γ : Cx) : SO (cX12_beast, yX12_beast.cls, 3, 3, (some .int)) Γ 0 0 [] bX12_beast :=
  (S_seq (p1 := 5) (S_putf fp_X12_1 (E_aload_n dX12_beast_0 rfl) (E_iconst dX12_beast_1 (by decide)) dX12_beast_2)
  (S_seq (p1 := 24) (S_if (p1 := 22) (p2 := 24) (q := 24) (C_or (p1 := 13) (C_not (C_if_eq_n (E_callV mX12_isBeast cv_X12_316 (A_cons2 (E_aload_n dX12_beast_5 rfl) (A_cons0 (E_iload_n dX12_beast_6 rfl) A_nil)) dX12_beast_7 (by decide) ⟨by decide, by decide⟩ rfl (by decide)) dX12_beast_10 rfl)) (C_not (C_if_ne (E_callS mX12_within cs_X12_319 (A_cons0 (E_iload_n dX12_beast_13 rfl) (A_cons0 (E_iconst dX12_beast_14 (by decide)) (A_cons0 (E_iconst dX12_beast_15 (by decide)) A_nil))) dX12_beast_16 (by decide) ⟨by decide, by decide⟩ rfl (by decide)) dX12_beast_19 rfl))) (S_reti rfl (E_iconst dX12_beast_22 (by decide)) dX12_beast_23) S_skip)
  (S_switch (kb := 2) (by decide) (E_iload_n dX12_beast_24 rfl) (wX12_beast_25 Γ) (fun i => match i with
   | 0 => (S_reti rfl (E_callV mX12_kindOf cv_X12_283 (A_cons2 (E_aload_n dX12_beast_56 rfl) (A_cons0 (E_iload_n dX12_beast_57 rfl) A_nil)) dX12_beast_58 (by decide) ⟨by decide, by decide⟩ rfl (by decide)) dX12_beast_61)
   | 1 => (S_reti rfl (E_callV mX12_toneOf cv_X12_298 (A_cons2 (E_aload_n dX12_beast_62 rfl) (A_cons0 (E_iload_n dX12_beast_63 rfl) A_nil)) dX12_beast_64 (by decide) ⟨by decide, by decide⟩ rfl (by decide)) dX12_beast_67)
   | 2 => (S_reti rfl (E_iald (E_getf fl_X12_112 (E_aload_n dX12_beast_68 rfl) dX12_beast_69) (E_iadd (E_iconst dX12_beast_72 (by decide)) (E_iload_n dX12_beast_73 rfl) dX12_beast_74) dX12_beast_75) dX12_beast_76)
   | 3 => (S_reti rfl (E_cond (p1 := 85) (p2 := 89) (p3 := 90) (C_if_eq_n (E_callV mX12_isAway cv_X12_310 (A_cons2 (E_aload_n dX12_beast_77 rfl) (A_cons0 (E_iload_n dX12_beast_78 rfl) A_nil)) dX12_beast_79 (by decide) ⟨by decide, by decide⟩ rfl (by decide)) dX12_beast_82 rfl) (E_thru (E_iconst dX12_beast_85 (by decide)) dX12_beast_86 rfl) (E_iconst dX12_beast_89 (by decide))) dX12_beast_90)
   | _+4 => (S_reti rfl (E_iald (E_getf fl_X12_112 (E_aload_n dX12_beast_91 rfl) dX12_beast_92) (E_iadd (E_bipush dX12_beast_95 (by decide)) (E_iload_n dX12_beast_97 rfl) dX12_beast_98) dX12_beast_99) dX12_beast_100)))))
theorem mX12_beast : MO yX12_beast cX12_beast 3 (some .int) 3 fX12_beast := MO_of (by decide) (fun Γ => sX12_beast Γ)
noncomputable def kX12_find_0c : Cn := (cmpC 2 (locE 0 1) (getE 12 17 0 (locE 2 0)))
noncomputable def kX12_find_0b : Sx := (ifS (cmpC 0 (aldE 101 (getE 12 15 2 (locE 2 0)) (locE 0 1)) (aldE 101 (getE 12 6 2 (locE 2 0)) (getE 12 7 0 (locE 2 0)))) (retS (aldE 100 (getE 12 16 2 (locE 2 0)) (locE 0 1))) skipS)
noncomputable def kX12_find_0u : Sx := (incS 1 1)
noncomputable def kX12_find_0 : Sx := loopS 2 3 kX12_find_0c kX12_find_0b kX12_find_0u
noncomputable def bX12_find : Sx := (seqS (seqS (stS 1 0 (numE 0)) kX12_find_0) (retS (numE (-1))))
noncomputable def fX12_find : Fn := runB 2 bX12_find
theorem sX12_find (Γ : Cx) : SO (cX12_find, yX12_find.cls, 1, 2, (some .int)) Γ 0 0 [] bX12_find :=
  (S_seq (p1 := 42) (S_seq (p1 := 2) (S_istore_n (E_iconst dX12_find_0 (by decide)) dX12_find_1 rfl) (S_loop (p1 := 10) (p2 := 42) (p3 := 36) (kb := 2) (kc := 3) (by decide) (by decide) (by decide) (C_icmp_ge_n (E_iload_n dX12_find_2 rfl) (E_getf fl_X12_188 (E_aload_n dX12_find_3 rfl) dX12_find_4) dX12_find_7 rfl)
  (S_if (p1 := 29) (p2 := 36) (q := 36) (C_lcmp_ne_n (E_lald (E_getf fl_X12_94 (E_aload_n dX12_find_10 rfl) dX12_find_11) (E_iload_n dX12_find_14 rfl) dX12_find_15) (E_lald (E_getf fl_X12_30 (E_aload_n dX12_find_16 rfl) dX12_find_17) (E_getf fl_X12_162 (E_aload_n dX12_find_20 rfl) dX12_find_21) dX12_find_24) dX12_find_25 dX12_find_26 rfl) (S_reti rfl (E_iald (E_getf fl_X12_97 (E_aload_n dX12_find_29 rfl) dX12_find_30) (E_iload_n dX12_find_33 rfl) dX12_find_34) dX12_find_35) S_skip)
  (S_thru (S_iinc dX12_find_36) dX12_find_39 rfl)))
  (S_reti rfl (E_iconst dX12_find_42 (by decide)) dX12_find_43))
theorem mX12_find : MO yX12_find cX12_find 2 (some .int) 1 fX12_find := MO_of (by decide) (fun Γ => sX12_find Γ)
noncomputable def kX12_isName_0c : Cn := (cmpC 2 (locE 0 2) (numE 18))
noncomputable def kX12_isName_0b : Sx := (stS 1 0 (boolE (andC (zC 1 (locE 0 1)) (cmpC 1 (aldE 101 (getE 12 6 2 (locE 2 0)) (getE 12 7 0 (locE 2 0))) (aldE 101 (getE 12 9 2 (locE 2 0)) (locE 0 2))))))
noncomputable def kX12_isName_0u : Sx := (incS 2 1)
noncomputable def kX12_isName_0 : Sx := loopS 2 3 kX12_isName_0c kX12_isName_0b kX12_isName_0u
noncomputable def bX12_isName : Sx := (seqS (stS 1 0 (boolE (andC (zC 0 (getE 12 8 0 (locE 2 0))) (cmpC 0 (aldE 100 (getE 12 4 2 (locE 2 0)) (getE 12 7 0 (locE 2 0))) (numE 1))))) (seqS (seqS (stS 2 0 (numE 0)) kX12_isName_0) (retZ (locE 0 1))))
noncomputable def fX12_isName : Fn := runB 3 bX12_isName
theorem sX12_isName (Γ : Cx) : SO (cX12_isName, yX12_isName.cls, 1, 3, (some .boolean)) Γ 0 0 [] bX12_isName :=
  (S_seq (p1 := 26) (S_istore_n (E_bool (p1 := 20) (p2 := 24) (C_and (p1 := 7) (C_if_ne_n (E_getf fl_X12_165 (E_aload_n dX12_isName_0 rfl) dX12_isName_1) dX12_isName_4 rfl) (C_icmp_ne_n (E_iald (E_getf fl_X12_24 (E_aload_n dX12_isName_7 rfl) dX12_isName_8) (E_getf fl_X12_162 (E_aload_n dX12_isName_11 rfl) dX12_isName_12) dX12_isName_15) (E_iconst dX12_isName_16 (by decide)) dX12_isName_17 rfl)) dX12_isName_20 dX12_isName_21 dX12_isName_24 rfl) dX12_isName_25 rfl)
  (S_seq (p1 := 69) (S_seq (p1 := 28) (S_istore_n (E_iconst dX12_isName_26 (by decide)) dX12_isName_27 rfl) (S_loop (p1 := 34) (p2 := 69) (p3 := 63) (kb := 2) (kc := 3) (by decide) (by decide) (by decide) (C_icmp_ge_n (E_iload_n dX12_isName_28 rfl) (E_bipush dX12_isName_29 (by decide)) dX12_isName_31 rfl)
  (S_istore_n (E_bool (p1 := 57) (p2 := 61) (C_and (p1 := 38) (C_if_eq_n (E_iload_n dX12_isName_34 rfl) dX12_isName_35 rfl) (C_lcmp_eq_n (E_lald (E_getf fl_X12_30 (E_aload_n dX12_isName_38 rfl) dX12_isName_39) (E_getf fl_X12_162 (E_aload_n dX12_isName_42 rfl) dX12_isName_43) dX12_isName_46) (E_lald (E_getf fl_X12_82 (E_aload_n dX12_isName_47 rfl) dX12_isName_48) (E_iload_n dX12_isName_51 rfl) dX12_isName_52) dX12_isName_53 dX12_isName_54 rfl)) dX12_isName_57 dX12_isName_58 dX12_isName_61 rfl) dX12_isName_62 rfl)
  (S_thru (S_iinc dX12_isName_63) dX12_isName_66 rfl)))
  (S_retz rfl (E_iload_n dX12_isName_69 rfl) dX12_isName_70)))
theorem mX12_isName : MO yX12_isName cX12_isName 3 (some .boolean) 1 fX12_isName := MO_of (by decide) (fun Γ => sX12_isName Γ)
noncomputable def bX12_beastHere : Sx := (seqS (stS 1 0 (condE (zC 1 (cvE 12 fX12_isName [(2, (locE 2 0))])) (cvE 12 fX12_find [(2, (locE 2 0))]) (numE (-1)))) (seqS (ifS (notC (zC 1 (cvE 12 fX12_isName [(2, (locE 2 0))]))) (exS (cvE 12 fX12_wrong [(2, (locE 2 0)), (0, (numE 1))])) (ifS (orC (zC 2 (locE 0 1)) (cmpC 3 (locE 0 1) (numE 12))) (exS (cvE 12 fX12_wrong [(2, (locE 2 0)), (0, (numE 2))])) skipS)) (retS (locE 0 1))))
noncomputable def fX12_beastHere : Fn := runB 2 bX12_beastHere
theorem sX12_beastHere (Γ : Cx) : SO (cX12_beastHere, yX12_beastHere.cls, 2, 2, (some .int)) Γ 0 0 [] bX12_beastHere :=
  (S_seq (p1 := 16) (S_istore_n (E_cond (p1 := 7) (p2 := 14) (p3 := 15) (C_if_eq_n (E_callV mX12_isName cv_X12_222 (A_cons2 (E_aload_n dX12_beastHere_0 rfl) A_nil) dX12_beastHere_1 (by decide) ⟨by decide, by decide⟩ rfl (by decide)) dX12_beastHere_4 rfl) (E_thru (E_callV mX12_find cv_X12_226 (A_cons2 (E_aload_n dX12_beastHere_7 rfl) A_nil) dX12_beastHere_8 (by decide) ⟨by decide, by decide⟩ rfl (by decide)) dX12_beastHere_11 rfl) (E_iconst dX12_beastHere_14 (by decide))) dX12_beastHere_15 rfl)
  (S_seq (p1 := 46) (S_if (p1 := 23) (p2 := 31) (q := 46) (C_not (C_if_ne (E_callV mX12_isName cv_X12_222 (A_cons2 (E_aload_n dX12_beastHere_16 rfl) A_nil) dX12_beastHere_17 (by decide) ⟨by decide, by decide⟩ rfl (by decide)) dX12_beastHere_20 rfl))
  (S_thru (S_callV mX12_wrong cv_X12_171 (A_cons2 (E_aload_n dX12_beastHere_23 rfl) (A_cons0 (E_iconst dX12_beastHere_24 (by decide)) A_nil)) dX12_beastHere_25 (by decide) rfl) dX12_beastHere_28 rfl)
  (S_if (p1 := 41) (p2 := 46) (q := 46) (C_or (p1 := 35) (C_if_lt (E_iload_n dX12_beastHere_31 rfl) dX12_beastHere_32 rfl) (C_icmp_lt_n (E_iload_n dX12_beastHere_35 rfl) (E_bipush dX12_beastHere_36 (by decide)) dX12_beastHere_38 rfl)) (S_callV mX12_wrong cv_X12_171 (A_cons2 (E_aload_n dX12_beastHere_41 rfl) (A_cons0 (E_iconst dX12_beastHere_42 (by decide)) A_nil)) dX12_beastHere_43 (by decide) rfl) S_skip))
  (S_reti rfl (E_iload_n dX12_beastHere_46 rfl) dX12_beastHere_47)))
theorem mX12_beastHere : MO yX12_beastHere cX12_beastHere 2 (some .int) 2 fX12_beastHere := MO_of (by decide) (fun Γ => sX12_beastHere Γ)
noncomputable def kX12_begins_0c : Cn := (cmpC 2 (locE 0 1) (numE 290))
noncomputable def kX12_begins_0b : Sx := (astS 100 (getE 12 23 2 (locE 2 0)) (locE 0 1) (numE 0))
noncomputable def kX12_begins_0u : Sx := (incS 1 1)
noncomputable def kX12_begins_0 : Sx := loopS 2 3 kX12_begins_0c kX12_begins_0b kX12_begins_0u
noncomputable def kX12_begins_1c : Cn := (cmpC 2 (locE 0 1) (numE 12))
noncomputable def kX12_begins_1b : Sx := (seqS (astS 100 (getE 12 23 2 (locE 2 0)) (binE (fun x y => w32 (x + y)) (numE 2) (locE 0 1)) (numE (-1))) (astS 100 (getE 12 23 2 (locE 2 0)) (binE (fun x y => w32 (x + y)) (numE 14) (locE 0 1)) (numE (-1))))
noncomputable def kX12_begins_1u : Sx := (incS 1 1)
noncomputable def kX12_begins_1 : Sx := loopS 4 5 kX12_begins_1c kX12_begins_1b kX12_begins_1u
noncomputable def kX12_begins_2c : Cn := (cmpC 2 (locE 0 1) (numE 4))
noncomputable def kX12_begins_2b : Sx := (astS 104 (getE 12 25 2 (locE 2 0)) (locE 0 1) (numE 0))
noncomputable def kX12_begins_2u : Sx := (incS 1 1)
noncomputable def kX12_begins_2 : Sx := loopS 6 7 kX12_begins_2c kX12_begins_2b kX12_begins_2u
noncomputable def bX12_begins : Sx := (seqS (seqS (seqS (stS 1 0 (numE 0)) kX12_begins_0) (seqS (seqS (stS 1 0 (numE 0)) kX12_begins_1) (seqS (putS 12 24 0 .int (locE 2 0) (numE 0)) (seqS (stS 1 0 (numE 0)) kX12_begins_2)))) retV)
noncomputable def fX12_begins : Fn := runB 2 bX12_begins
theorem sX12_begins (Γ : Cx) : SO (cX12_begins, yX12_begins.cls, 1, 2, none) Γ 0 0 [] bX12_begins :=
  (S_seq (p1 := 80) (S_seq (p1 := 22) (S_seq (p1 := 2) (S_istore_n (E_iconst dX12_begins_0 (by decide)) dX12_begins_1 rfl) (S_loop (p1 := 9) (p2 := 22) (p3 := 16) (kb := 2) (kc := 3) (by decide) (by decide) (by decide) (C_icmp_ge_n (E_iload_n dX12_begins_2 rfl) (E_sipush dX12_begins_3 (by decide)) dX12_begins_6 rfl)
  (S_iast (E_getf fl_X12_112 (E_aload_n dX12_begins_9 rfl) dX12_begins_10) (E_iload_n dX12_begins_13 rfl) (E_iconst dX12_begins_14 (by decide)) dX12_begins_15)
  (S_thru (S_iinc dX12_begins_16) dX12_begins_19 rfl)))
  (S_seq (p1 := 55) (S_seq (p1 := 24) (S_istore_n (E_iconst dX12_begins_22 (by decide)) dX12_begins_23 rfl) (S_loop (p1 := 30) (p2 := 55) (p3 := 49) (kb := 4) (kc := 5) (by decide) (by decide) (by decide) (C_icmp_ge_n (E_iload_n dX12_begins_24 rfl) (E_bipush dX12_begins_25 (by decide)) dX12_begins_27 rfl)
  (S_seq (p1 := 39) (S_iast (E_getf fl_X12_112 (E_aload_n dX12_begins_30 rfl) dX12_begins_31) (E_iadd (E_iconst dX12_begins_34 (by decide)) (E_iload_n dX12_begins_35 rfl) dX12_begins_36) (E_iconst dX12_begins_37 (by decide)) dX12_begins_38)
  (S_iast (E_getf fl_X12_112 (E_aload_n dX12_begins_39 rfl) dX12_begins_40) (E_iadd (E_bipush dX12_begins_43 (by decide)) (E_iload_n dX12_begins_45 rfl) dX12_begins_46) (E_iconst dX12_begins_47 (by decide)) dX12_begins_48))
  (S_thru (S_iinc dX12_begins_49) dX12_begins_52 rfl)))
  (S_seq (p1 := 60) (S_putf fp_X12_271 (E_aload_n dX12_begins_55 rfl) (E_iconst dX12_begins_56 (by decide)) dX12_begins_57)
  (S_seq (p1 := 62) (S_istore_n (E_iconst dX12_begins_60 (by decide)) dX12_begins_61 rfl) (S_loop (p1 := 67) (p2 := 80) (p3 := 74) (kb := 6) (kc := 7) (by decide) (by decide) (by decide) (C_icmp_ge_n (E_iload_n dX12_begins_62 rfl) (E_iconst dX12_begins_63 (by decide)) dX12_begins_64 rfl)
  (S_zast (E_getf fl_X12_115 (E_aload_n dX12_begins_67 rfl) dX12_begins_68) (E_iload_n dX12_begins_71 rfl) (E_iconst dX12_begins_72 (by decide)) dX12_begins_73)
  (S_thru (S_iinc dX12_begins_74) dX12_begins_77 rfl)))))) (S_retv rfl dX12_begins_80))
theorem mX12_begins : MO yX12_begins cX12_begins 2 none 1 fX12_begins := MO_of (by decide) (fun Γ => sX12_begins Γ)
noncomputable def bX12_beside : Sx := (seqS (putS 12 0 0 .int (locE 2 0) (numE 0)) (retS (condE (andC (andC (zC 1 (cvE 12 fX12_isBeast [(2, (locE 2 0)), (0, (locE 0 1))])) (zC 1 (cvE 12 fX12_isBeast [(2, (locE 2 0)), (0, (locE 0 2))]))) (cmpC 1 (locE 0 1) (locE 0 2))) (aldE 100 (getE 12 23 2 (locE 2 0)) (binE (fun x y => w32 (x + y)) (binE (fun x y => w32 (x + y)) (numE 38) (binE (fun x y => w32 (x * y)) (numE 12) (locE 0 1))) (locE 0 2))) (numE (-1)))))
noncomputable def fX12_beside : Fn := runB 3 bX12_beside
theorem sX12_beside (Γ : Cx) : SO (cX12_beside, yX12_beside.cls, 3, 3, (some .int)) Γ 0 0 [] bX12_beside :=
  (S_seq (p1 := 5) (S_putf fp_X12_1 (E_aload_n dX12_beside_0 rfl) (E_iconst dX12_beside_1 (by decide)) dX12_beside_2)
  (S_reti rfl (E_cond (p1 := 26) (p2 := 43) (p3 := 44) (C_and (p1 := 21) (C_and (p1 := 13) (C_if_eq_n (E_callV mX12_isBeast cv_X12_316 (A_cons2 (E_aload_n dX12_beside_5 rfl) (A_cons0 (E_iload_n dX12_beside_6 rfl) A_nil)) dX12_beside_7 (by decide) ⟨by decide, by decide⟩ rfl (by decide)) dX12_beside_10 rfl) (C_if_eq_n (E_callV mX12_isBeast cv_X12_316 (A_cons2 (E_aload_n dX12_beside_13 rfl) (A_cons0 (E_iload_n dX12_beside_14 rfl) A_nil)) dX12_beside_15 (by decide) ⟨by decide, by decide⟩ rfl (by decide)) dX12_beside_18 rfl)) (C_icmp_eq_n (E_iload_n dX12_beside_21 rfl) (E_iload_n dX12_beside_22 rfl) dX12_beside_23 rfl)) (E_thru (E_iald (E_getf fl_X12_112 (E_aload_n dX12_beside_26 rfl) dX12_beside_27) (E_iadd (E_iadd (E_bipush dX12_beside_30 (by decide)) (E_imul (E_bipush dX12_beside_32 (by decide)) (E_iload_n dX12_beside_34 rfl) dX12_beside_35) dX12_beside_36) (E_iload_n dX12_beside_37 rfl) dX12_beside_38) dX12_beside_39) dX12_beside_40 rfl) (E_iconst dX12_beside_43 (by decide))) dX12_beside_44))
theorem mX12_beside : MO yX12_beside cX12_beside 3 (some .int) 3 fX12_beside := MO_of (by decide) (fun Γ => sX12_beside Γ)
noncomputable def kX12_bits_0c : Cn := (cmpC 2 (locE 0 2) (numE 12))
noncomputable def kX12_bits_0b : Sx := (stS 1 0 (binE (fun x y => w32 (x + y)) (locE 0 1) (binE o_iand (binE o_ishr (locE 0 0) (locE 0 2)) (numE 1))))
noncomputable def kX12_bits_0u : Sx := (incS 2 1)
noncomputable def kX12_bits_0 : Sx := loopS 2 3 kX12_bits_0c kX12_bits_0b kX12_bits_0u
noncomputable def bX12_bits : Sx := (seqS (stS 1 0 (numE 0)) (seqS (seqS (stS 2 0 (numE 0)) kX12_bits_0) (retS (locE 0 1))))
noncomputable def fX12_bits : Fn := runB 3 bX12_bits
theorem sX12_bits (Γ : Cx) : SO (cX12_bits, yX12_bits.cls, 1, 3, (some .int)) Γ 0 0 [] bX12_bits :=
  (S_seq (p1 := 2) (S_istore_n (E_iconst dX12_bits_0 (by decide)) dX12_bits_1 rfl)
  (S_seq (p1 := 24) (S_seq (p1 := 4) (S_istore_n (E_iconst dX12_bits_2 (by decide)) dX12_bits_3 rfl) (S_loop (p1 := 10) (p2 := 24) (p3 := 18) (kb := 2) (kc := 3) (by decide) (by decide) (by decide) (C_icmp_ge_n (E_iload_n dX12_bits_4 rfl) (E_bipush dX12_bits_5 (by decide)) dX12_bits_7 rfl)
  (S_istore_n (E_iadd (E_iload_n dX12_bits_10 rfl) (E_iand (E_ishr (E_iload_n dX12_bits_11 rfl) (E_iload_n dX12_bits_12 rfl) dX12_bits_13) (E_iconst dX12_bits_14 (by decide)) dX12_bits_15) dX12_bits_16) dX12_bits_17 rfl)
  (S_thru (S_iinc dX12_bits_18) dX12_bits_21 rfl)))
  (S_reti rfl (E_iload_n dX12_bits_24 rfl) dX12_bits_25)))
theorem mX12_bits : MO yX12_bits cX12_bits 3 (some .int) 1 fX12_bits := MO_of (by decide) (fun Γ => sX12_bits Γ)
noncomputable def bX12_canSearch : Sx := (retZ (boolE (andC (andC (zC 1 (cvE 12 fX12_isBeast [(2, (locE 2 0)), (0, (locE 0 1))])) (zC 1 (cvE 12 fX12_isAway [(2, (locE 2 0)), (0, (locE 0 1))]))) (zC 4 (cvE 12 fX12_allStray [(2, (locE 2 0)), (0, (locE 0 1))])))))
noncomputable def fX12_canSearch : Fn := runB 2 bX12_canSearch
theorem sX12_canSearch (Γ : Cx) : SO (cX12_canSearch, yX12_canSearch.cls, 6, 2, (some .boolean)) Γ 0 0 [] bX12_canSearch :=
  (S_retz rfl (E_bool (p1 := 24) (p2 := 28) (C_and (p1 := 16) (C_and (p1 := 8) (C_if_eq_n (E_callV mX12_isBeast cv_X12_316 (A_cons2 (E_aload_n dX12_canSearch_0 rfl) (A_cons0 (E_iload_n dX12_canSearch_1 rfl) A_nil)) dX12_canSearch_2 (by decide) ⟨by decide, by decide⟩ rfl (by decide)) dX12_canSearch_5 rfl) (C_if_eq_n (E_callV mX12_isAway cv_X12_310 (A_cons2 (E_aload_n dX12_canSearch_8 rfl) (A_cons0 (E_iload_n dX12_canSearch_9 rfl) A_nil)) dX12_canSearch_10 (by decide) ⟨by decide, by decide⟩ rfl (by decide)) dX12_canSearch_13 rfl)) (C_if_le_n (E_callV mX12_allStray cv_X12_368 (A_cons2 (E_aload_n dX12_canSearch_16 rfl) (A_cons0 (E_iload_n dX12_canSearch_17 rfl) A_nil)) dX12_canSearch_18 (by decide) ⟨by decide, by decide⟩ rfl (by decide)) dX12_canSearch_21 rfl)) dX12_canSearch_24 dX12_canSearch_25 dX12_canSearch_28 rfl) dX12_canSearch_29)
theorem mX12_canSearch : MO yX12_canSearch cX12_canSearch 2 (some .boolean) 6 fX12_canSearch := MO_of (by decide) (fun Γ => sX12_canSearch Γ)
noncomputable def bX12_clear : Sx := (seqS (putS 12 0 0 .int (locE 2 0) (numE 0)) (seqS (astS 100 (getE 12 23 2 (locE 2 0)) (numE 182) (numE 0)) (retZ (numE 1))))
noncomputable def fX12_clear : Fn := runB 1 bX12_clear
theorem sX12_clear (Γ : Cx) : SO (cX12_clear, yX12_clear.cls, 1, 1, (some .boolean)) Γ 0 0 [] bX12_clear :=
  (S_seq (p1 := 5) (S_putf fp_X12_1 (E_aload_n dX12_clear_0 rfl) (E_iconst dX12_clear_1 (by decide)) dX12_clear_2)
  (S_seq (p1 := 14) (S_iast (E_getf fl_X12_112 (E_aload_n dX12_clear_5 rfl) dX12_clear_6) (E_sipush dX12_clear_9 (by decide)) (E_iconst dX12_clear_12 (by decide)) dX12_clear_13)
  (S_retz rfl (E_iconst dX12_clear_14 (by decide)) dX12_clear_15)))
theorem mX12_clear : MO yX12_clear cX12_clear 1 (some .boolean) 1 fX12_clear := MO_of (by decide) (fun Γ => sX12_clear Γ)
noncomputable def kX12_common_0c : Cn := (zC 1 (locE 0 3))
noncomputable def kX12_common_0b : Sx := (seqS (stS 4 0 (divE (fun x y => w32 (Int.tmod x y)) (locE 0 2) (locE 0 3))) (seqS (stS 2 0 (locE 0 3)) (stS 3 0 (locE 0 4))))
noncomputable def kX12_common_0u : Sx := skipS
noncomputable def kX12_common_0 : Sx := loopS 2 3 kX12_common_0c kX12_common_0b kX12_common_0u
noncomputable def bX12_common : Sx := (seqS (stS 2 0 (locE 0 0)) (seqS (stS 3 0 (locE 0 1)) (seqS kX12_common_0 (retS (locE 0 2)))))
noncomputable def fX12_common : Fn := runB 5 bX12_common
theorem sX12_common (Γ : Cx) : SO (cX12_common, yX12_common.cls, 1, 5, (some .int)) Γ 0 0 [] bX12_common :=
  (S_seq (p1 := 2) (S_istore_n (E_iload_n dX12_common_0 rfl) dX12_common_1 rfl)
  (S_seq (p1 := 4) (S_istore_n (E_iload_n dX12_common_2 rfl) dX12_common_3 rfl)
  (S_seq (p1 := 21) (S_loop (p1 := 8) (p2 := 21) (p3 := 4) (kb := 2) (kc := 3) (by decide) (by decide) (by decide) (C_if_eq_n (E_iload_n dX12_common_4 rfl) dX12_common_5 rfl)
  (S_thru (S_seq (p1 := 13) (S_istore (E_irem (E_iload_n dX12_common_8 rfl) (E_iload_n dX12_common_9 rfl) dX12_common_10) dX12_common_11)
  (S_seq (p1 := 15) (S_istore_n (E_iload_n dX12_common_13 rfl) dX12_common_14 rfl)
  (S_istore_n (E_iload dX12_common_15) dX12_common_17 rfl))) dX12_common_18 rfl)
  S_skip)
  (S_reti rfl (E_iload_n dX12_common_21 rfl) dX12_common_22))))
theorem mX12_common : MO yX12_common cX12_common 5 (some .int) 1 fX12_common := MO_of (by decide) (fun Γ => sX12_common Γ)
noncomputable def bX12_fogs : Sx := (retS (aldE 100 (getE 12 23 2 (locE 2 0)) (numE 182)))
noncomputable def fX12_fogs : Fn := runB 1 bX12_fogs
theorem sX12_fogs (Γ : Cx) : SO (cX12_fogs, yX12_fogs.cls, 1, 1, (some .int)) Γ 0 0 [] bX12_fogs :=
  (S_reti rfl (E_iald (E_getf fl_X12_112 (E_aload_n dX12_fogs_0 rfl) dX12_fogs_1) (E_sipush dX12_fogs_4 (by decide)) dX12_fogs_7) dX12_fogs_8)
theorem mX12_fogs : MO yX12_fogs cX12_fogs 1 (some .int) 1 fX12_fogs := MO_of (by decide) (fun Γ => sX12_fogs Γ)
noncomputable def bX12_places : Sx := (retS (aldE 100 (getE 12 10 2 (locE 2 0)) (numE 0)))
noncomputable def fX12_places : Fn := runB 1 bX12_places
theorem sX12_places (Γ : Cx) : SO (cX12_places, yX12_places.cls, 1, 1, (some .int)) Γ 0 0 [] bX12_places :=
  (S_reti rfl (E_iald (E_getf fl_X12_85 (E_aload_n dX12_places_0 rfl) dX12_places_1) (E_iconst dX12_places_4 (by decide)) dX12_places_5) dX12_places_6)
theorem mX12_places : MO yX12_places cX12_places 1 (some .int) 1 fX12_places := MO_of (by decide) (fun Γ => sX12_places Γ)
def wX12_count_8_sel : Int → Nat := fun v => if v = 0 then 0 else if v = 1 then 1 else if v = 2 then 2 else if v = 3 then 3 else if v = 4 then 4 else if v = 5 then 5 else if v = 6 then 6 else if v = 7 then 7 else if v = 8 then 8 else 9
def wX12_count_8_pcs : Nat → Nat := fun i => match i with
  | 0 => 60
  | 1 => 65
  | 2 => 70
  | 3 => 129
  | 4 => 134
  | 5 => 141
  | 6 => 151
  | 7 => 156
  | 8 => 161
  | _ => 166
theorem wX12_count_8 (Γ : Cx) : SW (cX12_count, yX12_count.cls, 2, 5, (some .int)) Γ 8 wX12_count_8_pcs wX12_count_8_sel := by
  intro G env μ v k
  by_cases h0 : v = 0
  · subst h0; exact r_tsw G dX12_count_8 (Or.inr ⟨⟨by decide, by decide⟩, _, rfl, rfl⟩) k
  by_cases h1 : v = 1
  · subst h1; exact r_tsw G dX12_count_8 (Or.inr ⟨⟨by decide, by decide⟩, _, rfl, rfl⟩) k
  by_cases h2 : v = 2
  · subst h2; exact r_tsw G dX12_count_8 (Or.inr ⟨⟨by decide, by decide⟩, _, rfl, rfl⟩) k
  by_cases h3 : v = 3
  · subst h3; exact r_tsw G dX12_count_8 (Or.inr ⟨⟨by decide, by decide⟩, _, rfl, rfl⟩) k
  by_cases h4 : v = 4
  · subst h4; exact r_tsw G dX12_count_8 (Or.inr ⟨⟨by decide, by decide⟩, _, rfl, rfl⟩) k
  by_cases h5 : v = 5
  · subst h5; exact r_tsw G dX12_count_8 (Or.inr ⟨⟨by decide, by decide⟩, _, rfl, rfl⟩) k
  by_cases h6 : v = 6
  · subst h6; exact r_tsw G dX12_count_8 (Or.inr ⟨⟨by decide, by decide⟩, _, rfl, rfl⟩) k
  by_cases h7 : v = 7
  · subst h7; exact r_tsw G dX12_count_8 (Or.inr ⟨⟨by decide, by decide⟩, _, rfl, rfl⟩) k
  by_cases h8 : v = 8
  · subst h8; exact r_tsw G dX12_count_8 (Or.inr ⟨⟨by decide, by decide⟩, _, rfl, rfl⟩) k
  have hsel : wX12_count_8_sel v = 9 := by simp [wX12_count_8_sel, h0, h1, h2, h3, h4, h5, h6, h7, h8]
  rw [hsel] at k
  exact r_tsw G dX12_count_8 (Or.inl ⟨by omega, rfl⟩) k
noncomputable def kX12_count_2c : Cn := (cmpC 2 (locE 0 4) (locE 0 3))
noncomputable def kX12_count_2b : Sx := (stS 2 0 (binE (fun x y => w32 (x + y)) (locE 0 2) (condE (zC 4 (aldE 100 (getE 12 10 2 (locE 2 0)) (binE (fun x y => w32 (x + y)) (binE (fun x y => w32 (x + y)) (numE 27) (binE (fun x y => w32 (x * y)) (numE 12) (locE 0 3))) (locE 0 4)))) (numE 1) (numE 0))))
noncomputable def kX12_count_2u : Sx := (incS 4 1)
noncomputable def kX12_count_2 : Sx := loopS 6 7 kX12_count_2c kX12_count_2b kX12_count_2u
noncomputable def kX12_count_1c : Cn := (cmpC 2 (locE 0 3) (cvE 12 fX12_beasts [(2, (locE 2 0))]))
noncomputable def kX12_count_1b : Sx := (seqS (stS 4 0 (numE 0)) kX12_count_2)
noncomputable def kX12_count_1u : Sx := (incS 3 1)
noncomputable def kX12_count_1 : Sx := loopS 4 5 kX12_count_1c kX12_count_1b kX12_count_1u
noncomputable def bX12_count : Sx := (seqS (putS 12 0 0 .int (locE 2 0) (numE 0)) (seqS (stS 2 0 (numE 0)) (swS 2 (locE 0 1) wX12_count_8_sel (fun i => match i with | 0 => (retS (cvE 12 fX12_beasts [(2, (locE 2 0))])) | 1 => (retS (cvE 12 fX12_places [(2, (locE 2 0))])) | 2 => (seqS (seqS (stS 3 0 (numE 0)) kX12_count_1) (retS (locE 0 2))) | 3 => (retS (cvE 12 fX12_meadows [(2, (locE 2 0))])) | 4 => (retS (aldE 100 (getE 12 23 2 (locE 2 0)) (numE 1))) | 5 => (retS (csE fX12_bits [(0, (aldE 100 (getE 12 23 2 (locE 2 0)) (numE 0)))])) | 6 => (retS (cvE 12 fX12_fogs [(2, (locE 2 0))])) | 7 => (retS (getE 12 24 0 (locE 2 0))) | 8 => (retS (getE 12 2 0 (locE 2 0))) | _ => (retS (numE (-1)))))))
noncomputable def fX12_count : Fn := runB 5 bX12_count
theorem sX12_count (Γ : Cx) : SO (cX12_count, yX12_count.cls, 2, 5, (some .int)) Γ 0 0 [] bX12_count :=
  (S_seq (p1 := 5) (S_putf fp_X12_1 (E_aload_n dX12_count_0 rfl) (E_iconst dX12_count_1 (by decide)) dX12_count_2)
  (S_seq (p1 := 7) (S_istore_n (E_iconst dX12_count_5 (by decide)) dX12_count_6 rfl)
  (S_switch (kb := 2) (by decide) (E_iload_n dX12_count_7 rfl) (wX12_count_8 Γ) (fun i => match i with
   | 0 => (S_reti rfl (E_callV mX12_beasts cv_X12_277 (A_cons2 (E_aload_n dX12_count_60 rfl) A_nil) dX12_count_61 (by decide) ⟨by decide, by decide⟩ rfl (by decide)) dX12_count_64)
   | 1 => (S_reti rfl (E_callV mX12_places cv_X12_280 (A_cons2 (E_aload_n dX12_count_65 rfl) A_nil) dX12_count_66 (by decide) ⟨by decide, by decide⟩ rfl (by decide)) dX12_count_69)
   | 2 => (S_seq (p1 := 127) (S_seq (p1 := 72) (S_istore_n (E_iconst dX12_count_70 (by decide)) dX12_count_71 rfl) (S_loop (p1 := 80) (p2 := 127) (p3 := 121) (kb := 4) (kc := 5) (by decide) (by decide) (by decide) (C_icmp_ge_n (E_iload_n dX12_count_72 rfl) (E_callV mX12_beasts cv_X12_277 (A_cons2 (E_aload_n dX12_count_73 rfl) A_nil) dX12_count_74 (by decide) ⟨by decide, by decide⟩ rfl (by decide)) dX12_count_77 rfl)
  (S_seq (p1 := 83) (S_istore (E_iconst dX12_count_80 (by decide)) dX12_count_81) (S_loop (p1 := 89) (p2 := 121) (p3 := 115) (kb := 6) (kc := 7) (by decide) (by decide) (by decide) (C_icmp_ge_n (E_iload dX12_count_83) (E_iload_n dX12_count_85 rfl) dX12_count_86 rfl)
  (S_istore_n (E_iadd (E_iload_n dX12_count_89 rfl) (E_cond (p1 := 108) (p2 := 112) (p3 := 113) (C_if_le_n (E_iald (E_getf fl_X12_85 (E_aload_n dX12_count_90 rfl) dX12_count_91) (E_iadd (E_iadd (E_bipush dX12_count_94 (by decide)) (E_imul (E_bipush dX12_count_96 (by decide)) (E_iload_n dX12_count_98 rfl) dX12_count_99) dX12_count_100) (E_iload dX12_count_101) dX12_count_103) dX12_count_104) dX12_count_105 rfl) (E_thru (E_iconst dX12_count_108 (by decide)) dX12_count_109 rfl) (E_iconst dX12_count_112 (by decide))) dX12_count_113) dX12_count_114 rfl)
  (S_thru (S_iinc dX12_count_115) dX12_count_118 rfl)))
  (S_thru (S_iinc dX12_count_121) dX12_count_124 rfl)))
  (S_reti rfl (E_iload_n dX12_count_127 rfl) dX12_count_128))
   | 3 => (S_reti rfl (E_callV mX12_meadows cv_X12_362 (A_cons2 (E_aload_n dX12_count_129 rfl) A_nil) dX12_count_130 (by decide) ⟨by decide, by decide⟩ rfl (by decide)) dX12_count_133)
   | 4 => (S_reti rfl (E_iald (E_getf fl_X12_112 (E_aload_n dX12_count_134 rfl) dX12_count_135) (E_iconst dX12_count_138 (by decide)) dX12_count_139) dX12_count_140)
   | 5 => (S_reti rfl (E_callS mX12_bits cs_X12_387 (A_cons0 (E_iald (E_getf fl_X12_112 (E_aload_n dX12_count_141 rfl) dX12_count_142) (E_iconst dX12_count_145 (by decide)) dX12_count_146) A_nil) dX12_count_147 (by decide) ⟨by decide, by decide⟩ rfl (by decide)) dX12_count_150)
   | 6 => (S_reti rfl (E_callV mX12_fogs cv_X12_329 (A_cons2 (E_aload_n dX12_count_151 rfl) A_nil) dX12_count_152 (by decide) ⟨by decide, by decide⟩ rfl (by decide)) dX12_count_155)
   | 7 => (S_reti rfl (E_getf fl_X12_271 (E_aload_n dX12_count_156 rfl) dX12_count_157) dX12_count_160)
   | 8 => (S_reti rfl (E_getf fl_X12_11 (E_aload_n dX12_count_161 rfl) dX12_count_162) dX12_count_165)
   | _+9 => (S_reti rfl (E_iconst dX12_count_166 (by decide)) dX12_count_167)))))
theorem mX12_count : MO yX12_count cX12_count 5 (some .int) 2 fX12_count := MO_of (by decide) (fun Γ => sX12_count Γ)
noncomputable def bX12_isDigit : Sx := (retZ (boolE (andC (cmpC 3 (locE 0 0) (numE 48)) (cmpC 5 (locE 0 0) (numE 57)))))
noncomputable def fX12_isDigit : Fn := runB 1 bX12_isDigit
theorem sX12_isDigit (Γ : Cx) : SO (cX12_isDigit, yX12_isDigit.cls, 1, 1, (some .boolean)) Γ 0 0 [] bX12_isDigit :=
  (S_retz rfl (E_bool (p1 := 12) (p2 := 16) (C_and (p1 := 6) (C_icmp_lt_n (E_iload_n dX12_isDigit_0 rfl) (E_bipush dX12_isDigit_1 (by decide)) dX12_isDigit_3 rfl) (C_icmp_gt_n (E_iload_n dX12_isDigit_6 rfl) (E_bipush dX12_isDigit_7 (by decide)) dX12_isDigit_9 rfl)) dX12_isDigit_12 dX12_isDigit_13 dX12_isDigit_16 rfl) dX12_isDigit_17)
theorem mX12_isDigit : MO yX12_isDigit cX12_isDigit 1 (some .boolean) 1 fX12_isDigit := MO_of (by decide) (fun Γ => sX12_isDigit Γ)
noncomputable def bX12_isLetter : Sx := (retZ (boolE (andC (cmpC 3 (locE 0 0) (numE 97)) (cmpC 5 (locE 0 0) (numE 122)))))
noncomputable def fX12_isLetter : Fn := runB 1 bX12_isLetter
theorem sX12_isLetter (Γ : Cx) : SO (cX12_isLetter, yX12_isLetter.cls, 1, 1, (some .boolean)) Γ 0 0 [] bX12_isLetter :=
  (S_retz rfl (E_bool (p1 := 12) (p2 := 16) (C_and (p1 := 6) (C_icmp_lt_n (E_iload_n dX12_isLetter_0 rfl) (E_bipush dX12_isLetter_1 (by decide)) dX12_isLetter_3 rfl) (C_icmp_gt_n (E_iload_n dX12_isLetter_6 rfl) (E_bipush dX12_isLetter_7 (by decide)) dX12_isLetter_9 rfl)) dX12_isLetter_12 dX12_isLetter_13 dX12_isLetter_16 rfl) dX12_isLetter_17)
theorem mX12_isLetter : MO yX12_isLetter cX12_isLetter 1 (some .boolean) 1 fX12_isLetter := MO_of (by decide) (fun Γ => sX12_isLetter Γ)
noncomputable def bX12_isSignOf : Sx := (retZ (boolE (orC (orC (orC (orC (orC (orC (orC (cmpC 0 (locE 0 0) (numE 40)) (cmpC 0 (locE 0 0) (numE 41))) (cmpC 0 (locE 0 0) (numE 59))) (cmpC 0 (locE 0 0) (numE 61))) (cmpC 0 (locE 0 0) (numE 60))) (cmpC 0 (locE 0 0) (numE 43))) (cmpC 0 (locE 0 0) (numE 45))) (cmpC 0 (locE 0 0) (numE 42)))))
noncomputable def fX12_isSignOf : Fn := runB 1 bX12_isSignOf
theorem sX12_isSignOf (Γ : Cx) : SO (cX12_isSignOf, yX12_isSignOf.cls, 1, 1, (some .boolean)) Γ 0 0 [] bX12_isSignOf :=
  (S_retz rfl (E_bool (p1 := 48) (p2 := 52) (C_or (p1 := 42) (C_or (p1 := 36) (C_or (p1 := 30) (C_or (p1 := 24) (C_or (p1 := 18) (C_or (p1 := 12) (C_or (p1 := 6) (C_icmp_eq (E_iload_n dX12_isSignOf_0 rfl) (E_bipush dX12_isSignOf_1 (by decide)) dX12_isSignOf_3 rfl) (C_icmp_eq (E_iload_n dX12_isSignOf_6 rfl) (E_bipush dX12_isSignOf_7 (by decide)) dX12_isSignOf_9 rfl)) (C_icmp_eq (E_iload_n dX12_isSignOf_12 rfl) (E_bipush dX12_isSignOf_13 (by decide)) dX12_isSignOf_15 rfl)) (C_icmp_eq (E_iload_n dX12_isSignOf_18 rfl) (E_bipush dX12_isSignOf_19 (by decide)) dX12_isSignOf_21 rfl)) (C_icmp_eq (E_iload_n dX12_isSignOf_24 rfl) (E_bipush dX12_isSignOf_25 (by decide)) dX12_isSignOf_27 rfl)) (C_icmp_eq (E_iload_n dX12_isSignOf_30 rfl) (E_bipush dX12_isSignOf_31 (by decide)) dX12_isSignOf_33 rfl)) (C_icmp_eq (E_iload_n dX12_isSignOf_36 rfl) (E_bipush dX12_isSignOf_37 (by decide)) dX12_isSignOf_39 rfl)) (C_icmp_ne_n (E_iload_n dX12_isSignOf_42 rfl) (E_bipush dX12_isSignOf_43 (by decide)) dX12_isSignOf_45 rfl)) dX12_isSignOf_48 dX12_isSignOf_49 dX12_isSignOf_52 rfl) dX12_isSignOf_53)
theorem mX12_isSignOf : MO yX12_isSignOf cX12_isSignOf 1 (some .boolean) 1 fX12_isSignOf := MO_of (by decide) (fun Γ => sX12_isSignOf Γ)
noncomputable def bX12_rank : Sx := (retS (condE (zC 1 (csE fX12_isLetter [(0, (locE 0 0))])) (binE (fun x y => w32 (x - y)) (locE 0 0) (numE 96)) (binE (fun x y => w32 (x - y)) (locE 0 0) (numE 21))))
noncomputable def fX12_rank : Fn := runB 1 bX12_rank
theorem sX12_rank (Γ : Cx) : SO (cX12_rank, yX12_rank.cls, 2, 1, (some .int)) Γ 0 0 [] bX12_rank :=
  (S_reti rfl (E_cond (p1 := 7) (p2 := 14) (p3 := 18) (C_if_eq_n (E_callS mX12_isLetter cs_X12_139 (A_cons0 (E_iload_n dX12_rank_0 rfl) A_nil) dX12_rank_1 (by decide) ⟨by decide, by decide⟩ rfl (by decide)) dX12_rank_4 rfl) (E_thru (E_isub (E_iload_n dX12_rank_7 rfl) (E_bipush dX12_rank_8 (by decide)) dX12_rank_10) dX12_rank_11 rfl) (E_isub (E_iload_n dX12_rank_14 rfl) (E_bipush dX12_rank_15 (by decide)) dX12_rank_17)) dX12_rank_18)
theorem mX12_rank : MO yX12_rank cX12_rank 1 (some .int) 2 fX12_rank := MO_of (by decide) (fun Γ => sX12_rank Γ)
noncomputable def kX12_cutAll_1c : Cn := (andC (cmpC 2 (locE 0 2) (getE 12 3 0 (locE 2 0))) (zC 1 (csE fX12_isLetter [(0, (aldE 100 (getE 12 1 2 (locE 2 0)) (locE 0 2)))])))
noncomputable def kX12_cutAll_1b : Sx := (seqS (stS 5 1 (condE (cmpC 2 (binE (fun x y => w32 (x - y)) (locE 0 2) (locE 0 4)) (numE 8)) (binE (fun x y => w64 (x + y)) (binE (fun x y => w64 (x * y)) (numE 37) (locE 1 5)) (unE (fun x => x) (csE fX12_rank [(0, (aldE 100 (getE 12 1 2 (locE 2 0)) (locE 0 2)))]))) (locE 1 5))) (incS 2 1))
noncomputable def kX12_cutAll_1u : Sx := skipS
noncomputable def kX12_cutAll_1 : Sx := loopS 4 5 kX12_cutAll_1c kX12_cutAll_1b kX12_cutAll_1u
noncomputable def kX12_cutAll_2c : Cn := (andC (cmpC 2 (locE 0 2) (getE 12 3 0 (locE 2 0))) (zC 1 (csE fX12_isDigit [(0, (aldE 100 (getE 12 1 2 (locE 2 0)) (locE 0 2)))])))
noncomputable def kX12_cutAll_2b : Sx := (seqS (stS 5 1 (condE (cmpC 2 (binE (fun x y => w32 (x - y)) (locE 0 2) (locE 0 4)) (numE 4)) (binE (fun x y => w64 (x - y)) (binE (fun x y => w64 (x + y)) (binE (fun x y => w64 (x * y)) (numE 10) (locE 1 5)) (unE (fun x => x) (aldE 100 (getE 12 1 2 (locE 2 0)) (locE 0 2)))) (numE 48)) (locE 1 5))) (incS 2 1))
noncomputable def kX12_cutAll_2u : Sx := skipS
noncomputable def kX12_cutAll_2 : Sx := loopS 6 7 kX12_cutAll_2c kX12_cutAll_2b kX12_cutAll_2u
noncomputable def kX12_cutAll_0c : Cn := (cmpC 2 (locE 0 2) (getE 12 3 0 (locE 2 0)))
noncomputable def kX12_cutAll_0b : Sx := (seqS (stS 3 0 (aldE 100 (getE 12 1 2 (locE 2 0)) (locE 0 2))) (seqS (ifS (orC (cmpC 0 (locE 0 3) (numE 10)) (cmpC 0 (locE 0 3) (numE 32))) (seqS (incS 2 1) (brkS 3)) skipS) (seqS (stS 4 0 (locE 0 2)) (seqS (stS 5 1 (numE 0)) (seqS (astS 100 (getE 12 5 2 (locE 2 0)) (locE 0 1) (locE 0 2)) (seqS (ifS (zC 1 (csE fX12_isLetter [(0, (locE 0 3))])) (seqS kX12_cutAll_1 (astS 100 (getE 12 4 2 (locE 2 0)) (locE 0 1) (condE (cmpC 4 (binE (fun x y => w32 (x - y)) (locE 0 2) (locE 0 4)) (numE 8)) (numE 4) (numE 1)))) (ifS (zC 1 (csE fX12_isDigit [(0, (locE 0 3))])) (seqS kX12_cutAll_2 (astS 100 (getE 12 4 2 (locE 2 0)) (locE 0 1) (condE (cmpC 4 (binE (fun x y => w32 (x - y)) (locE 0 2) (locE 0 4)) (numE 4)) (numE 4) (numE 2)))) (seqS (stS 5 1 (unE (fun x => x) (locE 0 3))) (seqS (astS 100 (getE 12 4 2 (locE 2 0)) (locE 0 1) (condE (zC 1 (csE fX12_isSignOf [(0, (locE 0 3))])) (numE 3) (numE 4))) (incS 2 1))))) (seqS (astS 101 (getE 12 6 2 (locE 2 0)) (locE 0 1) (locE 1 5)) (incS 1 1))))))))
noncomputable def kX12_cutAll_0u : Sx := skipS
noncomputable def kX12_cutAll_0 : Sx := loopS 2 3 kX12_cutAll_0c kX12_cutAll_0b kX12_cutAll_0u
noncomputable def bX12_cutAll : Sx := (seqS (seqS (putS 12 3 0 .int (locE 2 0) (getE 12 2 0 (locE 2 0))) (seqS (putS 12 2 0 .int (locE 2 0) (numE 0)) (seqS (stS 1 0 (numE 0)) (seqS (stS 2 0 (numE 0)) (seqS kX12_cutAll_0 (seqS (astS 100 (getE 12 4 2 (locE 2 0)) (locE 0 1) (numE 0)) (seqS (astS 100 (getE 12 5 2 (locE 2 0)) (locE 0 1) (getE 12 3 0 (locE 2 0))) (seqS (putS 12 7 0 .int (locE 2 0) (numE 0)) (putS 12 8 0 .int (locE 2 0) (numE 0)))))))))) retV)
noncomputable def fX12_cutAll : Fn := runB 7 bX12_cutAll
theorem sX12_cutAll (Γ : Cx) : SO (cX12_cutAll, yX12_cutAll.cls, 3, 7, none) Γ 0 0 [] bX12_cutAll :=
  (S_seq (p1 := 306) (S_seq (p1 := 8) (S_putf fp_X12_143 (E_aload_n dX12_cutAll_0 rfl) (E_getf fl_X12_11 (E_aload_n dX12_cutAll_1 rfl) dX12_cutAll_2) dX12_cutAll_5)
  (S_seq (p1 := 13) (S_putf fp_X12_11 (E_aload_n dX12_cutAll_8 rfl) (E_iconst dX12_cutAll_9 (by decide)) dX12_cutAll_10)
  (S_seq (p1 := 15) (S_istore_n (E_iconst dX12_cutAll_13 (by decide)) dX12_cutAll_14 rfl)
  (S_seq (p1 := 17) (S_istore_n (E_iconst dX12_cutAll_15 (by decide)) dX12_cutAll_16 rfl)
  (S_seq (p1 := 279) (S_loop (p1 := 25) (p2 := 279) (p3 := 17) (kb := 2) (kc := 3) (by decide) (by decide) (by decide) (C_icmp_ge_n (E_iload_n dX12_cutAll_17 rfl) (E_getf fl_X12_143 (E_aload_n dX12_cutAll_18 rfl) dX12_cutAll_19) dX12_cutAll_22 rfl)
  (S_thru (S_seq (p1 := 32) (S_istore_n (E_iald (E_getf fl_X12_14 (E_aload_n dX12_cutAll_25 rfl) dX12_cutAll_26) (E_iload_n dX12_cutAll_29 rfl) dX12_cutAll_30) dX12_cutAll_31 rfl)
  (S_seq (p1 := 50) (S_if (p1 := 44) (p2 := 50) (q := 50) (C_or (p1 := 38) (C_icmp_eq (E_iload_n dX12_cutAll_32 rfl) (E_bipush dX12_cutAll_33 (by decide)) dX12_cutAll_35 rfl) (C_icmp_ne_n (E_iload_n dX12_cutAll_38 rfl) (E_bipush dX12_cutAll_39 (by decide)) dX12_cutAll_41 rfl)) (S_seq (p1 := 47) (S_iinc dX12_cutAll_44)
  (S_brk dX12_cutAll_47 rfl (by decide) rfl)) S_skip)
  (S_seq (p1 := 53) (S_istore (E_iload_n dX12_cutAll_50 rfl) dX12_cutAll_51)
  (S_seq (p1 := 56) (S_lstore (E_lconst dX12_cutAll_53 rfl) dX12_cutAll_54)
  (S_seq (p1 := 63) (S_iast (E_getf fl_X12_27 (E_aload_n dX12_cutAll_56 rfl) dX12_cutAll_57) (E_iload_n dX12_cutAll_60 rfl) (E_iload_n dX12_cutAll_61 rfl) dX12_cutAll_62)
  (S_seq (p1 := 265) (S_if (p1 := 70) (p2 := 152) (q := 265) (C_if_eq_n (E_callS mX12_isLetter cs_X12_139 (A_cons0 (E_iload_n dX12_cutAll_63 rfl) A_nil) dX12_cutAll_64 (by decide) ⟨by decide, by decide⟩ rfl (by decide)) dX12_cutAll_67 rfl)
  (S_thru (S_seq (p1 := 129) (S_loop (p1 := 90) (p2 := 129) (p3 := 70) (kb := 4) (kc := 5) (by decide) (by decide) (by decide) (C_and (p1 := 78) (C_icmp_ge_n (E_iload_n dX12_cutAll_70 rfl) (E_getf fl_X12_143 (E_aload_n dX12_cutAll_71 rfl) dX12_cutAll_72) dX12_cutAll_75 rfl) (C_if_eq_n (E_callS mX12_isLetter cs_X12_139 (A_cons0 (E_iald (E_getf fl_X12_14 (E_aload_n dX12_cutAll_78 rfl) dX12_cutAll_79) (E_iload_n dX12_cutAll_82 rfl) dX12_cutAll_83) A_nil) dX12_cutAll_84 (by decide) ⟨by decide, by decide⟩ rfl (by decide)) dX12_cutAll_87 rfl))
  (S_thru (S_seq (p1 := 123) (S_lstore (E_cond (p1 := 99) (p2 := 119) (p3 := 121) (C_icmp_ge_n (E_isub (E_iload_n dX12_cutAll_90 rfl) (E_iload dX12_cutAll_91) dX12_cutAll_93) (E_bipush dX12_cutAll_94 (by decide)) dX12_cutAll_96 rfl) (E_thru (E_ladd (E_lmul (E_ldc2 dX12_cutAll_99 kl_X12_146 (by decide)) (E_lload dX12_cutAll_102) dX12_cutAll_104) (E_i2l (E_callS mX12_rank cs_X12_148 (A_cons0 (E_iald (E_getf fl_X12_14 (E_aload_n dX12_cutAll_105 rfl) dX12_cutAll_106) (E_iload_n dX12_cutAll_109 rfl) dX12_cutAll_110) A_nil) dX12_cutAll_111 (by decide) ⟨by decide, by decide⟩ rfl (by decide)) dX12_cutAll_114) dX12_cutAll_115) dX12_cutAll_116 rfl) (E_lload dX12_cutAll_119)) dX12_cutAll_121)
  (S_iinc dX12_cutAll_123)) dX12_cutAll_126 rfl)
  S_skip)
  (S_iast (E_getf fl_X12_24 (E_aload_n dX12_cutAll_129 rfl) dX12_cutAll_130) (E_iload_n dX12_cutAll_133 rfl) (E_cond (p1 := 143) (p2 := 147) (p3 := 148) (C_icmp_le_n (E_isub (E_iload_n dX12_cutAll_134 rfl) (E_iload dX12_cutAll_135) dX12_cutAll_137) (E_bipush dX12_cutAll_138 (by decide)) dX12_cutAll_140 rfl) (E_thru (E_iconst dX12_cutAll_143 (by decide)) dX12_cutAll_144 rfl) (E_iconst dX12_cutAll_147 (by decide))) dX12_cutAll_148)) dX12_cutAll_149 rfl)
  (S_if (p1 := 159) (p2 := 240) (q := 265) (C_if_eq_n (E_callS mX12_isDigit cs_X12_152 (A_cons0 (E_iload_n dX12_cutAll_152 rfl) A_nil) dX12_cutAll_153 (by decide) ⟨by decide, by decide⟩ rfl (by decide)) dX12_cutAll_156 rfl)
  (S_thru (S_seq (p1 := 218) (S_loop (p1 := 179) (p2 := 218) (p3 := 159) (kb := 6) (kc := 7) (by decide) (by decide) (by decide) (C_and (p1 := 167) (C_icmp_ge_n (E_iload_n dX12_cutAll_159 rfl) (E_getf fl_X12_143 (E_aload_n dX12_cutAll_160 rfl) dX12_cutAll_161) dX12_cutAll_164 rfl) (C_if_eq_n (E_callS mX12_isDigit cs_X12_152 (A_cons0 (E_iald (E_getf fl_X12_14 (E_aload_n dX12_cutAll_167 rfl) dX12_cutAll_168) (E_iload_n dX12_cutAll_171 rfl) dX12_cutAll_172) A_nil) dX12_cutAll_173 (by decide) ⟨by decide, by decide⟩ rfl (by decide)) dX12_cutAll_176 rfl))
  (S_thru (S_seq (p1 := 212) (S_lstore (E_cond (p1 := 187) (p2 := 208) (p3 := 210) (C_icmp_ge_n (E_isub (E_iload_n dX12_cutAll_179 rfl) (E_iload dX12_cutAll_180) dX12_cutAll_182) (E_iconst dX12_cutAll_183 (by decide)) dX12_cutAll_184 rfl) (E_thru (E_lsub (E_ladd (E_lmul (E_ldc2 dX12_cutAll_187 kl_X12_155 (by decide)) (E_lload dX12_cutAll_190) dX12_cutAll_192) (E_i2l (E_iald (E_getf fl_X12_14 (E_aload_n dX12_cutAll_193 rfl) dX12_cutAll_194) (E_iload_n dX12_cutAll_197 rfl) dX12_cutAll_198) dX12_cutAll_199) dX12_cutAll_200) (E_ldc2 dX12_cutAll_201 kl_X12_157 (by decide)) dX12_cutAll_204) dX12_cutAll_205 rfl) (E_lload dX12_cutAll_208)) dX12_cutAll_210)
  (S_iinc dX12_cutAll_212)) dX12_cutAll_215 rfl)
  S_skip)
  (S_iast (E_getf fl_X12_24 (E_aload_n dX12_cutAll_218 rfl) dX12_cutAll_219) (E_iload_n dX12_cutAll_222 rfl) (E_cond (p1 := 231) (p2 := 235) (p3 := 236) (C_icmp_le_n (E_isub (E_iload_n dX12_cutAll_223 rfl) (E_iload dX12_cutAll_224) dX12_cutAll_226) (E_iconst dX12_cutAll_227 (by decide)) dX12_cutAll_228 rfl) (E_thru (E_iconst dX12_cutAll_231 (by decide)) dX12_cutAll_232 rfl) (E_iconst dX12_cutAll_235 (by decide))) dX12_cutAll_236)) dX12_cutAll_237 rfl)
  (S_seq (p1 := 244) (S_lstore (E_i2l (E_iload_n dX12_cutAll_240 rfl) dX12_cutAll_241) dX12_cutAll_242)
  (S_seq (p1 := 262) (S_iast (E_getf fl_X12_24 (E_aload_n dX12_cutAll_244 rfl) dX12_cutAll_245) (E_iload_n dX12_cutAll_248 rfl) (E_cond (p1 := 256) (p2 := 260) (p3 := 261) (C_if_eq_n (E_callS mX12_isSignOf cs_X12_159 (A_cons0 (E_iload_n dX12_cutAll_249 rfl) A_nil) dX12_cutAll_250 (by decide) ⟨by decide, by decide⟩ rfl (by decide)) dX12_cutAll_253 rfl) (E_thru (E_iconst dX12_cutAll_256 (by decide)) dX12_cutAll_257 rfl) (E_iconst dX12_cutAll_260 (by decide))) dX12_cutAll_261)
  (S_iinc dX12_cutAll_262)))))
  (S_seq (p1 := 273) (S_last (E_getf fl_X12_30 (E_aload_n dX12_cutAll_265 rfl) dX12_cutAll_266) (E_iload_n dX12_cutAll_269 rfl) (E_lload dX12_cutAll_270) dX12_cutAll_272)
  (S_iinc dX12_cutAll_273)))))))) dX12_cutAll_276 rfl)
  S_skip)
  (S_seq (p1 := 286) (S_iast (E_getf fl_X12_24 (E_aload_n dX12_cutAll_279 rfl) dX12_cutAll_280) (E_iload_n dX12_cutAll_283 rfl) (E_iconst dX12_cutAll_284 (by decide)) dX12_cutAll_285)
  (S_seq (p1 := 296) (S_iast (E_getf fl_X12_27 (E_aload_n dX12_cutAll_286 rfl) dX12_cutAll_287) (E_iload_n dX12_cutAll_290 rfl) (E_getf fl_X12_143 (E_aload_n dX12_cutAll_291 rfl) dX12_cutAll_292) dX12_cutAll_295)
  (S_seq (p1 := 301) (S_putf fp_X12_162 (E_aload_n dX12_cutAll_296 rfl) (E_iconst dX12_cutAll_297 (by decide)) dX12_cutAll_298)
  (S_putf fp_X12_165 (E_aload_n dX12_cutAll_301 rfl) (E_iconst dX12_cutAll_302 (by decide)) dX12_cutAll_303))))))))) (S_retv rfl dX12_cutAll_306))
theorem mX12_cutAll : MO yX12_cutAll cX12_cutAll 7 none 3 fX12_cutAll := MO_of (by decide) (fun Γ => sX12_cutAll Γ)
noncomputable def bX12_isPlace : Sx := (retZ (boolE (andC (zC 3 (locE 0 1)) (cmpC 2 (locE 0 1) (cvE 12 fX12_places [(2, (locE 2 0))])))))
noncomputable def fX12_isPlace : Fn := runB 2 bX12_isPlace
theorem sX12_isPlace (Γ : Cx) : SO (cX12_isPlace, yX12_isPlace.cls, 2, 2, (some .boolean)) Γ 0 0 [] bX12_isPlace :=
  (S_retz rfl (E_bool (p1 := 12) (p2 := 16) (C_and (p1 := 4) (C_if_lt_n (E_iload_n dX12_isPlace_0 rfl) dX12_isPlace_1 rfl) (C_icmp_ge_n (E_iload_n dX12_isPlace_4 rfl) (E_callV mX12_places cv_X12_280 (A_cons2 (E_aload_n dX12_isPlace_5 rfl) A_nil) dX12_isPlace_6 (by decide) ⟨by decide, by decide⟩ rfl (by decide)) dX12_isPlace_9 rfl)) dX12_isPlace_12 dX12_isPlace_13 dX12_isPlace_16 rfl) dX12_isPlace_17)
theorem mX12_isPlace : MO yX12_isPlace cX12_isPlace 2 (some .boolean) 2 fX12_isPlace := MO_of (by decide) (fun Γ => sX12_isPlace Γ)
noncomputable def kX12_whoAt_0c : Cn := (cmpC 2 (locE 0 2) (cvE 12 fX12_beasts [(2, (locE 2 0))]))
noncomputable def kX12_whoAt_0b : Sx := (ifS (andC (zC 3 (locE 0 1)) (cmpC 0 (aldE 100 (getE 12 23 2 (locE 2 0)) (binE (fun x y => w32 (x + y)) (numE 2) (locE 0 2))) (locE 0 1))) (retS (locE 0 2)) skipS)
noncomputable def kX12_whoAt_0u : Sx := (incS 2 1)
noncomputable def kX12_whoAt_0 : Sx := loopS 2 3 kX12_whoAt_0c kX12_whoAt_0b kX12_whoAt_0u
noncomputable def bX12_whoAt : Sx := (seqS (seqS (stS 2 0 (numE 0)) kX12_whoAt_0) (retS (numE (-1))))
noncomputable def fX12_whoAt : Fn := runB 3 bX12_whoAt
theorem sX12_whoAt (Γ : Cx) : SO (cX12_whoAt, yX12_whoAt.cls, 2, 3, (some .int)) Γ 0 0 [] bX12_whoAt :=
  (S_seq (p1 := 34) (S_seq (p1 := 2) (S_istore_n (E_iconst dX12_whoAt_0 (by decide)) dX12_whoAt_1 rfl) (S_loop (p1 := 10) (p2 := 34) (p3 := 28) (kb := 2) (kc := 3) (by decide) (by decide) (by decide) (C_icmp_ge_n (E_iload_n dX12_whoAt_2 rfl) (E_callV mX12_beasts cv_X12_277 (A_cons2 (E_aload_n dX12_whoAt_3 rfl) A_nil) dX12_whoAt_4 (by decide) ⟨by decide, by decide⟩ rfl (by decide)) dX12_whoAt_7 rfl)
  (S_if (p1 := 26) (p2 := 28) (q := 28) (C_and (p1 := 14) (C_if_lt_n (E_iload_n dX12_whoAt_10 rfl) dX12_whoAt_11 rfl) (C_icmp_ne_n (E_iald (E_getf fl_X12_112 (E_aload_n dX12_whoAt_14 rfl) dX12_whoAt_15) (E_iadd (E_iconst dX12_whoAt_18 (by decide)) (E_iload_n dX12_whoAt_19 rfl) dX12_whoAt_20) dX12_whoAt_21) (E_iload_n dX12_whoAt_22 rfl) dX12_whoAt_23 rfl)) (S_reti rfl (E_iload_n dX12_whoAt_26 rfl) dX12_whoAt_27) S_skip)
  (S_thru (S_iinc dX12_whoAt_28) dX12_whoAt_31 rfl)))
  (S_reti rfl (E_iconst dX12_whoAt_34 (by decide)) dX12_whoAt_35))
theorem mX12_whoAt : MO yX12_whoAt cX12_whoAt 3 (some .int) 2 fX12_whoAt := MO_of (by decide) (fun Γ => sX12_whoAt Γ)
noncomputable def bX12_isFree : Sx := (retZ (boolE (andC (zC 1 (cvE 12 fX12_isPlace [(2, (locE 2 0)), (0, (locE 0 1))])) (zC 2 (cvE 12 fX12_whoAt [(2, (locE 2 0)), (0, (locE 0 1))])))))
noncomputable def fX12_isFree : Fn := runB 2 bX12_isFree
theorem sX12_isFree (Γ : Cx) : SO (cX12_isFree, yX12_isFree.cls, 3, 2, (some .boolean)) Γ 0 0 [] bX12_isFree :=
  (S_retz rfl (E_bool (p1 := 16) (p2 := 20) (C_and (p1 := 8) (C_if_eq_n (E_callV mX12_isPlace cv_X12_289 (A_cons2 (E_aload_n dX12_isFree_0 rfl) (A_cons0 (E_iload_n dX12_isFree_1 rfl) A_nil)) dX12_isFree_2 (by decide) ⟨by decide, by decide⟩ rfl (by decide)) dX12_isFree_5 rfl) (C_if_ge_n (E_callV mX12_whoAt cv_X12_292 (A_cons2 (E_aload_n dX12_isFree_8 rfl) (A_cons0 (E_iload_n dX12_isFree_9 rfl) A_nil)) dX12_isFree_10 (by decide) ⟨by decide, by decide⟩ rfl (by decide)) dX12_isFree_13 rfl)) dX12_isFree_16 dX12_isFree_17 dX12_isFree_20 rfl) dX12_isFree_21)
theorem mX12_isFree : MO yX12_isFree cX12_isFree 2 (some .boolean) 3 fX12_isFree := MO_of (by decide) (fun Γ => sX12_isFree Γ)
noncomputable def kX12_wants_0c : Cn := (cmpC 2 (locE 0 4) (cvE 12 fX12_beasts [(2, (locE 2 0))]))
noncomputable def kX12_wants_0b : Sx := (seqS (stS 5 0 (binE (fun x y => w32 (x - y)) (aldE 100 (getE 12 23 2 (locE 2 0)) (binE (fun x y => w32 (x + y)) (numE 2) (locE 0 4))) (locE 0 2))) (stS 3 0 (binE (fun x y => w32 (x + y)) (locE 0 3) (condE (andC (andC (cmpC 1 (locE 0 4) (locE 0 1)) (zC 3 (aldE 100 (getE 12 23 2 (locE 2 0)) (binE (fun x y => w32 (x + y)) (numE 2) (locE 0 4))))) (orC (cmpC 0 (locE 0 5) (numE 1)) (cmpC 0 (locE 0 5) (numE (-1))))) (cvE 12 fX12_likes [(2, (locE 2 0)), (0, (locE 0 1)), (0, (locE 0 4))]) (numE 0)))))
noncomputable def kX12_wants_0u : Sx := (incS 4 1)
noncomputable def kX12_wants_0 : Sx := loopS 2 3 kX12_wants_0c kX12_wants_0b kX12_wants_0u
noncomputable def bX12_wants : Sx := (seqS (stS 3 0 (numE 0)) (seqS (seqS (stS 4 0 (numE 0)) kX12_wants_0) (seqS (ifS (zC 2 (aldE 100 (getE 12 10 2 (locE 2 0)) (numE 183))) (retS (locE 0 3)) skipS) (seqS (astS 100 (getE 12 21 2 (locE 2 0)) (numE 0) (cvE 12 fX12_toneOf [(2, (locE 2 0)), (0, (locE 0 1))])) (seqS (astS 100 (getE 12 21 2 (locE 2 0)) (numE 1) (condE (cmpC 0 (cvE 12 fX12_kindOf [(2, (locE 2 0)), (0, (locE 0 1))]) (numE 4)) (numE 1) (numE 0))) (seqS (astS 100 (getE 12 21 2 (locE 2 0)) (numE 2) (condE (cmpC 0 (cvE 12 fX12_kindOf [(2, (locE 2 0)), (0, (locE 0 1))]) (numE 3)) (numE 1) (numE 0))) (seqS (astS 100 (getE 12 21 2 (locE 2 0)) (numE 3) (locE 0 3)) (seqS (astS 100 (getE 12 21 2 (locE 2 0)) (numE 4) (locE 0 2)) (seqS (astS 100 (getE 12 21 2 (locE 2 0)) (numE 5) (binE (fun x y => w32 (x + y)) (condE (zC 1 (cvE 12 fX12_isFree [(2, (locE 2 0)), (0, (binE (fun x y => w32 (x - y)) (locE 0 2) (numE 1)))])) (numE 1) (numE 0)) (condE (zC 1 (cvE 12 fX12_isFree [(2, (locE 2 0)), (0, (binE (fun x y => w32 (x + y)) (locE 0 2) (numE 1)))])) (numE 1) (numE 0)))) (seqS (astS 100 (getE 12 21 2 (locE 2 0)) (numE 6) (condE (cmpC 0 (aldE 100 (getE 12 23 2 (locE 2 0)) (binE (fun x y => w32 (x + y)) (numE 14) (locE 0 1))) (locE 0 2)) (numE 1) (numE 0))) (seqS (astS 100 (getE 12 21 2 (locE 2 0)) (numE 7) (condE (orC (zC 0 (locE 0 2)) (cmpC 0 (locE 0 2) (binE (fun x y => w32 (x - y)) (cvE 12 fX12_places [(2, (locE 2 0))]) (numE 1)))) (numE 1) (numE 0))) (retS (cvE 12 fX12_worthAt [(2, (locE 2 0)), (0, (aldE 100 (getE 12 10 2 (locE 2 0)) (numE 183)))])))))))))))))
noncomputable def fX12_wants : Fn := runB 6 bX12_wants
theorem sX12_wants (Γ : Cx) : SO (cX12_wants, yX12_wants.cls, 4, 6, (some .int)) Γ 0 0 [] bX12_wants :=
  (S_seq (p1 := 2) (S_istore_n (E_iconst dX12_wants_0 (by decide)) dX12_wants_1 rfl)
  (S_seq (p1 := 77) (S_seq (p1 := 5) (S_istore (E_iconst dX12_wants_2 (by decide)) dX12_wants_3) (S_loop (p1 := 14) (p2 := 77) (p3 := 71) (kb := 2) (kc := 3) (by decide) (by decide) (by decide) (C_icmp_ge_n (E_iload dX12_wants_5) (E_callV mX12_beasts cv_X12_277 (A_cons2 (E_aload_n dX12_wants_7 rfl) A_nil) dX12_wants_8 (by decide) ⟨by decide, by decide⟩ rfl (by decide)) dX12_wants_11 rfl)
  (S_seq (p1 := 27) (S_istore (E_isub (E_iald (E_getf fl_X12_112 (E_aload_n dX12_wants_14 rfl) dX12_wants_15) (E_iadd (E_iconst dX12_wants_18 (by decide)) (E_iload dX12_wants_19) dX12_wants_21) dX12_wants_22) (E_iload_n dX12_wants_23 rfl) dX12_wants_24) dX12_wants_25)
  (S_istore_n (E_iadd (E_iload_n dX12_wants_27 rfl) (E_cond (p1 := 58) (p2 := 68) (p3 := 69) (C_and (p1 := 46) (C_and (p1 := 34) (C_icmp_eq_n (E_iload dX12_wants_28) (E_iload_n dX12_wants_30 rfl) dX12_wants_31 rfl) (C_if_lt_n (E_iald (E_getf fl_X12_112 (E_aload_n dX12_wants_34 rfl) dX12_wants_35) (E_iadd (E_iconst dX12_wants_38 (by decide)) (E_iload dX12_wants_39) dX12_wants_41) dX12_wants_42) dX12_wants_43 rfl)) (C_or (p1 := 52) (C_icmp_eq (E_iload dX12_wants_46) (E_iconst dX12_wants_48 (by decide)) dX12_wants_49 rfl) (C_icmp_ne_n (E_iload dX12_wants_52) (E_iconst dX12_wants_54 (by decide)) dX12_wants_55 rfl))) (E_thru (E_callV mX12_likes cv_X12_295 (A_cons2 (E_aload_n dX12_wants_58 rfl) (A_cons0 (E_iload_n dX12_wants_59 rfl) (A_cons0 (E_iload dX12_wants_60) A_nil))) dX12_wants_62 (by decide) ⟨by decide, by decide⟩ rfl (by decide)) dX12_wants_65 rfl) (E_iconst dX12_wants_68 (by decide))) dX12_wants_69) dX12_wants_70 rfl))
  (S_thru (S_iinc dX12_wants_71) dX12_wants_74 rfl)))
  (S_seq (p1 := 90) (S_if (p1 := 88) (p2 := 90) (q := 90) (C_if_ge_n (E_iald (E_getf fl_X12_85 (E_aload_n dX12_wants_77 rfl) dX12_wants_78) (E_sipush dX12_wants_81 (by decide)) dX12_wants_84) dX12_wants_85 rfl) (S_reti rfl (E_iload_n dX12_wants_88 rfl) dX12_wants_89) S_skip)
  (S_seq (p1 := 101) (S_iast (E_getf fl_X12_106 (E_aload_n dX12_wants_90 rfl) dX12_wants_91) (E_iconst dX12_wants_94 (by decide)) (E_callV mX12_toneOf cv_X12_298 (A_cons2 (E_aload_n dX12_wants_95 rfl) (A_cons0 (E_iload_n dX12_wants_96 rfl) A_nil)) dX12_wants_97 (by decide) ⟨by decide, by decide⟩ rfl (by decide)) dX12_wants_100)
  (S_seq (p1 := 121) (S_iast (E_getf fl_X12_106 (E_aload_n dX12_wants_101 rfl) dX12_wants_102) (E_iconst dX12_wants_105 (by decide)) (E_cond (p1 := 115) (p2 := 119) (p3 := 120) (C_icmp_ne_n (E_callV mX12_kindOf cv_X12_283 (A_cons2 (E_aload_n dX12_wants_106 rfl) (A_cons0 (E_iload_n dX12_wants_107 rfl) A_nil)) dX12_wants_108 (by decide) ⟨by decide, by decide⟩ rfl (by decide)) (E_iconst dX12_wants_111 (by decide)) dX12_wants_112 rfl) (E_thru (E_iconst dX12_wants_115 (by decide)) dX12_wants_116 rfl) (E_iconst dX12_wants_119 (by decide))) dX12_wants_120)
  (S_seq (p1 := 141) (S_iast (E_getf fl_X12_106 (E_aload_n dX12_wants_121 rfl) dX12_wants_122) (E_iconst dX12_wants_125 (by decide)) (E_cond (p1 := 135) (p2 := 139) (p3 := 140) (C_icmp_ne_n (E_callV mX12_kindOf cv_X12_283 (A_cons2 (E_aload_n dX12_wants_126 rfl) (A_cons0 (E_iload_n dX12_wants_127 rfl) A_nil)) dX12_wants_128 (by decide) ⟨by decide, by decide⟩ rfl (by decide)) (E_iconst dX12_wants_131 (by decide)) dX12_wants_132 rfl) (E_thru (E_iconst dX12_wants_135 (by decide)) dX12_wants_136 rfl) (E_iconst dX12_wants_139 (by decide))) dX12_wants_140)
  (S_seq (p1 := 148) (S_iast (E_getf fl_X12_106 (E_aload_n dX12_wants_141 rfl) dX12_wants_142) (E_iconst dX12_wants_145 (by decide)) (E_iload_n dX12_wants_146 rfl) dX12_wants_147)
  (S_seq (p1 := 155) (S_iast (E_getf fl_X12_106 (E_aload_n dX12_wants_148 rfl) dX12_wants_149) (E_iconst dX12_wants_152 (by decide)) (E_iload_n dX12_wants_153 rfl) dX12_wants_154)
  (S_seq (p1 := 192) (S_iast (E_getf fl_X12_106 (E_aload_n dX12_wants_155 rfl) dX12_wants_156) (E_iconst dX12_wants_159 (by decide)) (E_iadd (E_cond (p1 := 170) (p2 := 174) (p3 := 175) (C_if_eq_n (E_callV mX12_isFree cv_X12_301 (A_cons2 (E_aload_n dX12_wants_160 rfl) (A_cons0 (E_isub (E_iload_n dX12_wants_161 rfl) (E_iconst dX12_wants_162 (by decide)) dX12_wants_163) A_nil)) dX12_wants_164 (by decide) ⟨by decide, by decide⟩ rfl (by decide)) dX12_wants_167 rfl) (E_thru (E_iconst dX12_wants_170 (by decide)) dX12_wants_171 rfl) (E_iconst dX12_wants_174 (by decide))) (E_cond (p1 := 185) (p2 := 189) (p3 := 190) (C_if_eq_n (E_callV mX12_isFree cv_X12_301 (A_cons2 (E_aload_n dX12_wants_175 rfl) (A_cons0 (E_iadd (E_iload_n dX12_wants_176 rfl) (E_iconst dX12_wants_177 (by decide)) dX12_wants_178) A_nil)) dX12_wants_179 (by decide) ⟨by decide, by decide⟩ rfl (by decide)) dX12_wants_182 rfl) (E_thru (E_iconst dX12_wants_185 (by decide)) dX12_wants_186 rfl) (E_iconst dX12_wants_189 (by decide))) dX12_wants_190) dX12_wants_191)
  (S_seq (p1 := 217) (S_iast (E_getf fl_X12_106 (E_aload_n dX12_wants_192 rfl) dX12_wants_193) (E_bipush dX12_wants_196 (by decide)) (E_cond (p1 := 211) (p2 := 215) (p3 := 216) (C_icmp_ne_n (E_iald (E_getf fl_X12_112 (E_aload_n dX12_wants_198 rfl) dX12_wants_199) (E_iadd (E_bipush dX12_wants_202 (by decide)) (E_iload_n dX12_wants_204 rfl) dX12_wants_205) dX12_wants_206) (E_iload_n dX12_wants_207 rfl) dX12_wants_208 rfl) (E_thru (E_iconst dX12_wants_211 (by decide)) dX12_wants_212 rfl) (E_iconst dX12_wants_215 (by decide))) dX12_wants_216)
  (S_seq (p1 := 243) (S_iast (E_getf fl_X12_106 (E_aload_n dX12_wants_217 rfl) dX12_wants_218) (E_bipush dX12_wants_221 (by decide)) (E_cond (p1 := 237) (p2 := 241) (p3 := 242) (C_or (p1 := 227) (C_if_eq (E_iload_n dX12_wants_223 rfl) dX12_wants_224 rfl) (C_icmp_ne_n (E_iload_n dX12_wants_227 rfl) (E_isub (E_callV mX12_places cv_X12_280 (A_cons2 (E_aload_n dX12_wants_228 rfl) A_nil) dX12_wants_229 (by decide) ⟨by decide, by decide⟩ rfl (by decide)) (E_iconst dX12_wants_232 (by decide)) dX12_wants_233) dX12_wants_234 rfl)) (E_thru (E_iconst dX12_wants_237 (by decide)) dX12_wants_238 rfl) (E_iconst dX12_wants_241 (by decide))) dX12_wants_242)
  (S_reti rfl (E_callV mX12_worthAt cv_X12_304 (A_cons2 (E_aload_n dX12_wants_243 rfl) (A_cons0 (E_iald (E_getf fl_X12_85 (E_aload_n dX12_wants_244 rfl) dX12_wants_245) (E_sipush dX12_wants_248 (by decide)) dX12_wants_251) A_nil)) dX12_wants_252 (by decide) ⟨by decide, by decide⟩ rfl (by decide)) dX12_wants_255))))))))))))
theorem mX12_wants : MO yX12_wants cX12_wants 6 (some .int) 4 fX12_wants := MO_of (by decide) (fun Γ => sX12_wants Γ)
