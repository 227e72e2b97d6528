noncomputable def bX10_rewind : Sx := (seqS (seqS (putS 10 6 0 .int (locE 2 0) (numE 0)) (exS (cvE 10 fX10_next [(2, (locE 2 0))]))) retV)
noncomputable def fX10_rewind : Fn := runB 1 bX10_rewind
theorem sX10_rewind (Γ : Cx) : SO (cX10_rewind, yX10_rewind.cls, 9, 1, none) Γ 0 0 [] bX10_rewind :=
  (S_seq (p1 := 9) (S_seq (p1 := 5) (S_putf fp_X10_19 (E_aload_n dX10_rewind_0 rfl) (E_iconst dX10_rewind_1 (by decide)) dX10_rewind_2)
  (S_callV mX10_next cv_X10_22 (A_cons2 (E_aload_n dX10_rewind_5 rfl) A_nil) dX10_rewind_6 (by decide) rfl)) (S_retv rfl dX10_rewind_9))
theorem mX10_rewind : MO yX10_rewind cX10_rewind 1 none 9 fX10_rewind := MO_of (by decide) (fun Γ => sX10_rewind Γ)
noncomputable def bX11_isBeast : Sx := (retZ (boolE (andC (zC 3 (locE 0 1)) (cmpC 2 (locE 0 1) (getE 1 1 0 (getE 11 1 2 (locE 2 0)))))))
noncomputable def fX11_isBeast : Fn := runB 2 bX11_isBeast
theorem sX11_isBeast (Γ : Cx) : SO (cX11_isBeast, yX11_isBeast.cls, 1, 2, (some .boolean)) Γ 0 0 [] bX11_isBeast :=
  (S_retz rfl (E_bool (p1 := 15) (p2 := 19) (C_and (p1 := 4) (C_if_lt_n (E_iload_n dX11_isBeast_0 rfl) dX11_isBeast_1 rfl) (C_icmp_ge_n (E_iload_n dX11_isBeast_4 rfl) (E_getf fl_X11_148 (E_getf fl_X11_19 (E_aload_n dX11_isBeast_5 rfl) dX11_isBeast_6) dX11_isBeast_9) dX11_isBeast_12 rfl)) dX11_isBeast_15 dX11_isBeast_16 dX11_isBeast_19 rfl) dX11_isBeast_20)
theorem mX11_isBeast : MO yX11_isBeast cX11_isBeast 2 (some .boolean) 1 fX11_isBeast := MO_of (by decide) (fun Γ => sX11_isBeast Γ)
noncomputable def bX6_copy : Sx := (seqS (seqS (putS 6 0 0 .int (locE 2 0) (getE 6 0 0 (locE 2 1))) (seqS (putS 6 1 0 .int (locE 2 0) (getE 6 1 0 (locE 2 1))) (seqS (copyS (getE 6 2 2 (locE 2 1)) (numE 0) (getE 6 2 2 (locE 2 0)) (numE 0) (numE 12)) (seqS (copyS (getE 6 3 2 (locE 2 1)) (numE 0) (getE 6 3 2 (locE 2 0)) (numE 0) (numE 12)) (seqS (copyS (getE 6 4 2 (locE 2 1)) (numE 0) (getE 6 4 2 (locE 2 0)) (numE 0) (numE 12)) (copyS (getE 6 5 2 (locE 2 1)) (numE 0) (getE 6 5 2 (locE 2 0)) (numE 0) (numE 144))))))) retV)
noncomputable def fX6_copy : Fn := runB 2 bX6_copy
theorem sX6_copy (Γ : Cx) : SO (cX6_copy, yX6_copy.cls, 1, 2, none) Γ 0 0 [] bX6_copy :=
  (S_seq (p1 := 77) (S_seq (p1 := 8) (S_putf fp_X6_30 (E_aload_n dX6_copy_0 rfl) (E_getf fl_X6_30 (E_aload_n dX6_copy_1 rfl) dX6_copy_2) dX6_copy_5)
  (S_seq (p1 := 16) (S_putf fp_X6_34 (E_aload_n dX6_copy_8 rfl) (E_getf fl_X6_34 (E_aload_n dX6_copy_9 rfl) dX6_copy_10) dX6_copy_13)
  (S_seq (p1 := 31) (S_copy ac_X6_37 (E_getf fl_X6_9 (E_aload_n dX6_copy_16 rfl) dX6_copy_17) (E_iconst dX6_copy_20 (by decide)) (E_getf fl_X6_9 (E_aload_n dX6_copy_21 rfl) dX6_copy_22) (E_iconst dX6_copy_25 (by decide)) (E_bipush dX6_copy_26 (by decide)) dX6_copy_28 (by decide))
  (S_seq (p1 := 46) (S_copy ac_X6_37 (E_getf fl_X6_15 (E_aload_n dX6_copy_31 rfl) dX6_copy_32) (E_iconst dX6_copy_35 (by decide)) (E_getf fl_X6_15 (E_aload_n dX6_copy_36 rfl) dX6_copy_37) (E_iconst dX6_copy_40 (by decide)) (E_bipush dX6_copy_41 (by decide)) dX6_copy_43 (by decide))
  (S_seq (p1 := 61) (S_copy ac_X6_37 (E_getf fl_X6_18 (E_aload_n dX6_copy_46 rfl) dX6_copy_47) (E_iconst dX6_copy_50 (by decide)) (E_getf fl_X6_18 (E_aload_n dX6_copy_51 rfl) dX6_copy_52) (E_iconst dX6_copy_55 (by decide)) (E_bipush dX6_copy_56 (by decide)) dX6_copy_58 (by decide))
  (S_copy ac_X6_37 (E_getf fl_X6_21 (E_aload_n dX6_copy_61 rfl) dX6_copy_62) (E_iconst dX6_copy_65 (by decide)) (E_getf fl_X6_21 (E_aload_n dX6_copy_66 rfl) dX6_copy_67) (E_iconst dX6_copy_70 (by decide)) (E_sipush dX6_copy_71 (by decide)) dX6_copy_74 (by decide))))))) (S_retv rfl dX6_copy_77))
theorem mX6_copy : MO yX6_copy cX6_copy 2 none 1 fX6_copy := MO_of (by decide) (fun Γ => sX6_copy Γ)
noncomputable def bX7_keep : Sx := (seqS (seqS (putS 7 2 0 .int (locE 2 0) (condE (cmpC 2 (binE (fun x y => w32 (x + y)) (getE 7 2 0 (locE 2 0)) (numE 1)) (numE 12)) (binE (fun x y => w32 (x + y)) (getE 7 2 0 (locE 2 0)) (numE 1)) (numE 0))) (seqS (stS 2 2 (aldE 116 (getE 7 0 2 (locE 2 0)) (getE 7 2 0 (locE 2 0)))) (seqS (ifS (constC true (locE 2 2)) (exS (cvE 6 fX6_copy [(2, (locE 2 2)), (2, (locE 2 1))])) skipS) (putS 7 1 0 .int (locE 2 0) (binE (fun x y => if y < x then y else x) (binE (fun x y => w32 (x + y)) (getE 7 1 0 (locE 2 0)) (numE 1)) (numE 12)))))) retV)
noncomputable def fX7_keep : Fn := runB 3 bX7_keep
theorem sX7_keep (Γ : Cx) : SO (cX7_keep, yX7_keep.cls, 2, 3, none) Γ 0 0 [] bX7_keep :=
  (S_seq (p1 := 59) (S_seq (p1 := 25) (S_putf fp_X7_18 (E_aload_n dX7_keep_0 rfl) (E_cond (p1 := 12) (p2 := 21) (p3 := 22) (C_icmp_ge_n (E_iadd (E_getf fl_X7_18 (E_aload_n dX7_keep_1 rfl) dX7_keep_2) (E_iconst dX7_keep_5 (by decide)) dX7_keep_6) (E_bipush dX7_keep_7 (by decide)) dX7_keep_9 rfl) (E_thru (E_iadd (E_getf fl_X7_18 (E_aload_n dX7_keep_12 rfl) dX7_keep_13) (E_iconst dX7_keep_16 (by decide)) dX7_keep_17) dX7_keep_18 rfl) (E_iconst dX7_keep_21 (by decide))) dX7_keep_22)
  (S_seq (p1 := 35) (S_astore_n (E_aald (ci := 6) (E_getf fl_X7_11 (E_aload_n dX7_keep_25 rfl) dX7_keep_26) (E_getf fl_X7_18 (E_aload_n dX7_keep_29 rfl) dX7_keep_30) dX7_keep_33) dX7_keep_34 rfl)
  (S_seq (p1 := 44) (S_if (p1 := 39) (p2 := 44) (q := 44) (C_ifnull_n (pf := 44) (E_aload_n dX7_keep_35 rfl) dX7_keep_36) (S_callV mX6_copy cv_X7_22 (A_cons2 (E_aload_n dX7_keep_39 rfl) (A_cons2 (E_aload_n dX7_keep_40 rfl) A_nil)) dX7_keep_41 (by decide) rfl) S_skip)
  (S_putf fp_X7_26 (E_aload_n dX7_keep_44 rfl) (E_mmin mm_X7_29 (E_iadd (E_getf fl_X7_26 (E_aload_n dX7_keep_45 rfl) dX7_keep_46) (E_iconst dX7_keep_49 (by decide)) dX7_keep_50) (E_bipush dX7_keep_51 (by decide)) dX7_keep_53 (by decide) (by decide)) dX7_keep_56)))) (S_retv rfl dX7_keep_59))
theorem mX7_keep : MO yX7_keep cX7_keep 3 none 2 fX7_keep := MO_of (by decide) (fun Γ => sX7_keep Γ)
noncomputable def bX11_away : Sx := (seqS (ifS (orC (notC (zC 1 (cvE 11 fX11_isBeast [(2, (locE 2 0)), (0, (locE 0 1))]))) (cmpC 1 (cvE 6 fX6_isAway [(2, (getE 11 4 2 (locE 2 0))), (0, (locE 0 1))]) (locE 0 2))) (retZ (numE 0)) skipS) (seqS (exS (cvE 7 fX7_keep [(2, (getE 11 7 2 (locE 2 0))), (2, (getE 11 4 2 (locE 2 0)))])) (seqS (putS 6 0 0 .int (getE 11 4 2 (locE 2 0)) (binE o_ixor (getE 6 0 0 (getE 11 4 2 (locE 2 0))) (binE o_ishl (numE 1) (locE 0 1)))) (seqS (astS 100 (getE 6 2 2 (getE 11 4 2 (locE 2 0))) (locE 0 1) (numE (-1))) (retZ (numE 1))))))
noncomputable def fX11_away : Fn := runB 3 bX11_away
theorem sX11_away (Γ : Cx) : SO (cX11_away, yX11_away.cls, 3, 3, (some .boolean)) Γ 0 0 [] bX11_away :=
  (S_seq (p1 := 22) (S_if (p1 := 20) (p2 := 22) (q := 22) (C_or (p1 := 8) (C_not (C_if_eq_n (E_callV mX11_isBeast cv_X11_117 (A_cons2 (E_aload_n dX11_away_0 rfl) (A_cons0 (E_iload_n dX11_away_1 rfl) A_nil)) dX11_away_2 (by decide) ⟨by decide, by decide⟩ rfl (by decide)) dX11_away_5 rfl)) (C_icmp_eq_n (E_callV mX6_isAway cv_X11_131 (A_cons2 (E_getf fl_X11_38 (E_aload_n dX11_away_8 rfl) dX11_away_9) (A_cons0 (E_iload_n dX11_away_12 rfl) A_nil)) dX11_away_13 (by decide) ⟨by decide, by decide⟩ rfl (by decide)) (E_iload_n dX11_away_16 rfl) dX11_away_17 rfl)) (S_retz rfl (E_iconst dX11_away_20 (by decide)) dX11_away_21) S_skip)
  (S_seq (p1 := 33) (S_callV mX7_keep cv_X11_151 (A_cons2 (E_getf fl_X11_55 (E_aload_n dX11_away_22 rfl) dX11_away_23) (A_cons2 (E_getf fl_X11_38 (E_aload_n dX11_away_26 rfl) dX11_away_27) A_nil)) dX11_away_30 (by decide) rfl)
  (S_seq (p1 := 51) (S_putf fp_X11_155 (E_getf fl_X11_38 (E_aload_n dX11_away_33 rfl) dX11_away_34) (E_ixor (E_getf fl_X11_155 (E_getf fl_X11_38 (E_aload_n dX11_away_37 rfl) dX11_away_38) dX11_away_41) (E_ishl (E_iconst dX11_away_44 (by decide)) (E_iload_n dX11_away_45 rfl) dX11_away_46) dX11_away_47) dX11_away_48)
  (S_seq (p1 := 61) (S_iast (E_getf fl_X11_128 (E_getf fl_X11_38 (E_aload_n dX11_away_51 rfl) dX11_away_52) dX11_away_55) (E_iload_n dX11_away_58 rfl) (E_iconst dX11_away_59 (by decide)) dX11_away_60)
  (S_retz rfl (E_iconst dX11_away_61 (by decide)) dX11_away_62)))))
theorem mX11_away : MO yX11_away cX11_away 3 (some .boolean) 3 fX11_away := MO_of (by decide) (fun Γ => sX11_away Γ)
def wX11_beast_11_sel : Int → Nat := fun v => if v = 0 then 0 else if v = 1 then 1 else if v = 2 then 2 else if v = 3 then 3 else if v = 4 then 4 else 5
def wX11_beast_11_pcs : Nat → Nat := fun i => match i with
  | 0 => 44
  | 1 => 54
  | 2 => 64
  | 3 => 74
  | 4 => 91
  | _ => 101
theorem wX11_beast_11 (Γ : Cx) : SW (cX11_beast, yX11_beast.cls, 2, 3, (some .int)) Γ 11 wX11_beast_11_pcs wX11_beast_11_sel := by
  intro G env μ v k
  by_cases h0 : v = 0
  · subst h0; exact r_tsw G dX11_beast_11 (Or.inr ⟨⟨by decide, by decide⟩, _, rfl, rfl⟩) k
  by_cases h1 : v = 1
  · subst h1; exact r_tsw G dX11_beast_11 (Or.inr ⟨⟨by decide, by decide⟩, _, rfl, rfl⟩) k
  by_cases h2 : v = 2
  · subst h2; exact r_tsw G dX11_beast_11 (Or.inr ⟨⟨by decide, by decide⟩, _, rfl, rfl⟩) k
  by_cases h3 : v = 3
  · subst h3; exact r_tsw G dX11_beast_11 (Or.inr ⟨⟨by decide, by decide⟩, _, rfl, rfl⟩) k
  by_cases h4 : v = 4
  · subst h4; exact r_tsw G dX11_beast_11 (Or.inr ⟨⟨by decide, by decide⟩, _, rfl, rfl⟩) k
  have hsel : wX11_beast_11_sel v = 5 := by simp [wX11_beast_11_sel, h0, h1, h2, h3, h4]
  rw [hsel] at k
  exact r_tsw G dX11_beast_11 (Or.inl ⟨by omega, rfl⟩) k
noncomputable def bX11_beast : Sx := (seqS (ifS (notC (zC 1 (cvE 11 fX11_isBeast [(2, (locE 2 0)), (0, (locE 0 1))]))) (retS (numE (-1))) skipS) (swS 2 (locE 0 2) wX11_beast_11_sel (fun i => match i with | 0 => (retS (aldE 100 (getE 1 4 2 (getE 11 1 2 (locE 2 0))) (locE 0 1))) | 1 => (retS (aldE 100 (getE 1 5 2 (getE 11 1 2 (locE 2 0))) (locE 0 1))) | 2 => (retS (aldE 100 (getE 6 2 2 (getE 11 4 2 (locE 2 0))) (locE 0 1))) | 3 => (retS (condE (zC 1 (cvE 6 fX6_isAway [(2, (getE 11 4 2 (locE 2 0))), (0, (locE 0 1))])) (numE 1) (numE 0))) | 4 => (retS (aldE 100 (getE 6 4 2 (getE 11 4 2 (locE 2 0))) (locE 0 1))) | _ => (retS (numE (-1))))))
noncomputable def fX11_beast : Fn := runB 3 bX11_beast
theorem sX11_beast (Γ : Cx) : SO (cX11_beast, yX11_beast.cls, 2, 3, (some .int)) Γ 0 0 [] bX11_beast :=
  (S_seq (p1 := 10) (S_if (p1 := 8) (p2 := 10) (q := 10) (C_not (C_if_ne (E_callV mX11_isBeast cv_X11_117 (A_cons2 (E_aload_n dX11_beast_0 rfl) (A_cons0 (E_iload_n dX11_beast_1 rfl) A_nil)) dX11_beast_2 (by decide) ⟨by decide, by decide⟩ rfl (by decide)) dX11_beast_5 rfl)) (S_reti rfl (E_iconst dX11_beast_8 (by decide)) dX11_beast_9) S_skip)
  (S_switch (kb := 2) (by decide) (E_iload_n dX11_beast_10 rfl) (wX11_beast_11 Γ) (fun i => match i with
   | 0 => (S_reti rfl (E_iald (E_getf fl_X11_121 (E_getf fl_X11_19 (E_aload_n dX11_beast_44 rfl) dX11_beast_45) dX11_beast_48) (E_iload_n dX11_beast_51 rfl) dX11_beast_52) dX11_beast_53)
   | 1 => (S_reti rfl (E_iald (E_getf fl_X11_125 (E_getf fl_X11_19 (E_aload_n dX11_beast_54 rfl) dX11_beast_55) dX11_beast_58) (E_iload_n dX11_beast_61 rfl) dX11_beast_62) dX11_beast_63)
   | 2 => (S_reti rfl (E_iald (E_getf fl_X11_128 (E_getf fl_X11_38 (E_aload_n dX11_beast_64 rfl) dX11_beast_65) dX11_beast_68) (E_iload_n dX11_beast_71 rfl) dX11_beast_72) dX11_beast_73)
   | 3 => (S_reti rfl (E_cond (p1 := 85) (p2 := 89) (p3 := 90) (C_if_eq_n (E_callV mX6_isAway cv_X11_131 (A_cons2 (E_getf fl_X11_38 (E_aload_n dX11_beast_74 rfl) dX11_beast_75) (A_cons0 (E_iload_n dX11_beast_78 rfl) A_nil)) dX11_beast_79 (by decide) ⟨by decide, by decide⟩ rfl (by decide)) dX11_beast_82 rfl) (E_thru (E_iconst dX11_beast_85 (by decide)) dX11_beast_86 rfl) (E_iconst dX11_beast_89 (by decide))) dX11_beast_90)
   | 4 => (S_reti rfl (E_iald (E_getf fl_X11_134 (E_getf fl_X11_38 (E_aload_n dX11_beast_91 rfl) dX11_beast_92) dX11_beast_95) (E_iload_n dX11_beast_98 rfl) dX11_beast_99) dX11_beast_100)
   | _+5 => (S_reti rfl (E_iconst dX11_beast_101 (by decide)) dX11_beast_102))))
theorem mX11_beast : MO yX11_beast cX11_beast 3 (some .int) 2 fX11_beast := MO_of (by decide) (fun Γ => sX11_beast Γ)
noncomputable def bX11_isPair : Sx := (retZ (boolE (andC (andC (zC 1 (cvE 11 fX11_isBeast [(2, (locE 2 0)), (0, (locE 0 1))])) (zC 1 (cvE 11 fX11_isBeast [(2, (locE 2 0)), (0, (locE 0 2))]))) (cmpC 1 (locE 0 1) (locE 0 2)))))
noncomputable def fX11_isPair : Fn := runB 3 bX11_isPair
theorem sX11_isPair (Γ : Cx) : SO (cX11_isPair, yX11_isPair.cls, 2, 3, (some .boolean)) Γ 0 0 [] bX11_isPair :=
  (S_retz rfl (E_bool (p1 := 21) (p2 := 25) (C_and (p1 := 16) (C_and (p1 := 8) (C_if_eq_n (E_callV mX11_isBeast cv_X11_117 (A_cons2 (E_aload_n dX11_isPair_0 rfl) (A_cons0 (E_iload_n dX11_isPair_1 rfl) A_nil)) dX11_isPair_2 (by decide) ⟨by decide, by decide⟩ rfl (by decide)) dX11_isPair_5 rfl) (C_if_eq_n (E_callV mX11_isBeast cv_X11_117 (A_cons2 (E_aload_n dX11_isPair_8 rfl) (A_cons0 (E_iload_n dX11_isPair_9 rfl) A_nil)) dX11_isPair_10 (by decide) ⟨by decide, by decide⟩ rfl (by decide)) dX11_isPair_13 rfl)) (C_icmp_eq_n (E_iload_n dX11_isPair_16 rfl) (E_iload_n dX11_isPair_17 rfl) dX11_isPair_18 rfl)) dX11_isPair_21 dX11_isPair_22 dX11_isPair_25 rfl) dX11_isPair_26)
theorem mX11_isPair : MO yX11_isPair cX11_isPair 3 (some .boolean) 2 fX11_isPair := MO_of (by decide) (fun Γ => sX11_isPair Γ)
noncomputable def bX11_beside : Sx := (retS (condE (zC 1 (cvE 11 fX11_isPair [(2, (locE 2 0)), (0, (locE 0 1)), (0, (locE 0 2))])) (aldE 100 (getE 6 5 2 (getE 11 4 2 (locE 2 0))) (binE (fun x y => w32 (x + y)) (binE (fun x y => w32 (x * y)) (locE 0 1) (numE 12)) (locE 0 2))) (numE (-1))))
noncomputable def fX11_beside : Fn := runB 3 bX11_beside
theorem sX11_beside (Γ : Cx) : SO (cX11_beside, yX11_beside.cls, 3, 3, (some .int)) Γ 0 0 [] bX11_beside :=
  (S_reti rfl (E_cond (p1 := 9) (p2 := 26) (p3 := 27) (C_if_eq_n (E_callV mX11_isPair cv_X11_137 (A_cons2 (E_aload_n dX11_beside_0 rfl) (A_cons0 (E_iload_n dX11_beside_1 rfl) (A_cons0 (E_iload_n dX11_beside_2 rfl) A_nil))) dX11_beside_3 (by decide) ⟨by decide, by decide⟩ rfl (by decide)) dX11_beside_6 rfl) (E_thru (E_iald (E_getf fl_X11_168 (E_getf fl_X11_38 (E_aload_n dX11_beside_9 rfl) dX11_beside_10) dX11_beside_13) (E_iadd (E_imul (E_iload_n dX11_beside_16 rfl) (E_bipush dX11_beside_17 (by decide)) dX11_beside_19) (E_iload_n dX11_beside_20 rfl) dX11_beside_21) dX11_beside_22) dX11_beside_23 rfl) (E_iconst dX11_beside_26 (by decide))) dX11_beside_27)
theorem mX11_beside : MO yX11_beside cX11_beside 3 (some .int) 3 fX11_beside := MO_of (by decide) (fun Γ => sX11_beside Γ)
noncomputable def bX11_clear : Sx := (seqS (putS 2 0 0 .int (getE 11 6 2 (locE 2 0)) (numE 0)) (retZ (numE 1)))
noncomputable def fX11_clear : Fn := runB 1 bX11_clear
theorem sX11_clear (Γ : Cx) : SO (cX11_clear, yX11_clear.cls, 1, 1, (some .boolean)) Γ 0 0 [] bX11_clear :=
  (S_seq (p1 := 8) (S_putf fp_X11_110 (E_getf fl_X11_48 (E_aload_n dX11_clear_0 rfl) dX11_clear_1) (E_iconst dX11_clear_4 (by decide)) dX11_clear_5)
  (S_retz rfl (E_iconst dX11_clear_8 (by decide)) dX11_clear_9))
theorem mX11_clear : MO yX11_clear cX11_clear 1 (some .boolean) 1 fX11_clear := MO_of (by decide) (fun Γ => sX11_clear Γ)
def wX11_count_1_sel : Int → Nat := fun v => if v = 0 then 0 else if v = 1 then 1 else if v = 2 then 2 else if v = 3 then 3 else if v = 4 then 4 else if v = 5 then 5 else if v = 6 then 6 else if v = 7 then 7 else if v = 8 then 8 else 9
def wX11_count_1_pcs : Nat → Nat := fun i => match i with
  | 0 => 52
  | 1 => 60
  | 2 => 68
  | 3 => 76
  | 4 => 84
  | 5 => 92
  | 6 => 103
  | 7 => 111
  | 8 => 119
  | _ => 127
theorem wX11_count_1 (Γ : Cx) : SW (cX11_count, yX11_count.cls, 2, 2, (some .int)) Γ 1 wX11_count_1_pcs wX11_count_1_sel := by
  intro G env μ v k
  by_cases h0 : v = 0
  · subst h0; exact r_tsw G dX11_count_1 (Or.inr ⟨⟨by decide, by decide⟩, _, rfl, rfl⟩) k
  by_cases h1 : v = 1
  · subst h1; exact r_tsw G dX11_count_1 (Or.inr ⟨⟨by decide, by decide⟩, _, rfl, rfl⟩) k
  by_cases h2 : v = 2
  · subst h2; exact r_tsw G dX11_count_1 (Or.inr ⟨⟨by decide, by decide⟩, _, rfl, rfl⟩) k
  by_cases h3 : v = 3
  · subst h3; exact r_tsw G dX11_count_1 (Or.inr ⟨⟨by decide, by decide⟩, _, rfl, rfl⟩) k
  by_cases h4 : v = 4
  · subst h4; exact r_tsw G dX11_count_1 (Or.inr ⟨⟨by decide, by decide⟩, _, rfl, rfl⟩) k
  by_cases h5 : v = 5
  · subst h5; exact r_tsw G dX11_count_1 (Or.inr ⟨⟨by decide, by decide⟩, _, rfl, rfl⟩) k
  by_cases h6 : v = 6
  · subst h6; exact r_tsw G dX11_count_1 (Or.inr ⟨⟨by decide, by decide⟩, _, rfl, rfl⟩) k
  by_cases h7 : v = 7
  · subst h7; exact r_tsw G dX11_count_1 (Or.inr ⟨⟨by decide, by decide⟩, _, rfl, rfl⟩) k
  by_cases h8 : v = 8
  · subst h8; exact r_tsw G dX11_count_1 (Or.inr ⟨⟨by decide, by decide⟩, _, rfl, rfl⟩) k
  have hsel : wX11_count_1_sel v = 9 := by simp [wX11_count_1_sel, h0, h1, h2, h3, h4, h5, h6, h7, h8]
  rw [hsel] at k
  exact r_tsw G dX11_count_1 (Or.inl ⟨by omega, rfl⟩) k
noncomputable def bX11_count : Sx := (swS 2 (locE 0 1) wX11_count_1_sel (fun i => match i with | 0 => (retS (getE 1 1 0 (getE 11 1 2 (locE 2 0)))) | 1 => (retS (getE 1 0 0 (getE 11 1 2 (locE 2 0)))) | 2 => (retS (getE 1 2 0 (getE 11 1 2 (locE 2 0)))) | 3 => (retS (getE 1 3 0 (getE 11 1 2 (locE 2 0)))) | 4 => (retS (getE 6 1 0 (getE 11 4 2 (locE 2 0)))) | 5 => (retS (csE fJ6_bitCount_0f7a4 [(0, (getE 6 0 0 (getE 11 4 2 (locE 2 0))))])) | 6 => (retS (getE 2 0 0 (getE 11 6 2 (locE 2 0)))) | 7 => (retS (getE 7 1 0 (getE 11 7 2 (locE 2 0)))) | 8 => (retS (getE 10 1 0 (getE 11 0 2 (locE 2 0)))) | _ => (retS (numE (-1)))))
noncomputable def fX11_count : Fn := runB 2 bX11_count
theorem sX11_count (Γ : Cx) : SO (cX11_count, yX11_count.cls, 2, 2, (some .int)) Γ 0 0 [] bX11_count :=
  (S_switch (kb := 2) (by decide) (E_iload_n dX11_count_0 rfl) (wX11_count_1 Γ) (fun i => match i with
   | 0 => (S_reti rfl (E_getf fl_X11_148 (E_getf fl_X11_19 (E_aload_n dX11_count_52 rfl) dX11_count_53) dX11_count_56) dX11_count_59)
   | 1 => (S_reti rfl (E_getf fl_X11_250 (E_getf fl_X11_19 (E_aload_n dX11_count_60 rfl) dX11_count_61) dX11_count_64) dX11_count_67)
   | 2 => (S_reti rfl (E_getf fl_X11_253 (E_getf fl_X11_19 (E_aload_n dX11_count_68 rfl) dX11_count_69) dX11_count_72) dX11_count_75)
   | 3 => (S_reti rfl (E_getf fl_X11_205 (E_getf fl_X11_19 (E_aload_n dX11_count_76 rfl) dX11_count_77) dX11_count_80) dX11_count_83)
   | 4 => (S_reti rfl (E_getf fl_X11_162 (E_getf fl_X11_38 (E_aload_n dX11_count_84 rfl) dX11_count_85) dX11_count_88) dX11_count_91)
   | 5 => (S_reti rfl (E_callS mJ6_bitCount_0f7a4 cs_X11_234 (A_cons0 (E_getf fl_X11_155 (E_getf fl_X11_38 (E_aload_n dX11_count_92 rfl) dX11_count_93) dX11_count_96) A_nil) dX11_count_99 (by decide) ⟨by decide, by decide⟩ rfl (by decide)) dX11_count_102)
   | 6 => (S_reti rfl (E_getf fl_X11_110 (E_getf fl_X11_48 (E_aload_n dX11_count_103 rfl) dX11_count_104) dX11_count_107) dX11_count_110)
   | 7 => (S_reti rfl (E_getf fl_X11_113 (E_getf fl_X11_55 (E_aload_n dX11_count_111 rfl) dX11_count_112) dX11_count_115) dX11_count_118)
   | 8 => (S_reti rfl (E_getf fl_X11_99 (E_getf fl_X11_10 (E_aload_n dX11_count_119 rfl) dX11_count_120) dX11_count_123) dX11_count_126)
   | _+9 => (S_reti rfl (E_iconst dX11_count_127 (by decide)) dX11_count_128)))
theorem mX11_count : MO yX11_count cX11_count 2 (some .int) 2 fX11_count := MO_of (by decide) (fun Γ => sX11_count Γ)
noncomputable def kX11_evening_0c : Cn := (cmpC 2 (locE 0 2) (locE 0 1))
noncomputable def kX11_evening_0b : Sx := (seqS (exS (cvE 7 fX7_keep [(2, (getE 11 7 2 (locE 2 0))), (2, (getE 11 4 2 (locE 2 0)))])) (exS (cvE 0 fX0_fall [(2, (getE 11 8 2 (locE 2 0))), (2, (getE 11 1 2 (locE 2 0))), (2, (getE 11 4 2 (locE 2 0)))])))
noncomputable def kX11_evening_0u : Sx := (incS 2 1)
noncomputable def kX11_evening_0 : Sx := loopS 2 3 kX11_evening_0c kX11_evening_0b kX11_evening_0u
noncomputable def bX11_evening : Sx := (seqS (ifS (orC (cmpC 2 (locE 0 1) (numE 1)) (cmpC 4 (locE 0 1) (numE 50))) (retS (numE (-1))) skipS) (seqS (seqS (stS 2 0 (numE 0)) kX11_evening_0) (seqS (putS 2 0 0 .int (getE 11 6 2 (locE 2 0)) (numE 0)) (retS (getE 6 1 0 (getE 11 4 2 (locE 2 0)))))))
noncomputable def fX11_evening : Fn := runB 3 bX11_evening
theorem sX11_evening (Γ : Cx) : SO (cX11_evening, yX11_evening.cls, 7, 3, (some .int)) Γ 0 0 [] bX11_evening :=
  (S_seq (p1 := 13) (S_if (p1 := 11) (p2 := 13) (q := 13) (C_or (p1 := 5) (C_icmp_lt (E_iload_n dX11_evening_0 rfl) (E_iconst dX11_evening_1 (by decide)) dX11_evening_2 rfl) (C_icmp_le_n (E_iload_n dX11_evening_5 rfl) (E_bipush dX11_evening_6 (by decide)) dX11_evening_8 rfl)) (S_reti rfl (E_iconst dX11_evening_11 (by decide)) dX11_evening_12) S_skip)
  (S_seq (p1 := 53) (S_seq (p1 := 15) (S_istore_n (E_iconst dX11_evening_13 (by decide)) dX11_evening_14 rfl) (S_loop (p1 := 20) (p2 := 53) (p3 := 47) (kb := 2) (kc := 3) (by decide) (by decide) (by decide) (C_icmp_ge_n (E_iload_n dX11_evening_15 rfl) (E_iload_n dX11_evening_16 rfl) dX11_evening_17 rfl)
  (S_seq (p1 := 31) (S_callV mX7_keep cv_X11_151 (A_cons2 (E_getf fl_X11_55 (E_aload_n dX11_evening_20 rfl) dX11_evening_21) (A_cons2 (E_getf fl_X11_38 (E_aload_n dX11_evening_24 rfl) dX11_evening_25) A_nil)) dX11_evening_28 (by decide) rfl)
  (S_pop (E_callV mX0_fall cv_X11_158 (A_cons2 (E_getf fl_X11_62 (E_aload_n dX11_evening_31 rfl) dX11_evening_32) (A_cons2 (E_getf fl_X11_19 (E_aload_n dX11_evening_35 rfl) dX11_evening_36) (A_cons2 (E_getf fl_X11_38 (E_aload_n dX11_evening_39 rfl) dX11_evening_40) A_nil))) dX11_evening_43 (by decide) ⟨by decide, by decide⟩ rfl (by decide)) dX11_evening_46))
  (S_thru (S_iinc dX11_evening_47) dX11_evening_50 rfl)))
  (S_seq (p1 := 61) (S_putf fp_X11_110 (E_getf fl_X11_48 (E_aload_n dX11_evening_53 rfl) dX11_evening_54) (E_iconst dX11_evening_57 (by decide)) dX11_evening_58)
  (S_reti rfl (E_getf fl_X11_162 (E_getf fl_X11_38 (E_aload_n dX11_evening_61 rfl) dX11_evening_62) dX11_evening_65) dX11_evening_68))))
theorem mX11_evening : MO yX11_evening cX11_evening 3 (some .int) 7 fX11_evening := MO_of (by decide) (fun Γ => sX11_evening Γ)
noncomputable def bX11_feed : Sx := (seqS (exS (cvE 10 fX10_addBytes [(2, (getE 11 0 2 (locE 2 0))), (1, (locE 1 1))])) (seqS (exS (cvE 10 fX10_addBytes [(2, (getE 11 0 2 (locE 2 0))), (1, (locE 1 3))])) (seqS (exS (cvE 10 fX10_addBytes [(2, (getE 11 0 2 (locE 2 0))), (1, (locE 1 5))])) (retS (getE 10 1 0 (getE 11 0 2 (locE 2 0)))))))
noncomputable def fX11_feed : Fn := runB 7 bX11_feed
theorem sX11_feed (Γ : Cx) : SO (cX11_feed, yX11_feed.cls, 2, 7, (some .int)) Γ 0 0 [] bX11_feed :=
  (S_seq (p1 := 8) (S_callV mX10_addBytes cv_X11_95 (A_cons2 (E_getf fl_X11_10 (E_aload_n dX11_feed_0 rfl) dX11_feed_1) (A_cons1 (E_lload_n dX11_feed_4 rfl) A_nil)) dX11_feed_5 (by decide) rfl)
  (S_seq (p1 := 16) (S_callV mX10_addBytes cv_X11_95 (A_cons2 (E_getf fl_X11_10 (E_aload_n dX11_feed_8 rfl) dX11_feed_9) (A_cons1 (E_lload_n dX11_feed_12 rfl) A_nil)) dX11_feed_13 (by decide) rfl)
  (S_seq (p1 := 25) (S_callV mX10_addBytes cv_X11_95 (A_cons2 (E_getf fl_X11_10 (E_aload_n dX11_feed_16 rfl) dX11_feed_17) (A_cons1 (E_lload dX11_feed_20) A_nil)) dX11_feed_22 (by decide) rfl)
  (S_reti rfl (E_getf fl_X11_99 (E_getf fl_X11_10 (E_aload_n dX11_feed_25 rfl) dX11_feed_26) dX11_feed_29) dX11_feed_32))))
theorem mX11_feed : MO yX11_feed cX11_feed 7 (some .int) 2 fX11_feed := MO_of (by decide) (fun Γ => sX11_feed Γ)
def wX3_holdsOne_18_sel : Int → Nat := fun v => if v = 0 then 0 else if v = 1 then 1 else if v = 2 then 2 else if v = 3 then 3 else 4
def wX3_holdsOne_18_pcs : Nat → Nat := fun i => match i with
  | 0 => 48
  | 1 => 59
  | 2 => 70
  | 3 => 90
  | _ => 112
theorem wX3_holdsOne_18 (Γ : Cx) : SW (cX3_holdsOne, yX3_holdsOne.cls, 2, 5, (some .boolean)) Γ 18 wX3_holdsOne_18_pcs wX3_holdsOne_18_sel := by
  intro G env μ v k
  by_cases h0 : v = 0
  · subst h0; exact r_tsw G dX3_holdsOne_18 (Or.inr ⟨⟨by decide, by decide⟩, _, rfl, rfl⟩) k
  by_cases h1 : v = 1
  · subst h1; exact r_tsw G dX3_holdsOne_18 (Or.inr ⟨⟨by decide, by decide⟩, _, rfl, rfl⟩) k
  by_cases h2 : v = 2
  · subst h2; exact r_tsw G dX3_holdsOne_18 (Or.inr ⟨⟨by decide, by decide⟩, _, rfl, rfl⟩) k
  by_cases h3 : v = 3
  · subst h3; exact r_tsw G dX3_holdsOne_18 (Or.inr ⟨⟨by decide, by decide⟩, _, rfl, rfl⟩) k
  have hsel : wX3_holdsOne_18_sel v = 4 := by simp [wX3_holdsOne_18_sel, h0, h1, h2, h3]
  rw [hsel] at k
  exact r_tsw G dX3_holdsOne_18 (Or.inl ⟨by omega, rfl⟩) k
noncomputable def bX3_holdsOne : Sx := (seqS (stS 4 0 (binE o_iand (aldE 100 (getE 3 6 2 (locE 2 0)) (locE 0 2)) (binE o_ixor (locE 0 3) (numE (-1))))) (swS 2 (aldE 100 (getE 2 1 2 (locE 2 1)) (locE 0 2)) wX3_holdsOne_18_sel (fun i => match i with | 0 => (retZ (boolE (zC 0 (locE 0 4)))) | 1 => (retZ (boolE (zC 1 (locE 0 4)))) | 2 => (retZ (boolE (cmpC 0 (csE fJ6_bitCount_0f7a4 [(0, (locE 0 4))]) (aldE 100 (getE 2 3 2 (locE 2 1)) (locE 0 2))))) | 3 => (retZ (boolE (andC (zC 1 (locE 0 4)) (zC 1 (binE o_iand (aldE 100 (getE 3 7 2 (locE 2 0)) (locE 0 2)) (locE 0 3)))))) | _ => (retZ (boolE (andC (zC 1 (locE 0 4)) (zC 0 (binE o_iand (aldE 100 (getE 3 7 2 (locE 2 0)) (locE 0 2)) (locE 0 3)))))))))
noncomputable def fX3_holdsOne : Fn := runB 5 bX3_holdsOne
theorem sX3_holdsOne (Γ : Cx) : SO (cX3_holdsOne, yX3_holdsOne.cls, 2, 5, (some .boolean)) Γ 0 0 [] bX3_holdsOne :=
  (S_seq (p1 := 12) (S_istore (E_iand (E_iald (E_getf fl_X3_15 (E_aload_n dX3_holdsOne_0 rfl) dX3_holdsOne_1) (E_iload_n dX3_holdsOne_4 rfl) dX3_holdsOne_5) (E_ixor (E_iload_n dX3_holdsOne_6 rfl) (E_iconst dX3_holdsOne_7 (by decide)) dX3_holdsOne_8) dX3_holdsOne_9) dX3_holdsOne_10)
  (S_switch (kb := 2) (by decide) (E_iald (E_getf fl_X3_70 (E_aload_n dX3_holdsOne_12 rfl) dX3_holdsOne_13) (E_iload_n dX3_holdsOne_16 rfl) dX3_holdsOne_17) (wX3_holdsOne_18 Γ) (fun i => match i with
   | 0 => (S_retz rfl (E_bool (p1 := 53) (p2 := 57) (C_if_ne_n (E_iload dX3_holdsOne_48) dX3_holdsOne_50 rfl) dX3_holdsOne_53 dX3_holdsOne_54 dX3_holdsOne_57 rfl) dX3_holdsOne_58)
   | 1 => (S_retz rfl (E_bool (p1 := 64) (p2 := 68) (C_if_eq_n (E_iload dX3_holdsOne_59) dX3_holdsOne_61 rfl) dX3_holdsOne_64 dX3_holdsOne_65 dX3_holdsOne_68 rfl) dX3_holdsOne_69)
   | 2 => (S_retz rfl (E_bool (p1 := 84) (p2 := 88) (C_icmp_ne_n (E_callS mJ6_bitCount_0f7a4 cs_X3_53 (A_cons0 (E_iload dX3_holdsOne_70) A_nil) dX3_holdsOne_72 (by decide) ⟨by decide, by decide⟩ rfl (by decide)) (E_iald (E_getf fl_X3_76 (E_aload_n dX3_holdsOne_75 rfl) dX3_holdsOne_76) (E_iload_n dX3_holdsOne_79 rfl) dX3_holdsOne_80) dX3_holdsOne_81 rfl) dX3_holdsOne_84 dX3_holdsOne_85 dX3_holdsOne_88 rfl) dX3_holdsOne_89)
   | 3 => (S_retz rfl (E_bool (p1 := 106) (p2 := 110) (C_and (p1 := 95) (C_if_eq_n (E_iload dX3_holdsOne_90) dX3_holdsOne_92 rfl) (C_if_eq_n (E_iand (E_iald (E_getf fl_X3_18 (E_aload_n dX3_holdsOne_95 rfl) dX3_holdsOne_96) (E_iload_n dX3_holdsOne_99 rfl) dX3_holdsOne_100) (E_iload_n dX3_holdsOne_101 rfl) dX3_holdsOne_102) dX3_holdsOne_103 rfl)) dX3_holdsOne_106 dX3_holdsOne_107 dX3_holdsOne_110 rfl) dX3_holdsOne_111)
   | _+4 => (S_retz rfl (E_bool (p1 := 128) (p2 := 132) (C_and (p1 := 117) (C_if_eq_n (E_iload dX3_holdsOne_112) dX3_holdsOne_114 rfl) (C_if_ne_n (E_iand (E_iald (E_getf fl_X3_18 (E_aload_n dX3_holdsOne_117 rfl) dX3_holdsOne_118) (E_iload_n dX3_holdsOne_121 rfl) dX3_holdsOne_122) (E_iload_n dX3_holdsOne_123 rfl) dX3_holdsOne_124) dX3_holdsOne_125 rfl)) dX3_holdsOne_128 dX3_holdsOne_129 dX3_holdsOne_132 rfl) dX3_holdsOne_133))))
theorem mX3_holdsOne : MO yX3_holdsOne cX3_holdsOne 5 (some .boolean) 2 fX3_holdsOne := MO_of (by decide) (fun Γ => sX3_holdsOne Γ)
noncomputable def kX3_holds_0c : Cn := (cmpC 2 (locE 0 3) (getE 2 0 0 (locE 2 1)))
noncomputable def kX3_holds_0b : Sx := (ifS (notC (zC 1 (cvE 3 fX3_holdsOne [(2, (locE 2 0)), (2, (locE 2 1)), (0, (locE 0 3)), (0, (locE 0 2))]))) (retZ (numE 0)) skipS)
noncomputable def kX3_holds_0u : Sx := (incS 3 1)
noncomputable def kX3_holds_0 : Sx := loopS 2 3 kX3_holds_0c kX3_holds_0b kX3_holds_0u
noncomputable def bX3_holds : Sx := (seqS (seqS (stS 3 0 (numE 0)) kX3_holds_0) (retZ (numE 1)))
noncomputable def fX3_holds : Fn := runB 4 bX3_holds
theorem sX3_holds (Γ : Cx) : SO (cX3_holds, yX3_holds.cls, 3, 4, (some .boolean)) Γ 0 0 [] bX3_holds :=
  (S_seq (p1 := 28) (S_seq (p1 := 2) (S_istore_n (E_iconst dX3_holds_0 (by decide)) dX3_holds_1 rfl) (S_loop (p1 := 10) (p2 := 28) (p3 := 22) (kb := 2) (kc := 3) (by decide) (by decide) (by decide) (C_icmp_ge_n (E_iload_n dX3_holds_2 rfl) (E_getf fl_X3_34 (E_aload_n dX3_holds_3 rfl) dX3_holds_4) dX3_holds_7 rfl)
  (S_if (p1 := 20) (p2 := 22) (q := 22) (C_not (C_if_ne (E_callV mX3_holdsOne cv_X3_92 (A_cons2 (E_aload_n dX3_holds_10 rfl) (A_cons2 (E_aload_n dX3_holds_11 rfl) (A_cons0 (E_iload_n dX3_holds_12 rfl) (A_cons0 (E_iload_n dX3_holds_13 rfl) A_nil)))) dX3_holds_14 (by decide) ⟨by decide, by decide⟩ rfl (by decide)) dX3_holds_17 rfl)) (S_retz rfl (E_iconst dX3_holds_20 (by decide)) dX3_holds_21) S_skip)
  (S_thru (S_iinc dX3_holds_22) dX3_holds_25 rfl)))
  (S_retz rfl (E_iconst dX3_holds_28 (by decide)) dX3_holds_29))
theorem mX3_holds : MO yX3_holds cX3_holds 4 (some .boolean) 3 fX3_holds := MO_of (by decide) (fun Γ => sX3_holds Γ)
noncomputable def bX3_isMissed : Sx := (retZ (boolE (andC (cmpC 0 (unE (fun x => if 0 ≤ x then x else w32 (0 - x)) (binE (fun x y => w32 (x - y)) (aldE 100 (getE 6 3 2 (locE 2 1)) (locE 0 2)) (aldE 100 (getE 6 3 2 (locE 2 1)) (locE 0 3)))) (numE 1)) (cmpC 3 (cvE 6 fX6_likes [(2, (locE 2 1)), (2, (locE 2 0)), (0, (locE 0 2)), (0, (locE 0 3))]) (locE 0 4)))))
noncomputable def fX3_isMissed : Fn := runB 5 bX3_isMissed
theorem sX3_isMissed (Γ : Cx) : SO (cX3_isMissed, yX3_isMissed.cls, 3, 5, (some .boolean)) Γ 0 0 [] bX3_isMissed :=
  (S_retz rfl (E_bool (p1 := 32) (p2 := 36) (C_and (p1 := 20) (C_icmp_ne_n (E_mabs mm_X3_83 (E_isub (E_iald (E_getf fl_X3_30 (E_aload_n dX3_isMissed_0 rfl) dX3_isMissed_1) (E_iload_n dX3_isMissed_4 rfl) dX3_isMissed_5) (E_iald (E_getf fl_X3_30 (E_aload_n dX3_isMissed_6 rfl) dX3_isMissed_7) (E_iload_n dX3_isMissed_10 rfl) dX3_isMissed_11) dX3_isMissed_12) dX3_isMissed_13 (by decide) (by decide)) (E_iconst dX3_isMissed_16 (by decide)) dX3_isMissed_17 rfl) (C_icmp_lt_n (E_callV mX6_likes cv_X3_88 (A_cons2 (E_aload_n dX3_isMissed_20 rfl) (A_cons2 (E_aload_n dX3_isMissed_21 rfl) (A_cons0 (E_iload_n dX3_isMissed_22 rfl) (A_cons0 (E_iload_n dX3_isMissed_23 rfl) A_nil)))) dX3_isMissed_24 (by decide) ⟨by decide, by decide⟩ rfl (by decide)) (E_iload dX3_isMissed_27) dX3_isMissed_29 rfl)) dX3_isMissed_32 dX3_isMissed_33 dX3_isMissed_36 rfl) dX3_isMissed_37)
theorem mX3_isMissed : MO yX3_isMissed cX3_isMissed 5 (some .boolean) 3 fX3_isMissed := MO_of (by decide) (fun Γ => sX3_isMissed Γ)
def wX3_prepare_58_sel : Int → Nat := fun v => if v = 0 then 0 else if v = 1 then 0 else if v = 2 then 1 else 2
def wX3_prepare_58_pcs : Nat → Nat := fun i => match i with
  | 0 => 84
  | 1 => 117
  | _ => 150
theorem wX3_prepare_58 (Γ : Cx) : SW (cX3_prepare, yX3_prepare.cls, 4, 7, none) Γ 58 wX3_prepare_58_pcs wX3_prepare_58_sel := by
  intro G env μ v k
  by_cases h0 : v = 0
  · subst h0; exact r_tsw G dX3_prepare_58 (Or.inr ⟨⟨by decide, by decide⟩, _, rfl, rfl⟩) k
  by_cases h1 : v = 1
  · subst h1; exact r_tsw G dX3_prepare_58 (Or.inr ⟨⟨by decide, by decide⟩, _, rfl, rfl⟩) k
  by_cases h2 : v = 2
  · subst h2; exact r_tsw G dX3_prepare_58 (Or.inr ⟨⟨by decide, by decide⟩, _, rfl, rfl⟩) k
  have hsel : wX3_prepare_58_sel v = 2 := by simp [wX3_prepare_58_sel, h0, h1, h2]
  rw [hsel] at k
  exact r_tsw G dX3_prepare_58 (Or.inl ⟨by omega, rfl⟩) k
noncomputable def kX3_prepare_0c : Cn := (cmpC 2 (locE 0 6) (getE 1 1 0 (locE 2 1)))
noncomputable def kX3_prepare_0b : Sx := (seqS (ifS (cmpC 0 (aldE 100 (getE 6 3 2 (locE 2 2)) (locE 0 6)) (numE (-1))) (brkS 3) skipS) (swS 4 (aldE 100 (getE 2 1 2 (locE 2 3)) (locE 0 4)) wX3_prepare_58_sel (fun i => match i with | 0 => (seqS (aopS 100 o_ior (getE 3 6 2 (locE 2 0)) (locE 0 4) (condE (cmpC 0 (aldE 100 (getE 6 3 2 (locE 2 2)) (locE 0 6)) (locE 0 5)) (binE o_ishl (numE 1) (locE 0 6)) (numE 0))) (brkS 4)) | 1 => (seqS (aopS 100 o_ior (getE 3 6 2 (locE 2 0)) (locE 0 4) (condE (cmpC 0 (aldE 100 (getE 1 5 2 (locE 2 1)) (locE 0 6)) (locE 0 5)) (binE o_ishl (numE 1) (locE 0 6)) (numE 0))) (brkS 4)) | _ => (seqS (aopS 100 o_ior (getE 3 6 2 (locE 2 0)) (locE 0 4) (condE (cmpC 0 (locE 0 6) (locE 0 5)) (binE o_ishl (numE 1) (locE 0 6)) (numE 0))) (seqS (aopS 100 o_ior (getE 3 7 2 (locE 2 0)) (locE 0 4) (condE (zC 1 (csE fX3_isMissed [(2, (locE 2 1)), (2, (locE 2 2)), (0, (locE 0 5)), (0, (locE 0 6)), (0, (aldE 100 (getE 2 3 2 (locE 2 3)) (locE 0 4)))])) (binE o_ishl (numE 1) (locE 0 6)) (numE 0))) (brkS 4))))))
noncomputable def kX3_prepare_0u : Sx := (incS 6 1)
noncomputable def kX3_prepare_0 : Sx := loopS 2 3 kX3_prepare_0c kX3_prepare_0b kX3_prepare_0u
noncomputable def bX3_prepare : Sx := (seqS (seqS (stS 5 0 (aldE 100 (getE 2 2 2 (locE 2 3)) (locE 0 4))) (seqS (astS 100 (getE 3 6 2 (locE 2 0)) (locE 0 4) (numE 0)) (seqS (astS 100 (getE 3 7 2 (locE 2 0)) (locE 0 4) (numE 0)) (seqS (stS 6 0 (numE 0)) kX3_prepare_0)))) retV)
noncomputable def fX3_prepare : Fn := runB 7 bX3_prepare
theorem sX3_prepare (Γ : Cx) : SO (cX3_prepare, yX3_prepare.cls, 4, 7, none) Γ 0 0 [] bX3_prepare :=
  (S_seq (p1 := 218) (S_seq (p1 := 9) (S_istore (E_iald (E_getf fl_X3_67 (E_aload_n dX3_prepare_0 rfl) dX3_prepare_1) (E_iload dX3_prepare_4) dX3_prepare_6) dX3_prepare_7)
  (S_seq (p1 := 17) (S_iast (E_getf fl_X3_15 (E_aload_n dX3_prepare_9 rfl) dX3_prepare_10) (E_iload dX3_prepare_13) (E_iconst dX3_prepare_15 (by decide)) dX3_prepare_16)
  (S_seq (p1 := 25) (S_iast (E_getf fl_X3_18 (E_aload_n dX3_prepare_17 rfl) dX3_prepare_18) (E_iload dX3_prepare_21) (E_iconst dX3_prepare_23 (by decide)) dX3_prepare_24)
  (S_seq (p1 := 28) (S_istore (E_iconst dX3_prepare_25 (by decide)) dX3_prepare_26) (S_loop (p1 := 37) (p2 := 218) (p3 := 212) (kb := 2) (kc := 3) (by decide) (by decide) (by decide) (C_icmp_ge_n (E_iload dX3_prepare_28) (E_getf fl_X3_25 (E_aload_n dX3_prepare_30 rfl) dX3_prepare_31) dX3_prepare_34 rfl)
  (S_seq (p1 := 51) (S_if (p1 := 48) (p2 := 51) (q := 51) (C_icmp_ne_n (E_iald (E_getf fl_X3_30 (E_aload_n dX3_prepare_37 rfl) dX3_prepare_38) (E_iload dX3_prepare_41) dX3_prepare_43) (E_iconst dX3_prepare_44 (by decide)) dX3_prepare_45 rfl) (S_brk dX3_prepare_48 rfl (by decide) rfl) S_skip)
  (S_switch (kb := 4) (q := 212) (by decide) (E_iald (E_getf fl_X3_70 (E_aload_n dX3_prepare_51 rfl) dX3_prepare_52) (E_iload dX3_prepare_55) dX3_prepare_57) (wX3_prepare_58 Γ) (fun i => match i with
   | 0 => (S_seq (p1 := 114) (S_aop_ior (E_getf fl_X3_15 (E_aload_n dX3_prepare_84 rfl) dX3_prepare_85) (E_iload dX3_prepare_88) dX3_prepare_90 dX3_prepare_91 (E_cond (p1 := 104) (p2 := 111) (p3 := 112) (C_icmp_ne_n (E_iald (E_getf fl_X3_30 (E_aload_n dX3_prepare_92 rfl) dX3_prepare_93) (E_iload dX3_prepare_96) dX3_prepare_98) (E_iload dX3_prepare_99) dX3_prepare_101 rfl) (E_thru (E_ishl (E_iconst dX3_prepare_104 (by decide)) (E_iload dX3_prepare_105) dX3_prepare_107) dX3_prepare_108 rfl) (E_iconst dX3_prepare_111 (by decide))) dX3_prepare_112 dX3_prepare_113)
  (S_brk dX3_prepare_114 rfl (by decide) rfl))
   | 1 => (S_seq (p1 := 147) (S_aop_ior (E_getf fl_X3_15 (E_aload_n dX3_prepare_117 rfl) dX3_prepare_118) (E_iload dX3_prepare_121) dX3_prepare_123 dX3_prepare_124 (E_cond (p1 := 137) (p2 := 144) (p3 := 145) (C_icmp_ne_n (E_iald (E_getf fl_X3_73 (E_aload_n dX3_prepare_125 rfl) dX3_prepare_126) (E_iload dX3_prepare_129) dX3_prepare_131) (E_iload dX3_prepare_132) dX3_prepare_134 rfl) (E_thru (E_ishl (E_iconst dX3_prepare_137 (by decide)) (E_iload dX3_prepare_138) dX3_prepare_140) dX3_prepare_141 rfl) (E_iconst dX3_prepare_144 (by decide))) dX3_prepare_145 dX3_prepare_146)
  (S_brk dX3_prepare_147 rfl (by decide) rfl))
   | _+2 => (S_seq (p1 := 175) (S_aop_ior (E_getf fl_X3_15 (E_aload_n dX3_prepare_150 rfl) dX3_prepare_151) (E_iload dX3_prepare_154) dX3_prepare_156 dX3_prepare_157 (E_cond (p1 := 165) (p2 := 172) (p3 := 173) (C_icmp_ne_n (E_iload dX3_prepare_158) (E_iload dX3_prepare_160) dX3_prepare_162 rfl) (E_thru (E_ishl (E_iconst dX3_prepare_165 (by decide)) (E_iload dX3_prepare_166) dX3_prepare_168) dX3_prepare_169 rfl) (E_iconst dX3_prepare_172 (by decide))) dX3_prepare_173 dX3_prepare_174)
  (S_seq (p1 := 212) (S_aop_ior (E_getf fl_X3_18 (E_aload_n dX3_prepare_175 rfl) dX3_prepare_176) (E_iload dX3_prepare_179) dX3_prepare_181 dX3_prepare_182 (E_cond (p1 := 202) (p2 := 209) (p3 := 210) (C_if_eq_n (E_callS mX3_isMissed cs_X3_79 (A_cons2 (E_aload_n dX3_prepare_183 rfl) (A_cons2 (E_aload_n dX3_prepare_184 rfl) (A_cons0 (E_iload dX3_prepare_185) (A_cons0 (E_iload dX3_prepare_187) (A_cons0 (E_iald (E_getf fl_X3_76 (E_aload_n dX3_prepare_189 rfl) dX3_prepare_190) (E_iload dX3_prepare_193) dX3_prepare_195) A_nil))))) dX3_prepare_196 (by decide) ⟨by decide, by decide⟩ rfl (by decide)) dX3_prepare_199 rfl) (E_thru (E_ishl (E_iconst dX3_prepare_202 (by decide)) (E_iload dX3_prepare_203) dX3_prepare_205) dX3_prepare_206 rfl) (E_iconst dX3_prepare_209 (by decide))) dX3_prepare_210 dX3_prepare_211)
  (S_brk0 (by decide) rfl))))))
  (S_thru (S_iinc dX3_prepare_212) dX3_prepare_215 rfl)))))) (S_retv rfl dX3_prepare_218))
theorem mX3_prepare : MO yX3_prepare cX3_prepare 7 none 4 fX3_prepare := MO_of (by decide) (fun Γ => sX3_prepare Γ)
noncomputable def bX3_take : Sx := (seqS (seqS (ifS (cmpC 2 (getE 3 1 0 (locE 2 0)) (numE 16)) (astS 100 (getE 3 5 2 (locE 2 0)) (getE 3 1 0 (locE 2 0)) (locE 0 1)) skipS) (seqS (ifS (cmpC 0 (getE 3 1 0 (locE 2 0)) (locE 0 2)) (putS 3 4 0 .int (locE 2 0) (locE 0 1)) skipS) (seqS (putS 3 2 0 .int (locE 2 0) (binE o_iand (getE 3 2 0 (locE 2 0)) (locE 0 1))) (seqS (putS 3 3 0 .int (locE 2 0) (binE o_ior (getE 3 3 0 (locE 2 0)) (locE 0 1))) (fopS 3 1 (fun x y => w32 (x + y)) (locE 2 0) (numE 1)))))) retV)
noncomputable def fX3_take : Fn := runB 3 bX3_take
theorem sX3_take (Γ : Cx) : SO (cX3_take, yX3_take.cls, 1, 3, none) Γ 0 0 [] bX3_take :=
  (S_seq (p1 := 62) (S_seq (p1 := 19) (S_if (p1 := 9) (p2 := 19) (q := 19) (C_icmp_ge_n (E_getf fl_X3_43 (E_aload_n dX3_take_0 rfl) dX3_take_1) (E_bipush dX3_take_4 (by decide)) dX3_take_6 rfl) (S_iast (E_getf fl_X3_9 (E_aload_n dX3_take_9 rfl) dX3_take_10) (E_getf fl_X3_43 (E_aload_n dX3_take_13 rfl) dX3_take_14) (E_iload_n dX3_take_17 rfl) dX3_take_18) S_skip)
  (S_seq (p1 := 32) (S_if (p1 := 27) (p2 := 32) (q := 32) (C_icmp_ne_n (E_getf fl_X3_43 (E_aload_n dX3_take_19 rfl) dX3_take_20) (E_iload_n dX3_take_23 rfl) dX3_take_24 rfl) (S_putf fp_X3_50 (E_aload_n dX3_take_27 rfl) (E_iload_n dX3_take_28 rfl) dX3_take_29) S_skip)
  (S_seq (p1 := 42) (S_putf fp_X3_44 (E_aload_n dX3_take_32 rfl) (E_iand (E_getf fl_X3_44 (E_aload_n dX3_take_33 rfl) dX3_take_34) (E_iload_n dX3_take_37 rfl) dX3_take_38) dX3_take_39)
  (S_seq (p1 := 52) (S_putf fp_X3_47 (E_aload_n dX3_take_42 rfl) (E_ior (E_getf fl_X3_47 (E_aload_n dX3_take_43 rfl) dX3_take_44) (E_iload_n dX3_take_47 rfl) dX3_take_48) dX3_take_49)
  (S_fop_iadd fl_X3_43 fp_X3_43 (E_aload_n dX3_take_52 rfl) dX3_take_53 dX3_take_54 (E_iconst dX3_take_57 (by decide)) dX3_take_58 dX3_take_59))))) (S_retv rfl dX3_take_62))
theorem mX3_take : MO yX3_take cX3_take 3 none 1 fX3_take := MO_of (by decide) (fun Γ => sX3_take Γ)
noncomputable def kX3_ponder_0c : Cn := (cmpC 2 (locE 0 5) (getE 1 1 0 (locE 2 1)))
noncomputable def kX3_ponder_0b : Sx := (ifS (cmpC 1 (aldE 100 (getE 6 3 2 (locE 2 2)) (locE 0 5)) (numE (-1))) (putS 3 0 0 .int (locE 2 0) (binE o_ior (getE 3 0 0 (locE 2 0)) (binE o_ishl (numE 1) (locE 0 5)))) skipS)
noncomputable def kX3_ponder_0u : Sx := (incS 5 1)
noncomputable def kX3_ponder_0 : Sx := loopS 2 3 kX3_ponder_0c kX3_ponder_0b kX3_ponder_0u
noncomputable def kX3_ponder_1c : Cn := (cmpC 2 (locE 0 5) (getE 2 0 0 (locE 2 3)))
noncomputable def kX3_ponder_1b : Sx := (exS (cvE 3 fX3_prepare [(2, (locE 2 0)), (2, (locE 2 1)), (2, (locE 2 2)), (2, (locE 2 3)), (0, (locE 0 5))]))
noncomputable def kX3_ponder_1u : Sx := (incS 5 1)
noncomputable def kX3_ponder_1 : Sx := loopS 4 5 kX3_ponder_1c kX3_ponder_1b kX3_ponder_1u
noncomputable def kX3_ponder_2c : Cn := (cmpC 2 (locE 0 6) (binE o_ishl (numE 1) (csE fJ6_bitCount_0f7a4 [(0, (getE 3 0 0 (locE 2 0)))])))
noncomputable def kX3_ponder_2b : Sx := (seqS (ifS (zC 1 (cvE 3 fX3_holds [(2, (locE 2 0)), (2, (locE 2 3)), (0, (locE 0 5))])) (exS (cvE 3 fX3_take [(2, (locE 2 0)), (0, (locE 0 5)), (0, (locE 0 4))])) skipS) (stS 5 0 (binE o_iand (binE (fun x y => w32 (x - y)) (locE 0 5) (getE 3 0 0 (locE 2 0))) (getE 3 0 0 (locE 2 0)))))
noncomputable def kX3_ponder_2u : Sx := (incS 6 1)
noncomputable def kX3_ponder_2 : Sx := loopS 6 7 kX3_ponder_2c kX3_ponder_2b kX3_ponder_2u
noncomputable def bX3_ponder : Sx := (seqS (seqS (putS 3 0 0 .int (locE 2 0) (numE 0)) (seqS (seqS (stS 5 0 (numE 0)) kX3_ponder_0) (seqS (seqS (stS 5 0 (numE 0)) kX3_ponder_1) (seqS (putS 3 1 0 .int (locE 2 0) (numE 0)) (seqS (putS 3 2 0 .int (locE 2 0) (getE 3 0 0 (locE 2 0))) (seqS (putS 3 3 0 .int (locE 2 0) (numE 0)) (seqS (putS 3 4 0 .int (locE 2 0) (numE (-1))) (seqS (stS 5 0 (numE 0)) (seqS (stS 6 0 (numE 0)) kX3_ponder_2))))))))) retV)
noncomputable def fX3_ponder : Fn := runB 7 bX3_ponder
theorem sX3_ponder (Γ : Cx) : SO (cX3_ponder, yX3_ponder.cls, 5, 7, none) Γ 0 0 [] bX3_ponder :=
  (S_seq (p1 := 155) (S_seq (p1 := 5) (S_putf fp_X3_21 (E_aload_n dX3_ponder_0 rfl) (E_iconst dX3_ponder_1 (by decide)) dX3_ponder_2)
  (S_seq (p1 := 47) (S_seq (p1 := 8) (S_istore (E_iconst dX3_ponder_5 (by decide)) dX3_ponder_6) (S_loop (p1 := 17) (p2 := 47) (p3 := 41) (kb := 2) (kc := 3) (by decide) (by decide) (by decide) (C_icmp_ge_n (E_iload dX3_ponder_8) (E_getf fl_X3_25 (E_aload_n dX3_ponder_10 rfl) dX3_ponder_11) dX3_ponder_14 rfl)
  (S_if (p1 := 28) (p2 := 41) (q := 41) (C_icmp_eq_n (E_iald (E_getf fl_X3_30 (E_aload_n dX3_ponder_17 rfl) dX3_ponder_18) (E_iload dX3_ponder_21) dX3_ponder_23) (E_iconst dX3_ponder_24 (by decide)) dX3_ponder_25 rfl) (S_putf fp_X3_21 (E_aload_n dX3_ponder_28 rfl) (E_ior (E_getf fl_X3_21 (E_aload_n dX3_ponder_29 rfl) dX3_ponder_30) (E_ishl (E_iconst dX3_ponder_33 (by decide)) (E_iload dX3_ponder_34) dX3_ponder_36) dX3_ponder_37) dX3_ponder_38) S_skip)
  (S_thru (S_iinc dX3_ponder_41) dX3_ponder_44 rfl)))
  (S_seq (p1 := 74) (S_seq (p1 := 50) (S_istore (E_iconst dX3_ponder_47 (by decide)) dX3_ponder_48) (S_loop (p1 := 59) (p2 := 74) (p3 := 68) (kb := 4) (kc := 5) (by decide) (by decide) (by decide) (C_icmp_ge_n (E_iload dX3_ponder_50) (E_getf fl_X3_34 (E_aload_n dX3_ponder_52 rfl) dX3_ponder_53) dX3_ponder_56 rfl)
  (S_callV mX3_prepare cv_X3_39 (A_cons2 (E_aload_n dX3_ponder_59 rfl) (A_cons2 (E_aload_n dX3_ponder_60 rfl) (A_cons2 (E_aload_n dX3_ponder_61 rfl) (A_cons2 (E_aload_n dX3_ponder_62 rfl) (A_cons0 (E_iload dX3_ponder_63) A_nil))))) dX3_ponder_65 (by decide) rfl)
  (S_thru (S_iinc dX3_ponder_68) dX3_ponder_71 rfl)))
  (S_seq (p1 := 79) (S_putf fp_X3_43 (E_aload_n dX3_ponder_74 rfl) (E_iconst dX3_ponder_75 (by decide)) dX3_ponder_76)
  (S_seq (p1 := 87) (S_putf fp_X3_44 (E_aload_n dX3_ponder_79 rfl) (E_getf fl_X3_21 (E_aload_n dX3_ponder_80 rfl) dX3_ponder_81) dX3_ponder_84)
  (S_seq (p1 := 92) (S_putf fp_X3_47 (E_aload_n dX3_ponder_87 rfl) (E_iconst dX3_ponder_88 (by decide)) dX3_ponder_89)
  (S_seq (p1 := 97) (S_putf fp_X3_50 (E_aload_n dX3_ponder_92 rfl) (E_iconst dX3_ponder_93 (by decide)) dX3_ponder_94)
  (S_seq (p1 := 100) (S_istore (E_iconst dX3_ponder_97 (by decide)) dX3_ponder_98)
  (S_seq (p1 := 103) (S_istore (E_iconst dX3_ponder_100 (by decide)) dX3_ponder_101) (S_loop (p1 := 117) (p2 := 155) (p3 := 149) (kb := 6) (kc := 7) (by decide) (by decide) (by decide) (C_icmp_ge_n (E_iload dX3_ponder_103) (E_ishl (E_iconst dX3_ponder_105 (by decide)) (E_callS mJ6_bitCount_0f7a4 cs_X3_53 (A_cons0 (E_getf fl_X3_21 (E_aload_n dX3_ponder_106 rfl) dX3_ponder_107) A_nil) dX3_ponder_110 (by decide) ⟨by decide, by decide⟩ rfl (by decide)) dX3_ponder_113) dX3_ponder_114 rfl)
  (S_seq (p1 := 135) (S_if (p1 := 127) (p2 := 135) (q := 135) (C_if_eq_n (E_callV mX3_holds cv_X3_59 (A_cons2 (E_aload_n dX3_ponder_117 rfl) (A_cons2 (E_aload_n dX3_ponder_118 rfl) (A_cons0 (E_iload dX3_ponder_119) A_nil))) dX3_ponder_121 (by decide) ⟨by decide, by decide⟩ rfl (by decide)) dX3_ponder_124 rfl) (S_callV mX3_take cv_X3_63 (A_cons2 (E_aload_n dX3_ponder_127 rfl) (A_cons0 (E_iload dX3_ponder_128) (A_cons0 (E_iload dX3_ponder_130) A_nil))) dX3_ponder_132 (by decide) rfl) S_skip)
  (S_istore (E_iand (E_isub (E_iload dX3_ponder_135) (E_getf fl_X3_21 (E_aload_n dX3_ponder_137 rfl) dX3_ponder_138) dX3_ponder_141) (E_getf fl_X3_21 (E_aload_n dX3_ponder_142 rfl) dX3_ponder_143) dX3_ponder_146) dX3_ponder_147))
  (S_thru (S_iinc dX3_ponder_149) dX3_ponder_152 rfl))))))))))) (S_retv rfl dX3_ponder_155))
theorem mX3_ponder : MO yX3_ponder cX3_ponder 7 none 5 fX3_ponder := MO_of (by decide) (fun Γ => sX3_ponder Γ)
noncomputable def bX11_fit : Sx := (seqS (ifS (zC 2 (locE 0 1)) (retS (numE (-1))) skipS) (seqS (exS (cvE 3 fX3_ponder [(2, (getE 11 9 2 (locE 2 0))), (2, (getE 11 1 2 (locE 2 0))), (2, (getE 11 4 2 (locE 2 0))), (2, (getE 11 6 2 (locE 2 0))), (0, (locE 0 1))])) (retS (getE 3 4 0 (getE 11 9 2 (locE 2 0))))))
noncomputable def fX11_fit : Fn := runB 2 bX11_fit
theorem sX11_fit (Γ : Cx) : SO (cX11_fit, yX11_fit.cls, 6, 2, (some .int)) Γ 0 0 [] bX11_fit :=
  (S_seq (p1 := 6) (S_if (p1 := 4) (p2 := 6) (q := 6) (C_if_ge_n (E_iload_n dX11_fit_0 rfl) dX11_fit_1 rfl) (S_reti rfl (E_iconst dX11_fit_4 (by decide)) dX11_fit_5) S_skip)
  (S_seq (p1 := 26) (S_callV mX3_ponder cv_X11_178 (A_cons2 (E_getf fl_X11_69 (E_aload_n dX11_fit_6 rfl) dX11_fit_7) (A_cons2 (E_getf fl_X11_19 (E_aload_n dX11_fit_10 rfl) dX11_fit_11) (A_cons2 (E_getf fl_X11_38 (E_aload_n dX11_fit_14 rfl) dX11_fit_15) (A_cons2 (E_getf fl_X11_48 (E_aload_n dX11_fit_18 rfl) dX11_fit_19) (A_cons0 (E_iload_n dX11_fit_22 rfl) A_nil))))) dX11_fit_23 (by decide) rfl)
  (S_reti rfl (E_getf fl_X11_183 (E_getf fl_X11_69 (E_aload_n dX11_fit_26 rfl) dX11_fit_27) dX11_fit_30) dX11_fit_33)))
theorem mX11_fit : MO yX11_fit cX11_fit 2 (some .int) 6 fX11_fit := MO_of (by decide) (fun Γ => sX11_fit Γ)
noncomputable def bX11_fits : Sx := (seqS (exS (cvE 3 fX3_ponder [(2, (getE 11 9 2 (locE 2 0))), (2, (getE 11 1 2 (locE 2 0))), (2, (getE 11 4 2 (locE 2 0))), (2, (getE 11 6 2 (locE 2 0))), (0, (numE (-1)))])) (retS (getE 3 1 0 (getE 11 9 2 (locE 2 0)))))
noncomputable def fX11_fits : Fn := runB 1 bX11_fits
theorem sX11_fits (Γ : Cx) : SO (cX11_fits, yX11_fits.cls, 6, 1, (some .int)) Γ 0 0 [] bX11_fits :=
  (S_seq (p1 := 20) (S_callV mX3_ponder cv_X11_178 (A_cons2 (E_getf fl_X11_69 (E_aload_n dX11_fits_0 rfl) dX11_fits_1) (A_cons2 (E_getf fl_X11_19 (E_aload_n dX11_fits_4 rfl) dX11_fits_5) (A_cons2 (E_getf fl_X11_38 (E_aload_n dX11_fits_8 rfl) dX11_fits_9) (A_cons2 (E_getf fl_X11_48 (E_aload_n dX11_fits_12 rfl) dX11_fits_13) (A_cons0 (E_iconst dX11_fits_16 (by decide)) A_nil))))) dX11_fits_17 (by decide) rfl)
  (S_reti rfl (E_getf fl_X11_182 (E_getf fl_X11_69 (E_aload_n dX11_fits_20 rfl) dX11_fits_21) dX11_fits_24) dX11_fits_27))
theorem mX11_fits : MO yX11_fits cX11_fits 1 (some .int) 6 fX11_fits := MO_of (by decide) (fun Γ => sX11_fits Γ)
noncomputable def bX6_reset : Sx := (seqS (seqS (putS 6 0 0 .int (locE 2 0) (numE 0)) (seqS (putS 6 1 0 .int (locE 2 0) (numE 0)) (seqS (exS (csE fJ7_fill_53178 [(2, (getE 6 2 2 (locE 2 0))), (0, (numE (-1)))])) (seqS (exS (csE fJ7_fill_53178 [(2, (getE 6 3 2 (locE 2 0))), (0, (numE (-1)))])) (seqS (exS (csE fJ7_fill_53178 [(2, (getE 6 4 2 (locE 2 0))), (0, (numE 0))])) (exS (csE fJ7_fill_53178 [(2, (getE 6 5 2 (locE 2 0))), (0, (numE 0))]))))))) retV)
noncomputable def fX6_reset : Fn := runB 1 bX6_reset
theorem sX6_reset (Γ : Cx) : SO (cX6_reset, yX6_reset.cls, 2, 1, none) Γ 0 0 [] bX6_reset :=
  (S_seq (p1 := 42) (S_seq (p1 := 5) (S_putf fp_X6_30 (E_aload_n dX6_reset_0 rfl) (E_iconst dX6_reset_1 (by decide)) dX6_reset_2)
  (S_seq (p1 := 10) (S_putf fp_X6_34 (E_aload_n dX6_reset_5 rfl) (E_iconst dX6_reset_6 (by decide)) dX6_reset_7)
  (S_seq (p1 := 18) (S_callS mJ7_fill_53178 cs_X6_24 (A_cons2 (E_getf fl_X6_9 (E_aload_n dX6_reset_10 rfl) dX6_reset_11) (A_cons0 (E_iconst dX6_reset_14 (by decide)) A_nil)) dX6_reset_15 (by decide) rfl)
  (S_seq (p1 := 26) (S_callS mJ7_fill_53178 cs_X6_24 (A_cons2 (E_getf fl_X6_15 (E_aload_n dX6_reset_18 rfl) dX6_reset_19) (A_cons0 (E_iconst dX6_reset_22 (by decide)) A_nil)) dX6_reset_23 (by decide) rfl)
  (S_seq (p1 := 34) (S_callS mJ7_fill_53178 cs_X6_24 (A_cons2 (E_getf fl_X6_18 (E_aload_n dX6_reset_26 rfl) dX6_reset_27) (A_cons0 (E_iconst dX6_reset_30 (by decide)) A_nil)) dX6_reset_31 (by decide) rfl)
  (S_callS mJ7_fill_53178 cs_X6_24 (A_cons2 (E_getf fl_X6_21 (E_aload_n dX6_reset_34 rfl) dX6_reset_35) (A_cons0 (E_iconst dX6_reset_38 (by decide)) A_nil)) dX6_reset_39 (by decide) rfl)))))) (S_retv rfl dX6_reset_42))
theorem mX6_reset : MO yX6_reset cX6_reset 1 none 2 fX6_reset := MO_of (by decide) (fun Γ => sX6_reset Γ)
noncomputable def bX4_addNumber : Sx := (seqS (ifS (cmpC 2 (getE 4 2 0 (locE 2 0)) (numE 1000)) (seqS (astS 100 (getE 4 0 2 (locE 2 0)) (getE 4 2 0 (locE 2 0)) (locE 0 1)) (fopS 4 2 (fun x y => w32 (x + y)) (locE 2 0) (numE 1))) skipS) retV)
noncomputable def fX4_addNumber : Fn := runB 2 bX4_addNumber
theorem sX4_addNumber (Γ : Cx) : SO (cX4_addNumber, yX4_addNumber.cls, 1, 2, none) Γ 0 0 [] bX4_addNumber :=
  (S_seq (p1 := 30) (S_if (p1 := 10) (p2 := 30) (q := 30) (C_icmp_ge_n (E_getf fl_X4_18 (E_aload_n dX4_addNumber_0 rfl) dX4_addNumber_1) (E_sipush dX4_addNumber_4 (by decide)) dX4_addNumber_7 rfl) (S_seq (p1 := 20) (S_iast (E_getf fl_X4_9 (E_aload_n dX4_addNumber_10 rfl) dX4_addNumber_11) (E_getf fl_X4_18 (E_aload_n dX4_addNumber_14 rfl) dX4_addNumber_15) (E_iload_n dX4_addNumber_18 rfl) dX4_addNumber_19)
  (S_fop_iadd fl_X4_18 fp_X4_18 (E_aload_n dX4_addNumber_20 rfl) dX4_addNumber_21 dX4_addNumber_22 (E_iconst dX4_addNumber_25 (by decide)) dX4_addNumber_26 dX4_addNumber_27)) S_skip) (S_retv rfl dX4_addNumber_30))
theorem mX4_addNumber : MO yX4_addNumber cX4_addNumber 2 none 1 fX4_addNumber := MO_of (by decide) (fun Γ => sX4_addNumber Γ)
noncomputable def bX4_addToken : Sx := (seqS (exS (cvE 4 fX4_addNumber [(2, (locE 2 0)), (0, (binE (fun x y => w32 (x - y)) (numE (-1)) (locE 0 1)))])) retV)
noncomputable def fX4_addToken : Fn := runB 2 bX4_addToken
theorem sX4_addToken (Γ : Cx) : SO (cX4_addToken, yX4_addToken.cls, 2, 2, none) Γ 0 0 [] bX4_addToken :=
  (S_seq (p1 := 7) (S_callV mX4_addNumber cv_X4_26 (A_cons2 (E_aload_n dX4_addToken_0 rfl) (A_cons0 (E_isub (E_iconst dX4_addToken_1 (by decide)) (E_iload_n dX4_addToken_2 rfl) dX4_addToken_3) A_nil)) dX4_addToken_4 (by decide) rfl) (S_retv rfl dX4_addToken_7))
theorem mX4_addToken : MO yX4_addToken cX4_addToken 2 none 2 fX4_addToken := MO_of (by decide) (fun Γ => sX4_addToken Γ)
noncomputable def bX4_beFact : Sx := (seqS (seqS (putS 4 2 0 .int (locE 2 0) (numE 0)) (seqS (putS 4 3 0 .boolean (locE 2 0) (numE 0)) (exS (cvE 4 fX4_addToken [(2, (locE 2 0)), (0, (locE 0 1))])))) retV)
noncomputable def fX4_beFact : Fn := runB 2 bX4_beFact
theorem sX4_beFact (Γ : Cx) : SO (cX4_beFact, yX4_beFact.cls, 3, 2, none) Γ 0 0 [] bX4_beFact :=
  (S_seq (p1 := 15) (S_seq (p1 := 5) (S_putf fp_X4_18 (E_aload_n dX4_beFact_0 rfl) (E_iconst dX4_beFact_1 (by decide)) dX4_beFact_2)
  (S_seq (p1 := 10) (S_putf fp_X4_22 (E_aload_n dX4_beFact_5 rfl) (E_iconst dX4_beFact_6 (by decide)) dX4_beFact_7)
  (S_callV mX4_addToken cv_X4_30 (A_cons2 (E_aload_n dX4_beFact_10 rfl) (A_cons0 (E_iload_n dX4_beFact_11 rfl) A_nil)) dX4_beFact_12 (by decide) rfl))) (S_retv rfl dX4_beFact_15))
theorem mX4_beFact : MO yX4_beFact cX4_beFact 2 none 3 fX4_beFact := MO_of (by decide) (fun Γ => sX4_beFact Γ)
noncomputable def bX1_reset : Sx := (seqS (seqS (putS 1 0 0 .int (locE 2 0) (numE 12)) (seqS (putS 1 1 0 .int (locE 2 0) (numE 0)) (seqS (putS 1 2 0 .int (locE 2 0) (numE 0)) (seqS (putS 1 3 0 .int (locE 2 0) (numE 0)) (seqS (exS (csE fJ7_fill_53178 [(2, (getE 1 6 2 (locE 2 0))), (0, (numE 0))])) (seqS (exS (cvE 4 fX4_beFact [(2, (getE 1 9 2 (locE 2 0))), (0, (numE 18))])) (exS (cvE 4 fX4_beFact [(2, (getE 1 10 2 (locE 2 0))), (0, (numE 6))])))))))) retV)
noncomputable def fX1_reset : Fn := runB 1 bX1_reset
theorem sX1_reset (Γ : Cx) : SO (cX1_reset, yX1_reset.cls, 4, 1, none) Γ 0 0 [] bX1_reset :=
  (S_seq (p1 := 47) (S_seq (p1 := 6) (S_putf fp_X1_9 (E_aload_n dX1_reset_0 rfl) (E_bipush dX1_reset_1 (by decide)) dX1_reset_3)
  (S_seq (p1 := 11) (S_putf fp_X1_45 (E_aload_n dX1_reset_6 rfl) (E_iconst dX1_reset_7 (by decide)) dX1_reset_8)
  (S_seq (p1 := 16) (S_putf fp_X1_48 (E_aload_n dX1_reset_11 rfl) (E_iconst dX1_reset_12 (by decide)) dX1_reset_13)
  (S_seq (p1 := 21) (S_putf fp_X1_51 (E_aload_n dX1_reset_16 rfl) (E_iconst dX1_reset_17 (by decide)) dX1_reset_18)
  (S_seq (p1 := 29) (S_callS mJ7_fill_53178 cs_X1_54 (A_cons2 (E_getf fl_X1_22 (E_aload_n dX1_reset_21 rfl) dX1_reset_22) (A_cons0 (E_iconst dX1_reset_25 (by decide)) A_nil)) dX1_reset_26 (by decide) rfl)
  (S_seq (p1 := 38) (S_callV mX4_beFact cv_X1_41 (A_cons2 (E_getf fl_X1_34 (E_aload_n dX1_reset_29 rfl) dX1_reset_30) (A_cons0 (E_bipush dX1_reset_33 (by decide)) A_nil)) dX1_reset_35 (by decide) rfl)
  (S_callV mX4_beFact cv_X1_41 (A_cons2 (E_getf fl_X1_38 (E_aload_n dX1_reset_38 rfl) dX1_reset_39) (A_cons0 (E_bipush dX1_reset_42 (by decide)) A_nil)) dX1_reset_44 (by decide) rfl))))))) (S_retv rfl dX1_reset_47))
theorem mX1_reset : MO yX1_reset cX1_reset 1 none 4 fX1_reset := MO_of (by decide) (fun Γ => sX1_reset Γ)
noncomputable def bX8_wrong : Sx := (seqS (putS 8 5 0 .int (locE 2 0) (binE (fun x y => w32 (x + y)) (locE 0 1) (binE (fun x y => w32 (x * y)) (numE 16) (getE 10 3 0 (getE 8 0 2 (locE 2 0)))))) (retZ (numE 0)))
noncomputable def fX8_wrong : Fn := runB 2 bX8_wrong
theorem sX8_wrong (Γ : Cx) : SO (cX8_wrong, yX8_wrong.cls, 1, 2, (some .boolean)) Γ 0 0 [] bX8_wrong :=
  (S_seq (p1 := 16) (S_putf fp_X8_38 (E_aload_n dX8_wrong_0 rfl) (E_iadd (E_iload_n dX8_wrong_1 rfl) (E_imul (E_bipush dX8_wrong_2 (by decide)) (E_getf fl_X8_81 (E_getf fl_X8_18 (E_aload_n dX8_wrong_4 rfl) dX8_wrong_5) dX8_wrong_8) dX8_wrong_11) dX8_wrong_12) dX8_wrong_13)
  (S_retz rfl (E_iconst dX8_wrong_16 (by decide)) dX8_wrong_17))
theorem mX8_wrong : MO yX8_wrong cX8_wrong 2 (some .boolean) 1 fX8_wrong := MO_of (by decide) (fun Γ => sX8_wrong Γ)
noncomputable def bX8_passed : Sx := (seqS (ifS (cmpC 1 (getE 10 2 0 (getE 8 0 2 (locE 2 0))) (locE 0 1)) (retZ (cvE 8 fX8_wrong [(2, (locE 2 0)), (0, (numE 1))])) skipS) (seqS (exS (cvE 10 fX10_next [(2, (getE 8 0 2 (locE 2 0)))])) (retZ (numE 1))))
noncomputable def fX8_passed : Fn := runB 2 bX8_passed
theorem sX8_passed (Γ : Cx) : SO (cX8_passed, yX8_passed.cls, 9, 2, (some .boolean)) Γ 0 0 [] bX8_passed :=
  (S_seq (p1 := 17) (S_if (p1 := 11) (p2 := 17) (q := 17) (C_icmp_eq_n (E_getf fl_X8_51 (E_getf fl_X8_18 (E_aload_n dX8_passed_0 rfl) dX8_passed_1) dX8_passed_4) (E_iload_n dX8_passed_7 rfl) dX8_passed_8 rfl) (S_retz rfl (E_callV mX8_wrong cv_X8_74 (A_cons2 (E_aload_n dX8_passed_11 rfl) (A_cons0 (E_iconst dX8_passed_12 (by decide)) A_nil)) dX8_passed_13 (by decide) ⟨by decide, by decide⟩ rfl (by decide)) dX8_passed_16) S_skip)
  (S_seq (p1 := 24) (S_callV mX10_next cv_X8_84 (A_cons2 (E_getf fl_X8_18 (E_aload_n dX8_passed_17 rfl) dX8_passed_18) A_nil) dX8_passed_21 (by decide) rfl)
  (S_retz rfl (E_iconst dX8_passed_24 (by decide)) dX8_passed_25)))
theorem mX8_passed : MO yX8_passed cX8_passed 2 (some .boolean) 9 fX8_passed := MO_of (by decide) (fun Γ => sX8_passed Γ)
noncomputable def kX8_beastNamed_0c : Cn := (cmpC 2 (locE 0 3) (getE 1 1 0 (getE 8 3 2 (locE 2 0))))
noncomputable def kX8_beastNamed_0b : Sx := (ifS (cmpC 0 (aldE 101 (getE 8 1 2 (locE 2 0)) (locE 0 3)) (locE 1 1)) (retS (locE 0 3)) skipS)
noncomputable def kX8_beastNamed_0u : Sx := (incS 3 1)
noncomputable def kX8_beastNamed_0 : Sx := loopS 2 3 kX8_beastNamed_0c kX8_beastNamed_0b kX8_beastNamed_0u
noncomputable def bX8_beastNamed : Sx := (seqS (seqS (stS 3 0 (numE 0)) kX8_beastNamed_0) (retS (numE (-1))))
noncomputable def fX8_beastNamed : Fn := runB 4 bX8_beastNamed
theorem sX8_beastNamed (Γ : Cx) : SO (cX8_beastNamed, yX8_beastNamed.cls, 1, 4, (some .int)) Γ 0 0 [] bX8_beastNamed :=
  (S_seq (p1 := 32) (S_seq (p1 := 2) (S_istore_n (E_iconst dX8_beastNamed_0 (by decide)) dX8_beastNamed_1 rfl) (S_loop (p1 := 13) (p2 := 32) (p3 := 26) (kb := 2) (kc := 3) (by decide) (by decide) (by decide) (C_icmp_ge_n (E_iload_n dX8_beastNamed_2 rfl) (E_getf fl_X8_104 (E_getf fl_X8_22 (E_aload_n dX8_beastNamed_3 rfl) dX8_beastNamed_4) dX8_beastNamed_7) dX8_beastNamed_10 rfl)
  (S_if (p1 := 24) (p2 := 26) (q := 26) (C_lcmp_ne_n (E_lald (E_getf fl_X8_9 (E_aload_n dX8_beastNamed_13 rfl) dX8_beastNamed_14) (E_iload_n dX8_beastNamed_17 rfl) dX8_beastNamed_18) (E_lload_n dX8_beastNamed_19 rfl) dX8_beastNamed_20 dX8_beastNamed_21 rfl) (S_reti rfl (E_iload_n dX8_beastNamed_24 rfl) dX8_beastNamed_25) S_skip)
  (S_thru (S_iinc dX8_beastNamed_26) dX8_beastNamed_29 rfl)))
  (S_reti rfl (E_iconst dX8_beastNamed_32 (by decide)) dX8_beastNamed_33))
theorem mX8_beastNamed : MO yX8_beastNamed cX8_beastNamed 4 (some .int) 1 fX8_beastNamed := MO_of (by decide) (fun Γ => sX8_beastNamed Γ)
noncomputable def bX8_isName : Sx := (retZ (boolE (orC (andC (cmpC 3 (getE 10 2 0 (getE 8 0 2 (locE 2 0))) (numE 18)) (cmpC 5 (getE 10 2 0 (getE 8 0 2 (locE 2 0))) (numE 24))) (zC 1 (cvE 8 fX8_wrong [(2, (locE 2 0)), (0, (numE 1))])))))
noncomputable def fX8_isName : Fn := runB 1 bX8_isName
theorem sX8_isName (Γ : Cx) : SO (cX8_isName, yX8_isName.cls, 2, 1, (some .boolean)) Γ 0 0 [] bX8_isName :=
  (S_retz rfl (E_bool (p1 := 32) (p2 := 36) (C_or (p1 := 24) (C_and (p1 := 12) (C_icmp_lt_n (E_getf fl_X8_51 (E_getf fl_X8_18 (E_aload_n dX8_isName_0 rfl) dX8_isName_1) dX8_isName_4) (E_bipush dX8_isName_7 (by decide)) dX8_isName_9 rfl) (C_icmp_le (E_getf fl_X8_51 (E_getf fl_X8_18 (E_aload_n dX8_isName_12 rfl) dX8_isName_13) dX8_isName_16) (E_bipush dX8_isName_19 (by decide)) dX8_isName_21 rfl)) (C_if_eq_n (E_callV mX8_wrong cv_X8_74 (A_cons2 (E_aload_n dX8_isName_24 rfl) (A_cons0 (E_iconst dX8_isName_25 (by decide)) A_nil)) dX8_isName_26 (by decide) ⟨by decide, by decide⟩ rfl (by decide)) dX8_isName_29 rfl)) dX8_isName_32 dX8_isName_33 dX8_isName_36 rfl) dX8_isName_37)
theorem mX8_isName : MO yX8_isName cX8_isName 1 (some .boolean) 2 fX8_isName := MO_of (by decide) (fun Γ => sX8_isName Γ)
noncomputable def kX8_isNewName_0c : Cn := (cmpC 2 (locE 0 2) (getE 1 3 0 (getE 8 3 2 (locE 2 0))))
noncomputable def kX8_isNewName_0b : Sx := (stS 1 0 (boolE (orC (zC 1 (locE 0 1)) (cmpC 0 (aldE 101 (getE 8 2 2 (locE 2 0)) (locE 0 2)) (getE 10 5 1 (getE 8 0 2 (locE 2 0)))))))
noncomputable def kX8_isNewName_0u : Sx := (incS 2 1)
noncomputable def kX8_isNewName_0 : Sx := loopS 2 3 kX8_isNewName_0c kX8_isNewName_0b kX8_isNewName_0u
noncomputable def bX8_isNewName : Sx := (seqS (ifS (notC (zC 1 (cvE 8 fX8_isName [(2, (locE 2 0))]))) (retZ (numE 0)) skipS) (seqS (stS 1 0 (boolE (cmpC 1 (cvE 8 fX8_beastNamed [(2, (locE 2 0)), (1, (getE 10 5 1 (getE 8 0 2 (locE 2 0))))]) (numE (-1))))) (seqS (seqS (stS 2 0 (numE 0)) kX8_isNewName_0) (retZ (boolE (orC (notC (zC 1 (locE 0 1))) (zC 1 (cvE 8 fX8_wrong [(2, (locE 2 0)), (0, (numE 3))]))))))))
noncomputable def fX8_isNewName : Fn := runB 3 bX8_isNewName
theorem sX8_isNewName (Γ : Cx) : SO (cX8_isNewName, yX8_isNewName.cls, 3, 3, (some .boolean)) Γ 0 0 [] bX8_isNewName :=
  (S_seq (p1 := 9) (S_if (p1 := 7) (p2 := 9) (q := 9) (C_not (C_if_ne (E_callV mX8_isName cv_X8_90 (A_cons2 (E_aload_n dX8_isNewName_0 rfl) A_nil) dX8_isNewName_1 (by decide) ⟨by decide, by decide⟩ rfl (by decide)) dX8_isNewName_4 rfl)) (S_retz rfl (E_iconst dX8_isNewName_7 (by decide)) dX8_isNewName_8) S_skip)
  (S_seq (p1 := 30) (S_istore_n (E_bool (p1 := 24) (p2 := 28) (C_icmp_eq_n (E_callV mX8_beastNamed cv_X8_97 (A_cons2 (E_aload_n dX8_isNewName_9 rfl) (A_cons1 (E_getf fl_X8_93 (E_getf fl_X8_18 (E_aload_n dX8_isNewName_10 rfl) dX8_isNewName_11) dX8_isNewName_14) A_nil)) dX8_isNewName_17 (by decide) ⟨by decide, by decide⟩ rfl (by decide)) (E_iconst dX8_isNewName_20 (by decide)) dX8_isNewName_21 rfl) dX8_isNewName_24 dX8_isNewName_25 dX8_isNewName_28 rfl) dX8_isNewName_29 rfl)
  (S_seq (p1 := 76) (S_seq (p1 := 32) (S_istore_n (E_iconst dX8_isNewName_30 (by decide)) dX8_isNewName_31 rfl) (S_loop (p1 := 43) (p2 := 76) (p3 := 70) (kb := 2) (kc := 3) (by decide) (by decide) (by decide) (C_icmp_ge_n (E_iload_n dX8_isNewName_32 rfl) (E_getf fl_X8_101 (E_getf fl_X8_22 (E_aload_n dX8_isNewName_33 rfl) dX8_isNewName_34) dX8_isNewName_37) dX8_isNewName_40 rfl)
  (S_istore_n (E_bool (p1 := 64) (p2 := 68) (C_or (p1 := 47) (C_if_ne (E_iload_n dX8_isNewName_43 rfl) dX8_isNewName_44 rfl) (C_lcmp_ne_n (E_lald (E_getf fl_X8_15 (E_aload_n dX8_isNewName_47 rfl) dX8_isNewName_48) (E_iload_n dX8_isNewName_51 rfl) dX8_isNewName_52) (E_getf fl_X8_93 (E_getf fl_X8_18 (E_aload_n dX8_isNewName_53 rfl) dX8_isNewName_54) dX8_isNewName_57) dX8_isNewName_60 dX8_isNewName_61 rfl)) dX8_isNewName_64 dX8_isNewName_65 dX8_isNewName_68 rfl) dX8_isNewName_69 rfl)
  (S_thru (S_iinc dX8_isNewName_70) dX8_isNewName_73 rfl)))
  (S_retz rfl (E_bool (p1 := 88) (p2 := 92) (C_or (p1 := 80) (C_not (C_if_eq_n (E_iload_n dX8_isNewName_76 rfl) dX8_isNewName_77 rfl)) (C_if_eq_n (E_callV mX8_wrong cv_X8_74 (A_cons2 (E_aload_n dX8_isNewName_80 rfl) (A_cons0 (E_iconst dX8_isNewName_81 (by decide)) A_nil)) dX8_isNewName_82 (by decide) ⟨by decide, by decide⟩ rfl (by decide)) dX8_isNewName_85 rfl)) dX8_isNewName_88 dX8_isNewName_89 dX8_isNewName_92 rfl) dX8_isNewName_93))))
theorem mX8_isNewName : MO yX8_isNewName cX8_isNewName 3 (some .boolean) 3 fX8_isNewName := MO_of (by decide) (fun Γ => sX8_isNewName Γ)
