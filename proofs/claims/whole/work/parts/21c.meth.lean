noncomputable def bX8_isNumber : Sx := (seqS (ifS (cmpC 1 (getE 10 2 0 (getE 8 0 2 (locE 2 0))) (numE 25)) (retZ (cvE 8 fX8_wrong [(2, (locE 2 0)), (0, (numE 1))])) skipS) (retZ (boolE (orC (andC (cmpC 3 (getE 10 4 0 (getE 8 0 2 (locE 2 0))) (locE 0 1)) (cmpC 5 (getE 10 4 0 (getE 8 0 2 (locE 2 0))) (locE 0 2))) (zC 1 (cvE 8 fX8_wrong [(2, (locE 2 0)), (0, (numE 4))]))))))
noncomputable def fX8_isNumber : Fn := runB 3 bX8_isNumber
theorem sX8_isNumber (Γ : Cx) : SO (cX8_isNumber, yX8_isNumber.cls, 2, 3, (some .boolean)) Γ 0 0 [] bX8_isNumber :=
  (S_seq (p1 := 18) (S_if (p1 := 12) (p2 := 18) (q := 18) (C_icmp_eq_n (E_getf fl_X8_51 (E_getf fl_X8_18 (E_aload_n dX8_isNumber_0 rfl) dX8_isNumber_1) dX8_isNumber_4) (E_bipush dX8_isNumber_7 (by decide)) dX8_isNumber_9 rfl) (S_retz rfl (E_callV mX8_wrong cv_X8_74 (A_cons2 (E_aload_n dX8_isNumber_12 rfl) (A_cons0 (E_iconst dX8_isNumber_13 (by decide)) A_nil)) dX8_isNumber_14 (by decide) ⟨by decide, by decide⟩ rfl (by decide)) dX8_isNumber_17) S_skip)
  (S_retz rfl (E_bool (p1 := 48) (p2 := 52) (C_or (p1 := 40) (C_and (p1 := 29) (C_icmp_lt_n (E_getf fl_X8_87 (E_getf fl_X8_18 (E_aload_n dX8_isNumber_18 rfl) dX8_isNumber_19) dX8_isNumber_22) (E_iload_n dX8_isNumber_25 rfl) dX8_isNumber_26 rfl) (C_icmp_le (E_getf fl_X8_87 (E_getf fl_X8_18 (E_aload_n dX8_isNumber_29 rfl) dX8_isNumber_30) dX8_isNumber_33) (E_iload_n dX8_isNumber_36 rfl) dX8_isNumber_37 rfl)) (C_if_eq_n (E_callV mX8_wrong cv_X8_74 (A_cons2 (E_aload_n dX8_isNumber_40 rfl) (A_cons0 (E_iconst dX8_isNumber_41 (by decide)) A_nil)) dX8_isNumber_42 (by decide) ⟨by decide, by decide⟩ rfl (by decide)) dX8_isNumber_45 rfl)) dX8_isNumber_48 dX8_isNumber_49 dX8_isNumber_52 rfl) dX8_isNumber_53))
theorem mX8_isNumber : MO yX8_isNumber cX8_isNumber 3 (some .boolean) 2 fX8_isNumber := MO_of (by decide) (fun Γ => sX8_isNumber Γ)
noncomputable def bX8_readBeast : Sx := (seqS (stS 1 0 (getE 1 1 0 (getE 8 3 2 (locE 2 0)))) (seqS (ifS (orC (cmpC 3 (locE 0 1) (numE 12)) (cmpC 3 (locE 0 1) (getE 1 0 0 (getE 8 3 2 (locE 2 0))))) (retZ (cvE 8 fX8_wrong [(2, (locE 2 0)), (0, (numE 5))])) skipS) (seqS (exS (cvE 10 fX10_next [(2, (getE 8 0 2 (locE 2 0)))])) (seqS (ifS (notC (zC 1 (cvE 8 fX8_isNewName [(2, (locE 2 0))]))) (retZ (numE 0)) skipS) (seqS (astS 101 (getE 8 1 2 (locE 2 0)) (locE 0 1) (getE 10 5 1 (getE 8 0 2 (locE 2 0)))) (seqS (exS (cvE 10 fX10_next [(2, (getE 8 0 2 (locE 2 0)))])) (seqS (ifS (orC (cmpC 2 (getE 10 2 0 (getE 8 0 2 (locE 2 0))) (numE 9)) (cmpC 4 (getE 10 2 0 (getE 8 0 2 (locE 2 0))) (numE 14))) (retZ (cvE 8 fX8_wrong [(2, (locE 2 0)), (0, (numE 1))])) skipS) (seqS (astS 100 (getE 1 4 2 (getE 8 3 2 (locE 2 0))) (locE 0 1) (binE (fun x y => w32 (x - y)) (getE 10 2 0 (getE 8 0 2 (locE 2 0))) (numE 9))) (seqS (exS (cvE 10 fX10_next [(2, (getE 8 0 2 (locE 2 0)))])) (seqS (ifS (orC (notC (zC 1 (cvE 8 fX8_passed [(2, (locE 2 0)), (0, (numE 2))]))) (notC (zC 1 (cvE 8 fX8_isNumber [(2, (locE 2 0)), (0, (numE 0)), (0, (numE 9))])))) (retZ (numE 0)) skipS) (seqS (astS 100 (getE 1 5 2 (getE 8 3 2 (locE 2 0))) (locE 0 1) (getE 10 4 0 (getE 8 0 2 (locE 2 0)))) (seqS (putS 1 1 0 .int (getE 8 3 2 (locE 2 0)) (binE (fun x y => w32 (x + y)) (locE 0 1) (numE 1))) (seqS (exS (cvE 10 fX10_next [(2, (getE 8 0 2 (locE 2 0)))])) (retZ (numE 1)))))))))))))))
noncomputable def fX8_readBeast : Fn := runB 2 bX8_readBeast
theorem sX8_readBeast (Γ : Cx) : SO (cX8_readBeast, yX8_readBeast.cls, 10, 2, (some .boolean)) Γ 0 0 [] bX8_readBeast :=
  (S_seq (p1 := 8) (S_istore_n (E_getf fl_X8_104 (E_getf fl_X8_22 (E_aload_n dX8_readBeast_0 rfl) dX8_readBeast_1) dX8_readBeast_4) dX8_readBeast_7 rfl)
  (S_seq (p1 := 31) (S_if (p1 := 25) (p2 := 31) (q := 31) (C_or (p1 := 14) (C_icmp_ge (E_iload_n dX8_readBeast_8 rfl) (E_bipush dX8_readBeast_9 (by decide)) dX8_readBeast_11 rfl) (C_icmp_lt_n (E_iload_n dX8_readBeast_14 rfl) (E_getf fl_X8_111 (E_getf fl_X8_22 (E_aload_n dX8_readBeast_15 rfl) dX8_readBeast_16) dX8_readBeast_19) dX8_readBeast_22 rfl)) (S_retz rfl (E_callV mX8_wrong cv_X8_74 (A_cons2 (E_aload_n dX8_readBeast_25 rfl) (A_cons0 (E_iconst dX8_readBeast_26 (by decide)) A_nil)) dX8_readBeast_27 (by decide) ⟨by decide, by decide⟩ rfl (by decide)) dX8_readBeast_30) S_skip)
  (S_seq (p1 := 38) (S_callV mX10_next cv_X8_84 (A_cons2 (E_getf fl_X8_18 (E_aload_n dX8_readBeast_31 rfl) dX8_readBeast_32) A_nil) dX8_readBeast_35 (by decide) rfl)
  (S_seq (p1 := 47) (S_if (p1 := 45) (p2 := 47) (q := 47) (C_not (C_if_ne (E_callV mX8_isNewName cv_X8_114 (A_cons2 (E_aload_n dX8_readBeast_38 rfl) A_nil) dX8_readBeast_39 (by decide) ⟨by decide, by decide⟩ rfl (by decide)) dX8_readBeast_42 rfl)) (S_retz rfl (E_iconst dX8_readBeast_45 (by decide)) dX8_readBeast_46) S_skip)
  (S_seq (p1 := 60) (S_last (E_getf fl_X8_9 (E_aload_n dX8_readBeast_47 rfl) dX8_readBeast_48) (E_iload_n dX8_readBeast_51 rfl) (E_getf fl_X8_93 (E_getf fl_X8_18 (E_aload_n dX8_readBeast_52 rfl) dX8_readBeast_53) dX8_readBeast_56) dX8_readBeast_59)
  (S_seq (p1 := 67) (S_callV mX10_next cv_X8_84 (A_cons2 (E_getf fl_X8_18 (E_aload_n dX8_readBeast_60 rfl) dX8_readBeast_61) A_nil) dX8_readBeast_64 (by decide) rfl)
  (S_seq (p1 := 97) (S_if (p1 := 91) (p2 := 97) (q := 97) (C_or (p1 := 79) (C_icmp_lt (E_getf fl_X8_51 (E_getf fl_X8_18 (E_aload_n dX8_readBeast_67 rfl) dX8_readBeast_68) dX8_readBeast_71) (E_bipush dX8_readBeast_74 (by decide)) dX8_readBeast_76 rfl) (C_icmp_le_n (E_getf fl_X8_51 (E_getf fl_X8_18 (E_aload_n dX8_readBeast_79 rfl) dX8_readBeast_80) dX8_readBeast_83) (E_bipush dX8_readBeast_86 (by decide)) dX8_readBeast_88 rfl)) (S_retz rfl (E_callV mX8_wrong cv_X8_74 (A_cons2 (E_aload_n dX8_readBeast_91 rfl) (A_cons0 (E_iconst dX8_readBeast_92 (by decide)) A_nil)) dX8_readBeast_93 (by decide) ⟨by decide, by decide⟩ rfl (by decide)) dX8_readBeast_96) S_skip)
  (S_seq (p1 := 116) (S_iast (E_getf fl_X8_117 (E_getf fl_X8_22 (E_aload_n dX8_readBeast_97 rfl) dX8_readBeast_98) dX8_readBeast_101) (E_iload_n dX8_readBeast_104 rfl) (E_isub (E_getf fl_X8_51 (E_getf fl_X8_18 (E_aload_n dX8_readBeast_105 rfl) dX8_readBeast_106) dX8_readBeast_109) (E_bipush dX8_readBeast_112 (by decide)) dX8_readBeast_114) dX8_readBeast_115)
  (S_seq (p1 := 123) (S_callV mX10_next cv_X8_84 (A_cons2 (E_getf fl_X8_18 (E_aload_n dX8_readBeast_116 rfl) dX8_readBeast_117) A_nil) dX8_readBeast_120 (by decide) rfl)
  (S_seq (p1 := 143) (S_if (p1 := 141) (p2 := 143) (q := 143) (C_or (p1 := 131) (C_not (C_if_eq_n (E_callV mX8_passed cv_X8_78 (A_cons2 (E_aload_n dX8_readBeast_123 rfl) (A_cons0 (E_iconst dX8_readBeast_124 (by decide)) A_nil)) dX8_readBeast_125 (by decide) ⟨by decide, by decide⟩ rfl (by decide)) dX8_readBeast_128 rfl)) (C_not (C_if_ne (E_callV mX8_isNumber cv_X8_107 (A_cons2 (E_aload_n dX8_readBeast_131 rfl) (A_cons0 (E_iconst dX8_readBeast_132 (by decide)) (A_cons0 (E_bipush dX8_readBeast_133 (by decide)) A_nil))) dX8_readBeast_135 (by decide) ⟨by decide, by decide⟩ rfl (by decide)) dX8_readBeast_138 rfl))) (S_retz rfl (E_iconst dX8_readBeast_141 (by decide)) dX8_readBeast_142) S_skip)
  (S_seq (p1 := 159) (S_iast (E_getf fl_X8_121 (E_getf fl_X8_22 (E_aload_n dX8_readBeast_143 rfl) dX8_readBeast_144) dX8_readBeast_147) (E_iload_n dX8_readBeast_150 rfl) (E_getf fl_X8_87 (E_getf fl_X8_18 (E_aload_n dX8_readBeast_151 rfl) dX8_readBeast_152) dX8_readBeast_155) dX8_readBeast_158)
  (S_seq (p1 := 169) (S_putf fp_X8_104 (E_getf fl_X8_22 (E_aload_n dX8_readBeast_159 rfl) dX8_readBeast_160) (E_iadd (E_iload_n dX8_readBeast_163 rfl) (E_iconst dX8_readBeast_164 (by decide)) dX8_readBeast_165) dX8_readBeast_166)
  (S_seq (p1 := 176) (S_callV mX10_next cv_X8_84 (A_cons2 (E_getf fl_X8_18 (E_aload_n dX8_readBeast_169 rfl) dX8_readBeast_170) A_nil) dX8_readBeast_173 (by decide) rfl)
  (S_retz rfl (E_iconst dX8_readBeast_176 (by decide)) dX8_readBeast_177))))))))))))))
theorem mX8_readBeast : MO yX8_readBeast cX8_readBeast 2 (some .boolean) 10 fX8_readBeast := MO_of (by decide) (fun Γ => sX8_readBeast Γ)
noncomputable def bX8_readField : Sx := (seqS (ifS (zC 1 (getE 8 6 0 (locE 2 0))) (retZ (cvE 8 fX8_wrong [(2, (locE 2 0)), (0, (numE 3))])) skipS) (seqS (exS (cvE 10 fX10_next [(2, (getE 8 0 2 (locE 2 0)))])) (seqS (ifS (notC (zC 1 (cvE 8 fX8_isNumber [(2, (locE 2 0)), (0, (numE 1)), (0, (numE 16))]))) (retZ (numE 0)) skipS) (seqS (ifS (cmpC 4 (getE 1 1 0 (getE 8 3 2 (locE 2 0))) (getE 10 4 0 (getE 8 0 2 (locE 2 0)))) (retZ (cvE 8 fX8_wrong [(2, (locE 2 0)), (0, (numE 5))])) skipS) (seqS (putS 8 6 0 .boolean (locE 2 0) (numE 1)) (seqS (putS 1 0 0 .int (getE 8 3 2 (locE 2 0)) (getE 10 4 0 (getE 8 0 2 (locE 2 0)))) (seqS (exS (cvE 10 fX10_next [(2, (getE 8 0 2 (locE 2 0)))])) (retZ (numE 1)))))))))
noncomputable def fX8_readField : Fn := runB 1 bX8_readField
theorem sX8_readField (Γ : Cx) : SO (cX8_readField, yX8_readField.cls, 9, 1, (some .boolean)) Γ 0 0 [] bX8_readField :=
  (S_seq (p1 := 13) (S_if (p1 := 7) (p2 := 13) (q := 13) (C_if_eq_n (E_getf fl_X8_42 (E_aload_n dX8_readField_0 rfl) dX8_readField_1) dX8_readField_4 rfl) (S_retz rfl (E_callV mX8_wrong cv_X8_74 (A_cons2 (E_aload_n dX8_readField_7 rfl) (A_cons0 (E_iconst dX8_readField_8 (by decide)) A_nil)) dX8_readField_9 (by decide) ⟨by decide, by decide⟩ rfl (by decide)) dX8_readField_12) S_skip)
  (S_seq (p1 := 20) (S_callV mX10_next cv_X8_84 (A_cons2 (E_getf fl_X8_18 (E_aload_n dX8_readField_13 rfl) dX8_readField_14) A_nil) dX8_readField_17 (by decide) rfl)
  (S_seq (p1 := 32) (S_if (p1 := 30) (p2 := 32) (q := 32) (C_not (C_if_ne (E_callV mX8_isNumber cv_X8_107 (A_cons2 (E_aload_n dX8_readField_20 rfl) (A_cons0 (E_iconst dX8_readField_21 (by decide)) (A_cons0 (E_bipush dX8_readField_22 (by decide)) A_nil))) dX8_readField_24 (by decide) ⟨by decide, by decide⟩ rfl (by decide)) dX8_readField_27 rfl)) (S_retz rfl (E_iconst dX8_readField_30 (by decide)) dX8_readField_31) S_skip)
  (S_seq (p1 := 55) (S_if (p1 := 49) (p2 := 55) (q := 55) (C_icmp_le_n (E_getf fl_X8_104 (E_getf fl_X8_22 (E_aload_n dX8_readField_32 rfl) dX8_readField_33) dX8_readField_36) (E_getf fl_X8_87 (E_getf fl_X8_18 (E_aload_n dX8_readField_39 rfl) dX8_readField_40) dX8_readField_43) dX8_readField_46 rfl) (S_retz rfl (E_callV mX8_wrong cv_X8_74 (A_cons2 (E_aload_n dX8_readField_49 rfl) (A_cons0 (E_iconst dX8_readField_50 (by decide)) A_nil)) dX8_readField_51 (by decide) ⟨by decide, by decide⟩ rfl (by decide)) dX8_readField_54) S_skip)
  (S_seq (p1 := 60) (S_putf fp_X8_42 (E_aload_n dX8_readField_55 rfl) (E_iconst dX8_readField_56 (by decide)) dX8_readField_57)
  (S_seq (p1 := 74) (S_putf fp_X8_111 (E_getf fl_X8_22 (E_aload_n dX8_readField_60 rfl) dX8_readField_61) (E_getf fl_X8_87 (E_getf fl_X8_18 (E_aload_n dX8_readField_64 rfl) dX8_readField_65) dX8_readField_68) dX8_readField_71)
  (S_seq (p1 := 81) (S_callV mX10_next cv_X8_84 (A_cons2 (E_getf fl_X8_18 (E_aload_n dX8_readField_74 rfl) dX8_readField_75) A_nil) dX8_readField_78 (by decide) rfl)
  (S_retz rfl (E_iconst dX8_readField_81 (by decide)) dX8_readField_82))))))))
theorem mX8_readField : MO yX8_readField cX8_readField 1 (some .boolean) 9 fX8_readField := MO_of (by decide) (fun Γ => sX8_readField Γ)
noncomputable def bX4_begin : Sx := (seqS (seqS (putS 4 2 0 .int (locE 2 0) (numE 0)) (putS 4 3 0 .boolean (locE 2 0) (numE 1))) retV)
noncomputable def fX4_begin : Fn := runB 1 bX4_begin
theorem sX4_begin (Γ : Cx) : SO (cX4_begin, yX4_begin.cls, 1, 1, none) Γ 0 0 [] bX4_begin :=
  (S_seq (p1 := 10) (S_seq (p1 := 5) (S_putf fp_X4_18 (E_aload_n dX4_begin_0 rfl) (E_iconst dX4_begin_1 (by decide)) dX4_begin_2)
  (S_putf fp_X4_22 (E_aload_n dX4_begin_5 rfl) (E_iconst dX4_begin_6 (by decide)) dX4_begin_7)) (S_retv rfl dX4_begin_10))
theorem mX4_begin : MO yX4_begin cX4_begin 1 none 1 fX4_begin := MO_of (by decide) (fun Γ => sX4_begin Γ)
def wX8_levelOf_1_sel : Int → Nat := fun v => if v = 16 then 0 else if v = 17 then 0 else if v = 42 then 3 else if v = 43 then 2 else if v = 45 then 2 else if v = 60 then 1 else if v = 61 then 1 else 4
def wX8_levelOf_1_pcs : Nat → Nat := fun i => match i with
  | 0 => 68
  | 1 => 70
  | 2 => 72
  | 3 => 74
  | _ => 76
theorem wX8_levelOf_1 (Γ : Cx) : SW (cX8_levelOf, yX8_levelOf.cls, 1, 1, (some .int)) Γ 1 wX8_levelOf_1_pcs wX8_levelOf_1_sel := by
  intro G env μ v k
  by_cases h16 : v = 16
  · subst h16; exact r_lsw G dX8_levelOf_1 (by decide) (by decide) k
  by_cases h17 : v = 17
  · subst h17; exact r_lsw G dX8_levelOf_1 (by decide) (by decide) k
  by_cases h42 : v = 42
  · subst h42; exact r_lsw G dX8_levelOf_1 (by decide) (by decide) k
  by_cases h43 : v = 43
  · subst h43; exact r_lsw G dX8_levelOf_1 (by decide) (by decide) k
  by_cases h45 : v = 45
  · subst h45; exact r_lsw G dX8_levelOf_1 (by decide) (by decide) k
  by_cases h60 : v = 60
  · subst h60; exact r_lsw G dX8_levelOf_1 (by decide) (by decide) k
  by_cases h61 : v = 61
  · subst h61; exact r_lsw G dX8_levelOf_1 (by decide) (by decide) k
  have hsel : wX8_levelOf_1_sel v = 4 := by simp [wX8_levelOf_1_sel, h16, h17, h42, h43, h45, h60, h61]
  rw [hsel] at k
  exact r_lsw G dX8_levelOf_1 (by decide) (by simp [Op.lookupswitch.offset, Ne.symm h16, Ne.symm h17, Ne.symm h42, Ne.symm h43, Ne.symm h45, Ne.symm h60, Ne.symm h61, wX8_levelOf_1_pcs]) k
noncomputable def bX8_levelOf : Sx := (swS 2 (locE 0 0) wX8_levelOf_1_sel (fun i => match i with | 0 => (retS (numE 0)) | 1 => (retS (numE 1)) | 2 => (retS (numE 2)) | 3 => (retS (numE 3)) | _ => (retS (numE (-1)))))
noncomputable def fX8_levelOf : Fn := runB 1 bX8_levelOf
theorem sX8_levelOf (Γ : Cx) : SO (cX8_levelOf, yX8_levelOf.cls, 1, 1, (some .int)) Γ 0 0 [] bX8_levelOf :=
  (S_switch (kb := 2) (by decide) (E_iload_n dX8_levelOf_0 rfl) (wX8_levelOf_1 Γ) (fun i => match i with
   | 0 => (S_reti rfl (E_iconst dX8_levelOf_68 (by decide)) dX8_levelOf_69)
   | 1 => (S_reti rfl (E_iconst dX8_levelOf_70 (by decide)) dX8_levelOf_71)
   | 2 => (S_reti rfl (E_iconst dX8_levelOf_72 (by decide)) dX8_levelOf_73)
   | 3 => (S_reti rfl (E_iconst dX8_levelOf_74 (by decide)) dX8_levelOf_75)
   | _+4 => (S_reti rfl (E_iconst dX8_levelOf_76 (by decide)) dX8_levelOf_77)))
theorem mX8_levelOf : MO yX8_levelOf cX8_levelOf 1 (some .int) 1 fX8_levelOf := MO_of (by decide) (fun Γ => sX8_levelOf Γ)
def wX8_isFactHere_1_sel : Int → Nat := fun v => if v = 2 then 0 else if v = 6 then 2 else if v = 7 then 2 else if v = 12 then 0 else if v = 13 then 0 else if v = 18 then 1 else if v = 19 then 1 else if v = 20 then 1 else if v = 21 then 1 else if v = 22 then 1 else if v = 23 then 2 else 3
def wX8_isFactHere_1_pcs : Nat → Nat := fun i => match i with
  | 0 => 104
  | 1 => 106
  | 2 => 126
  | _ => 146
theorem wX8_isFactHere_1 (Γ : Cx) : SW (cX8_isFactHere, yX8_isFactHere.cls, 1, 2, (some .boolean)) Γ 1 wX8_isFactHere_1_pcs wX8_isFactHere_1_sel := by
  intro G env μ v k
  by_cases h2 : v = 2
  · subst h2; exact r_tsw G dX8_isFactHere_1 (Or.inr ⟨⟨by decide, by decide⟩, _, rfl, rfl⟩) k
  by_cases h3 : v = 3
  · subst h3; exact r_tsw G dX8_isFactHere_1 (Or.inr ⟨⟨by decide, by decide⟩, _, rfl, rfl⟩) k
  by_cases h4 : v = 4
  · subst h4; exact r_tsw G dX8_isFactHere_1 (Or.inr ⟨⟨by decide, by decide⟩, _, rfl, rfl⟩) k
  by_cases h5 : v = 5
  · subst h5; exact r_tsw G dX8_isFactHere_1 (Or.inr ⟨⟨by decide, by decide⟩, _, rfl, rfl⟩) k
  by_cases h6 : v = 6
  · subst h6; exact r_tsw G dX8_isFactHere_1 (Or.inr ⟨⟨by decide, by decide⟩, _, rfl, rfl⟩) k
  by_cases h7 : v = 7
  · subst h7; exact r_tsw G dX8_isFactHere_1 (Or.inr ⟨⟨by decide, by decide⟩, _, rfl, rfl⟩) k
  by_cases h8 : v = 8
  · subst h8; exact r_tsw G dX8_isFactHere_1 (Or.inr ⟨⟨by decide, by decide⟩, _, rfl, rfl⟩) k
  by_cases h9 : v = 9
  · subst h9; exact r_tsw G dX8_isFactHere_1 (Or.inr ⟨⟨by decide, by decide⟩, _, rfl, rfl⟩) k
  by_cases h10 : v = 10
  · subst h10; exact r_tsw G dX8_isFactHere_1 (Or.inr ⟨⟨by decide, by decide⟩, _, rfl, rfl⟩) k
  by_cases h11 : v = 11
  · subst h11; exact r_tsw G dX8_isFactHere_1 (Or.inr ⟨⟨by decide, by decide⟩, _, rfl, rfl⟩) k
  by_cases h12 : v = 12
  · subst h12; exact r_tsw G dX8_isFactHere_1 (Or.inr ⟨⟨by decide, by decide⟩, _, rfl, rfl⟩) k
  by_cases h13 : v = 13
  · subst h13; exact r_tsw G dX8_isFactHere_1 (Or.inr ⟨⟨by decide, by decide⟩, _, rfl, rfl⟩) k
  by_cases h14 : v = 14
  · subst h14; exact r_tsw G dX8_isFactHere_1 (Or.inr ⟨⟨by decide, by decide⟩, _, rfl, rfl⟩) k
  by_cases h15 : v = 15
  · subst h15; exact r_tsw G dX8_isFactHere_1 (Or.inr ⟨⟨by decide, by decide⟩, _, rfl, rfl⟩) k
  by_cases h16 : v = 16
  · subst h16; exact r_tsw G dX8_isFactHere_1 (Or.inr ⟨⟨by decide, by decide⟩, _, rfl, rfl⟩) k
  by_cases h17 : v = 17
  · subst h17; exact r_tsw G dX8_isFactHere_1 (Or.inr ⟨⟨by decide, by decide⟩, _, rfl, rfl⟩) k
  by_cases h18 : v = 18
  · subst h18; exact r_tsw G dX8_isFactHere_1 (Or.inr ⟨⟨by decide, by decide⟩, _, rfl, rfl⟩) k
  by_cases h19 : v = 19
  · subst h19; exact r_tsw G dX8_isFactHere_1 (Or.inr ⟨⟨by decide, by decide⟩, _, rfl, rfl⟩) k
  by_cases h20 : v = 20
  · subst h20; exact r_tsw G dX8_isFactHere_1 (Or.inr ⟨⟨by decide, by decide⟩, _, rfl, rfl⟩) k
  by_cases h21 : v = 21
  · subst h21; exact r_tsw G dX8_isFactHere_1 (Or.inr ⟨⟨by decide, by decide⟩, _, rfl, rfl⟩) k
  by_cases h22 : v = 22
  · subst h22; exact r_tsw G dX8_isFactHere_1 (Or.inr ⟨⟨by decide, by decide⟩, _, rfl, rfl⟩) k
  by_cases h23 : v = 23
  · subst h23; exact r_tsw G dX8_isFactHere_1 (Or.inr ⟨⟨by decide, by decide⟩, _, rfl, rfl⟩) k
  have hsel : wX8_isFactHere_1_sel v = 3 := by simp [wX8_isFactHere_1_sel, h2, h3, h4, h5, h6, h7, h8, h9, h10, h11, h12, h13, h14, h15, h16, h17, h18, h19, h20, h21, h22, h23]
  rw [hsel] at k
  exact r_tsw G dX8_isFactHere_1 (Or.inl ⟨by omega, rfl⟩) k
noncomputable def bX8_isFactHere : Sx := (swS 2 (locE 0 1) wX8_isFactHere_1_sel (fun i => match i with | 0 => (retZ (numE 1)) | 1 => (retZ (boolE (cmpC 0 (getE 8 4 2 (locE 2 0)) (getE 1 9 2 (getE 8 3 2 (locE 2 0)))))) | 2 => (retZ (boolE (cmpC 0 (getE 8 4 2 (locE 2 0)) (getE 1 10 2 (getE 8 3 2 (locE 2 0)))))) | _ => (retZ (numE 0))))
noncomputable def fX8_isFactHere : Fn := runB 2 bX8_isFactHere
theorem sX8_isFactHere (Γ : Cx) : SO (cX8_isFactHere, yX8_isFactHere.cls, 1, 2, (some .boolean)) Γ 0 0 [] bX8_isFactHere :=
  (S_switch (kb := 2) (by decide) (E_iload_n dX8_isFactHere_0 rfl) (wX8_isFactHere_1 Γ) (fun i => match i with
   | 0 => (S_retz rfl (E_iconst dX8_isFactHere_104 (by decide)) dX8_isFactHere_105)
   | 1 => (S_retz rfl (E_bool (p1 := 120) (p2 := 124) (C_acmp_ne (E_getf fl_X8_32 (E_aload_n dX8_isFactHere_106 rfl) dX8_isFactHere_107) (E_getf fl_X8_26 (E_getf fl_X8_22 (E_aload_n dX8_isFactHere_110 rfl) dX8_isFactHere_111) dX8_isFactHere_114) dX8_isFactHere_117 rfl) dX8_isFactHere_120 dX8_isFactHere_121 dX8_isFactHere_124 rfl) dX8_isFactHere_125)
   | 2 => (S_retz rfl (E_bool (p1 := 140) (p2 := 144) (C_acmp_ne (E_getf fl_X8_32 (E_aload_n dX8_isFactHere_126 rfl) dX8_isFactHere_127) (E_getf fl_X8_71 (E_getf fl_X8_22 (E_aload_n dX8_isFactHere_130 rfl) dX8_isFactHere_131) dX8_isFactHere_134) dX8_isFactHere_137 rfl) dX8_isFactHere_140 dX8_isFactHere_141 dX8_isFactHere_144 rfl) dX8_isFactHere_145)
   | _+3 => (S_retz rfl (E_iconst dX8_isFactHere_146 (by decide)) dX8_isFactHere_147)))
theorem mX8_isFactHere : MO yX8_isFactHere cX8_isFactHere 2 (some .boolean) 1 fX8_isFactHere := MO_of (by decide) (fun Γ => sX8_isFactHere Γ)
noncomputable def kX8_readJoined_0c (g : Nat → Fn) : Cn := (andC (cmpC 2 (locE 0 4) (locE 0 3)) (cmpC 0 (csE fX8_levelOf [(0, (getE 10 2 0 (getE 8 0 2 (locE 2 0))))]) (locE 0 1)))
noncomputable def kX8_readJoined_0b (g : Nat → Fn) : Sx := (seqS (stS 5 0 (getE 10 2 0 (getE 8 0 2 (locE 2 0)))) (seqS (exS (cvE 10 fX10_next [(2, (getE 8 0 2 (locE 2 0)))])) (seqS (ifS (notC (zC 1 (cvE 8 (g 0) [(2, (locE 2 0)), (0, (binE (fun x y => w32 (x + y)) (locE 0 1) (numE 1))), (0, (locE 0 2))]))) (retZ (numE 0)) skipS) (exS (cvE 4 fX4_addToken [(2, (getE 8 4 2 (locE 2 0))), (0, (locE 0 5))])))))
noncomputable def kX8_readJoined_0u (g : Nat → Fn) : Sx := (incS 4 1)
noncomputable def kX8_readJoined_0 (g : Nat → Fn) : Sx := loopS 2 3 (kX8_readJoined_0c g) (kX8_readJoined_0b g) (kX8_readJoined_0u g)
noncomputable def bX8_readJoined (g : Nat → Fn) : Sx := (seqS (ifS (cmpC 3 (locE 0 1) (numE 4)) (retZ (cvE 8 (g 1) [(2, (locE 2 0)), (0, (locE 0 2))])) skipS) (seqS (ifS (notC (zC 1 (cvE 8 (g 0) [(2, (locE 2 0)), (0, (binE (fun x y => w32 (x + y)) (locE 0 1) (numE 1))), (0, (locE 0 2))]))) (retZ (numE 0)) skipS) (seqS (stS 3 0 (condE (cmpC 0 (locE 0 1) (numE 1)) (numE 1) (numE 1000))) (seqS (seqS (stS 4 0 (numE 0)) (kX8_readJoined_0 g)) (retZ (numE 1))))))
noncomputable def bX8_readPart (g : Nat → Fn) : Sx := (seqS (stS 2 0 (getE 10 2 0 (getE 8 0 2 (locE 2 0)))) (seqS (stS 3 0 (cvE 8 fX8_isFactHere [(2, (locE 2 0)), (0, (locE 0 2))])) (seqS (ifS (andC (andC (andC (notC (zC 1 (locE 0 3))) (cmpC 1 (locE 0 2) (numE 25))) (cmpC 1 (locE 0 2) (numE 15))) (cmpC 1 (locE 0 2) (numE 40))) (retZ (cvE 8 fX8_wrong [(2, (locE 2 0)), (0, (numE 1))])) skipS) (seqS (ifS (cmpC 3 (locE 0 1) (numE 5)) (retZ (cvE 8 fX8_wrong [(2, (locE 2 0)), (0, (numE 5))])) skipS) (seqS (ifS (zC 1 (locE 0 3)) (exS (cvE 4 fX4_addToken [(2, (getE 8 4 2 (locE 2 0))), (0, (locE 0 2))])) (ifS (cmpC 0 (locE 0 2) (numE 25)) (exS (cvE 4 fX4_addNumber [(2, (getE 8 4 2 (locE 2 0))), (0, (getE 10 4 0 (getE 8 0 2 (locE 2 0))))])) skipS)) (seqS (exS (cvE 10 fX10_next [(2, (getE 8 0 2 (locE 2 0)))])) (seqS (ifS (cmpC 0 (locE 0 2) (numE 40)) (retZ (boolE (andC (zC 1 (cvE 8 (g 0) [(2, (locE 2 0)), (0, (numE 0)), (0, (binE (fun x y => w32 (x + y)) (locE 0 1) (numE 1)))])) (zC 1 (cvE 8 fX8_passed [(2, (locE 2 0)), (0, (numE 41))]))))) skipS) (seqS (ifS (cmpC 0 (locE 0 2) (numE 15)) (seqS (ifS (notC (zC 1 (cvE 8 (g 1) [(2, (locE 2 0)), (0, (binE (fun x y => w32 (x + y)) (locE 0 1) (numE 1)))]))) (retZ (numE 0)) skipS) (exS (cvE 4 fX4_addToken [(2, (getE 8 4 2 (locE 2 0))), (0, (numE 15))]))) skipS) (retZ (numE 1))))))))))
noncomputable def gGX8_readJoined : Nat → Nat → Fn
  | 0 => fun _ _ _ _ => none
  | n + 1 => fun i => match i with
    | 0 => runB 6 (bX8_readJoined (gGX8_readJoined n))
    | 1 => runB 4 (bX8_readPart (gGX8_readJoined n))
    | _ => fun _ _ _ => none
def yGX8_readJoined_t : Nat → MethodName := fun i => match i with
  | 0 => yX8_readJoined
  | 1 => yX8_readPart
  | _ => yX8_readJoined
def cGX8_readJoined_t : Nat → ByteArray := fun i => match i with
  | 0 => cX8_readJoined
  | 1 => cX8_readPart
  | _ => cX8_readJoined
def lGX8_readJoined_t : Nat → Nat := fun i => match i with
  | 0 => 6
  | 1 => 4
  | _ => 0
def rGX8_readJoined_t : Nat → Option FieldType := fun i => match i with
  | 0 => (some .boolean)
  | 1 => (some .boolean)
  | _ => none
theorem sX8_readJoined (Γ : Cx) (n : Nat) (g : Nat → Fn) (hg : ∀ i : Nat, MO (yGX8_readJoined_t i) (cGX8_readJoined_t i) (lGX8_readJoined_t i) (rGX8_readJoined_t i) (10 + n) (g i)) : SO (cX8_readJoined, yX8_readJoined.cls, (10 + n + 1), 6, (some .boolean)) Γ 0 0 [] (bX8_readJoined g) :=
  have hdep : (10 + n) + 1 ≤ 10 + n + 1 := Nat.le_refl _
  (S_seq (p1 := 11) (S_if (p1 := 5) (p2 := 11) (q := 11) (C_icmp_lt_n (E_iload_n dX8_readJoined_0 rfl) (E_iconst dX8_readJoined_1 (by decide)) dX8_readJoined_2 rfl) (S_retz rfl (E_callV (hg 1) cv_X8_151 (A_cons2 (E_aload_n dX8_readJoined_5 rfl) (A_cons0 (E_iload_n dX8_readJoined_6 rfl) A_nil)) dX8_readJoined_7 hdep ⟨by decide, by decide⟩ rfl (by decide)) dX8_readJoined_10) S_skip)
  (S_seq (p1 := 24) (S_if (p1 := 22) (p2 := 24) (q := 24) (C_not (C_if_ne (E_callV (hg 0) cv_X8_148 (A_cons2 (E_aload_n dX8_readJoined_11 rfl) (A_cons0 (E_iadd (E_iload_n dX8_readJoined_12 rfl) (E_iconst dX8_readJoined_13 (by decide)) dX8_readJoined_14) (A_cons0 (E_iload_n dX8_readJoined_15 rfl) A_nil))) dX8_readJoined_16 hdep ⟨by decide, by decide⟩ rfl (by decide)) dX8_readJoined_19 rfl)) (S_retz rfl (E_iconst dX8_readJoined_22 (by decide)) dX8_readJoined_23) S_skip)
  (S_seq (p1 := 37) (S_istore_n (E_cond (p1 := 29) (p2 := 33) (p3 := 36) (C_icmp_ne_n (E_iload_n dX8_readJoined_24 rfl) (E_iconst dX8_readJoined_25 (by decide)) dX8_readJoined_26 rfl) (E_thru (E_iconst dX8_readJoined_29 (by decide)) dX8_readJoined_30 rfl) (E_sipush dX8_readJoined_33 (by decide))) dX8_readJoined_36 rfl)
  (S_seq (p1 := 104) (S_seq (p1 := 40) (S_istore (E_iconst dX8_readJoined_37 (by decide)) dX8_readJoined_38) (S_loop (p1 := 60) (p2 := 104) (p3 := 98) (kb := 2) (kc := 3) (by decide) (by decide) (by decide) (C_and (p1 := 46) (C_icmp_ge_n (E_iload dX8_readJoined_40) (E_iload_n dX8_readJoined_42 rfl) dX8_readJoined_43 rfl) (C_icmp_ne_n (E_callS mX8_levelOf cs_X8_154 (A_cons0 (E_getf fl_X8_51 (E_getf fl_X8_18 (E_aload_n dX8_readJoined_46 rfl) dX8_readJoined_47) dX8_readJoined_50) A_nil) dX8_readJoined_53 (show 1 + 1 ≤ 10 + n + 1 by omega) ⟨by decide, by decide⟩ rfl (by decide)) (E_iload_n dX8_readJoined_56 rfl) dX8_readJoined_57 rfl))
  (S_seq (p1 := 69) (S_istore (E_getf fl_X8_51 (E_getf fl_X8_18 (E_aload_n dX8_readJoined_60 rfl) dX8_readJoined_61) dX8_readJoined_64) dX8_readJoined_67)
  (S_seq (p1 := 76) (S_callV mX10_next cv_X8_84 (A_cons2 (E_getf fl_X8_18 (E_aload_n dX8_readJoined_69 rfl) dX8_readJoined_70) A_nil) dX8_readJoined_73 (show 8 + 1 ≤ 10 + n + 1 by omega) rfl)
  (S_seq (p1 := 89) (S_if (p1 := 87) (p2 := 89) (q := 89) (C_not (C_if_ne (E_callV (hg 0) cv_X8_148 (A_cons2 (E_aload_n dX8_readJoined_76 rfl) (A_cons0 (E_iadd (E_iload_n dX8_readJoined_77 rfl) (E_iconst dX8_readJoined_78 (by decide)) dX8_readJoined_79) (A_cons0 (E_iload_n dX8_readJoined_80 rfl) A_nil))) dX8_readJoined_81 hdep ⟨by decide, by decide⟩ rfl (by decide)) dX8_readJoined_84 rfl)) (S_retz rfl (E_iconst dX8_readJoined_87 (by decide)) dX8_readJoined_88) S_skip)
  (S_callV mX4_addToken cv_X8_158 (A_cons2 (E_getf fl_X8_32 (E_aload_n dX8_readJoined_89 rfl) dX8_readJoined_90) (A_cons0 (E_iload dX8_readJoined_93) A_nil)) dX8_readJoined_95 (show 2 + 1 ≤ 10 + n + 1 by omega) rfl))))
  (S_thru (S_iinc dX8_readJoined_98) dX8_readJoined_101 rfl)))
  (S_retz rfl (E_iconst dX8_readJoined_104 (by decide)) dX8_readJoined_105)))))
theorem sX8_readPart (Γ : Cx) (n : Nat) (g : Nat → Fn) (hg : ∀ i : Nat, MO (yGX8_readJoined_t i) (cGX8_readJoined_t i) (lGX8_readJoined_t i) (rGX8_readJoined_t i) (10 + n) (g i)) : SO (cX8_readPart, yX8_readPart.cls, (10 + n + 1), 4, (some .boolean)) Γ 0 0 [] (bX8_readPart g) :=
  have hdep : (10 + n) + 1 ≤ 10 + n + 1 := Nat.le_refl _
  (S_seq (p1 := 8) (S_istore_n (E_getf fl_X8_51 (E_getf fl_X8_18 (E_aload_n dX8_readPart_0 rfl) dX8_readPart_1) dX8_readPart_4) dX8_readPart_7 rfl)
  (S_seq (p1 := 14) (S_istore_n (E_callV mX8_isFactHere cv_X8_162 (A_cons2 (E_aload_n dX8_readPart_8 rfl) (A_cons0 (E_iload_n dX8_readPart_9 rfl) A_nil)) dX8_readPart_10 (show 1 + 1 ≤ 10 + n + 1 by omega) ⟨by decide, by decide⟩ rfl (by decide)) dX8_readPart_13 rfl)
  (S_seq (p1 := 42) (S_if (p1 := 36) (p2 := 42) (q := 42) (C_and (p1 := 30) (C_and (p1 := 24) (C_and (p1 := 18) (C_not (C_if_ne (E_iload_n dX8_readPart_14 rfl) dX8_readPart_15 rfl)) (C_icmp_eq_n (E_iload_n dX8_readPart_18 rfl) (E_bipush dX8_readPart_19 (by decide)) dX8_readPart_21 rfl)) (C_icmp_eq_n (E_iload_n dX8_readPart_24 rfl) (E_bipush dX8_readPart_25 (by decide)) dX8_readPart_27 rfl)) (C_icmp_eq_n (E_iload_n dX8_readPart_30 rfl) (E_bipush dX8_readPart_31 (by decide)) dX8_readPart_33 rfl)) (S_retz rfl (E_callV mX8_wrong cv_X8_74 (A_cons2 (E_aload_n dX8_readPart_36 rfl) (A_cons0 (E_iconst dX8_readPart_37 (by decide)) A_nil)) dX8_readPart_38 (show 1 + 1 ≤ 10 + n + 1 by omega) ⟨by decide, by decide⟩ rfl (by decide)) dX8_readPart_41) S_skip)
  (S_seq (p1 := 53) (S_if (p1 := 47) (p2 := 53) (q := 53) (C_icmp_lt_n (E_iload_n dX8_readPart_42 rfl) (E_iconst dX8_readPart_43 (by decide)) dX8_readPart_44 rfl) (S_retz rfl (E_callV mX8_wrong cv_X8_74 (A_cons2 (E_aload_n dX8_readPart_47 rfl) (A_cons0 (E_iconst dX8_readPart_48 (by decide)) A_nil)) dX8_readPart_49 (show 1 + 1 ≤ 10 + n + 1 by omega) ⟨by decide, by decide⟩ rfl (by decide)) dX8_readPart_52) S_skip)
  (S_seq (p1 := 88) (S_if (p1 := 57) (p2 := 68) (q := 88) (C_if_eq_n (E_iload_n dX8_readPart_53 rfl) dX8_readPart_54 rfl)
  (S_thru (S_callV mX4_addToken cv_X8_158 (A_cons2 (E_getf fl_X8_32 (E_aload_n dX8_readPart_57 rfl) dX8_readPart_58) (A_cons0 (E_iload_n dX8_readPart_61 rfl) A_nil)) dX8_readPart_62 (show 2 + 1 ≤ 10 + n + 1 by omega) rfl) dX8_readPart_65 rfl)
  (S_if (p1 := 74) (p2 := 88) (q := 88) (C_icmp_ne_n (E_iload_n dX8_readPart_68 rfl) (E_bipush dX8_readPart_69 (by decide)) dX8_readPart_71 rfl) (S_callV mX4_addNumber cv_X8_165 (A_cons2 (E_getf fl_X8_32 (E_aload_n dX8_readPart_74 rfl) dX8_readPart_75) (A_cons0 (E_getf fl_X8_87 (E_getf fl_X8_18 (E_aload_n dX8_readPart_78 rfl) dX8_readPart_79) dX8_readPart_82) A_nil)) dX8_readPart_85 (show 1 + 1 ≤ 10 + n + 1 by omega) rfl) S_skip))
  (S_seq (p1 := 95) (S_callV mX10_next cv_X8_84 (A_cons2 (E_getf fl_X8_18 (E_aload_n dX8_readPart_88 rfl) dX8_readPart_89) A_nil) dX8_readPart_92 (show 8 + 1 ≤ 10 + n + 1 by omega) rfl)
  (S_seq (p1 := 127) (S_if (p1 := 101) (p2 := 127) (q := 127) (C_icmp_ne_n (E_iload_n dX8_readPart_95 rfl) (E_bipush dX8_readPart_96 (by decide)) dX8_readPart_98 rfl) (S_retz rfl (E_bool (p1 := 121) (p2 := 125) (C_and (p1 := 112) (C_if_eq_n (E_callV (hg 0) cv_X8_148 (A_cons2 (E_aload_n dX8_readPart_101 rfl) (A_cons0 (E_iconst dX8_readPart_102 (by decide)) (A_cons0 (E_iadd (E_iload_n dX8_readPart_103 rfl) (E_iconst dX8_readPart_104 (by decide)) dX8_readPart_105) A_nil))) dX8_readPart_106 hdep ⟨by decide, by decide⟩ rfl (by decide)) dX8_readPart_109 rfl) (C_if_eq_n (E_callV mX8_passed cv_X8_78 (A_cons2 (E_aload_n dX8_readPart_112 rfl) (A_cons0 (E_bipush dX8_readPart_113 (by decide)) A_nil)) dX8_readPart_115 (show 9 + 1 ≤ 10 + n + 1 by omega) ⟨by decide, by decide⟩ rfl (by decide)) dX8_readPart_118 rfl)) dX8_readPart_121 dX8_readPart_122 dX8_readPart_125 rfl) dX8_readPart_126) S_skip)
  (S_seq (p1 := 154) (S_if (p1 := 133) (p2 := 154) (q := 154) (C_icmp_ne_n (E_iload_n dX8_readPart_127 rfl) (E_bipush dX8_readPart_128 (by decide)) dX8_readPart_130 rfl) (S_seq (p1 := 145) (S_if (p1 := 143) (p2 := 145) (q := 145) (C_not (C_if_ne (E_callV (hg 1) cv_X8_151 (A_cons2 (E_aload_n dX8_readPart_133 rfl) (A_cons0 (E_iadd (E_iload_n dX8_readPart_134 rfl) (E_iconst dX8_readPart_135 (by decide)) dX8_readPart_136) A_nil)) dX8_readPart_137 hdep ⟨by decide, by decide⟩ rfl (by decide)) dX8_readPart_140 rfl)) (S_retz rfl (E_iconst dX8_readPart_143 (by decide)) dX8_readPart_144) S_skip)
  (S_callV mX4_addToken cv_X8_158 (A_cons2 (E_getf fl_X8_32 (E_aload_n dX8_readPart_145 rfl) dX8_readPart_146) (A_cons0 (E_bipush dX8_readPart_149 (by decide)) A_nil)) dX8_readPart_151 (show 2 + 1 ≤ 10 + n + 1 by omega) rfl)) S_skip)
  (S_retz rfl (E_iconst dX8_readPart_154 (by decide)) dX8_readPart_155)))))))))
theorem mGX8_readJoined : ∀ n i : Nat, MO (yGX8_readJoined_t i) (cGX8_readJoined_t i) (lGX8_readJoined_t i) (rGX8_readJoined_t i) (10 + n) (gGX8_readJoined n i)
  | 0, _ => fun _ _ _ _ _ _ _ _ h => by cases h
  | n + 1, 0 => MO_of (d := 10 + n + 1) (by decide) (fun Γ => sX8_readJoined Γ n (gGX8_readJoined n) (mGX8_readJoined n))
  | n + 1, 1 => MO_of (d := 10 + n + 1) (by decide) (fun Γ => sX8_readPart Γ n (gGX8_readJoined n) (mGX8_readJoined n))
  | n + 1, k + 2 => fun _ _ _ _ _ _ _ _ h => by cases h
noncomputable def fX8_readJoined : Fn := gGX8_readJoined 40 0
theorem mX8_readJoined : MO yX8_readJoined cX8_readJoined 6 (some .boolean) 50 fX8_readJoined := mGX8_readJoined 40 0
noncomputable def fX8_readPart : Fn := gGX8_readJoined 40 1
theorem mX8_readPart : MO yX8_readPart cX8_readPart 4 (some .boolean) 50 fX8_readPart := mGX8_readJoined 40 1
noncomputable def bX8_readLaw : Sx := (seqS (ifS (zC 1 (getE 4 3 0 (locE 2 1))) (retZ (cvE 8 fX8_wrong [(2, (locE 2 0)), (0, (numE 3))])) skipS) (seqS (putS 8 4 2 (.object "FlockGaps$Law") (locE 2 0) (locE 2 1)) (seqS (exS (cvE 4 fX4_begin [(2, (getE 8 4 2 (locE 2 0)))])) (seqS (exS (cvE 10 fX10_next [(2, (getE 8 0 2 (locE 2 0)))])) (retZ (cvE 8 fX8_readJoined [(2, (locE 2 0)), (0, (numE 0)), (0, (numE 0))]))))))
noncomputable def fX8_readLaw : Fn := runB 2 bX8_readLaw
theorem sX8_readLaw (Γ : Cx) : SO (cX8_readLaw, yX8_readLaw.cls, 51, 2, (some .boolean)) Γ 0 0 [] bX8_readLaw :=
  (S_seq (p1 := 13) (S_if (p1 := 7) (p2 := 13) (q := 13) (C_if_eq_n (E_getf fl_X8_140 (E_aload_n dX8_readLaw_0 rfl) dX8_readLaw_1) dX8_readLaw_4 rfl) (S_retz rfl (E_callV mX8_wrong cv_X8_74 (A_cons2 (E_aload_n dX8_readLaw_7 rfl) (A_cons0 (E_iconst dX8_readLaw_8 (by decide)) A_nil)) dX8_readLaw_9 (by decide) ⟨by decide, by decide⟩ rfl (by decide)) dX8_readLaw_12) S_skip)
  (S_seq (p1 := 18) (S_putf fp_X8_32 (E_aload_n dX8_readLaw_13 rfl) (E_aload_n dX8_readLaw_14 rfl) dX8_readLaw_15)
  (S_seq (p1 := 25) (S_callV mX4_begin cv_X8_145 (A_cons2 (E_getf fl_X8_32 (E_aload_n dX8_readLaw_18 rfl) dX8_readLaw_19) A_nil) dX8_readLaw_22 (by decide) rfl)
  (S_seq (p1 := 32) (S_callV mX10_next cv_X8_84 (A_cons2 (E_getf fl_X8_18 (E_aload_n dX8_readLaw_25 rfl) dX8_readLaw_26) A_nil) dX8_readLaw_29 (by decide) rfl)
  (S_retz rfl (E_callV mX8_readJoined cv_X8_148 (A_cons2 (E_aload_n dX8_readLaw_32 rfl) (A_cons0 (E_iconst dX8_readLaw_33 (by decide)) (A_cons0 (E_iconst dX8_readLaw_34 (by decide)) A_nil))) dX8_readLaw_35 (by decide) ⟨by decide, by decide⟩ rfl (by decide)) dX8_readLaw_38)))))
theorem mX8_readLaw : MO yX8_readLaw cX8_readLaw 2 (some .boolean) 51 fX8_readLaw := MO_of (by decide) (fun Γ => sX8_readLaw Γ)
noncomputable def bX8_readTold : Sx := (seqS (ifS (notC (zC 1 (cvE 8 fX8_isName [(2, (locE 2 0))]))) (retS (numE (-1))) skipS) (seqS (stS 1 0 (cvE 8 fX8_beastNamed [(2, (locE 2 0)), (1, (getE 10 5 1 (getE 8 0 2 (locE 2 0))))])) (seqS (ifS (cmpC 0 (locE 0 1) (numE (-1))) (exS (cvE 8 fX8_wrong [(2, (locE 2 0)), (0, (numE 2))])) skipS) (retS (locE 0 1)))))
noncomputable def fX8_readTold : Fn := runB 2 bX8_readTold
theorem sX8_readTold (Γ : Cx) : SO (cX8_readTold, yX8_readTold.cls, 3, 2, (some .int)) Γ 0 0 [] bX8_readTold :=
  (S_seq (p1 := 9) (S_if (p1 := 7) (p2 := 9) (q := 9) (C_not (C_if_ne (E_callV mX8_isName cv_X8_90 (A_cons2 (E_aload_n dX8_readTold_0 rfl) A_nil) dX8_readTold_1 (by decide) ⟨by decide, by decide⟩ rfl (by decide)) dX8_readTold_4 rfl)) (S_reti rfl (E_iconst dX8_readTold_7 (by decide)) dX8_readTold_8) S_skip)
  (S_seq (p1 := 21) (S_istore_n (E_callV mX8_beastNamed cv_X8_97 (A_cons2 (E_aload_n dX8_readTold_9 rfl) (A_cons1 (E_getf fl_X8_93 (E_getf fl_X8_18 (E_aload_n dX8_readTold_10 rfl) dX8_readTold_11) dX8_readTold_14) A_nil)) dX8_readTold_17 (by decide) ⟨by decide, by decide⟩ rfl (by decide)) dX8_readTold_20 rfl)
  (S_seq (p1 := 32) (S_if (p1 := 26) (p2 := 32) (q := 32) (C_icmp_ne_n (E_iload_n dX8_readTold_21 rfl) (E_iconst dX8_readTold_22 (by decide)) dX8_readTold_23 rfl) (S_pop (E_callV mX8_wrong cv_X8_74 (A_cons2 (E_aload_n dX8_readTold_26 rfl) (A_cons0 (E_iconst dX8_readTold_27 (by decide)) A_nil)) dX8_readTold_28 (by decide) ⟨by decide, by decide⟩ rfl (by decide)) dX8_readTold_31) S_skip)
  (S_reti rfl (E_iload_n dX8_readTold_32 rfl) dX8_readTold_33))))
theorem mX8_readTold : MO yX8_readTold cX8_readTold 2 (some .int) 3 fX8_readTold := MO_of (by decide) (fun Γ => sX8_readTold Γ)
noncomputable def bX8_readLike : Sx := (seqS (exS (cvE 10 fX10_next [(2, (getE 8 0 2 (locE 2 0)))])) (seqS (stS 1 0 (cvE 8 fX8_readTold [(2, (locE 2 0))])) (seqS (ifS (cmpC 0 (locE 0 1) (numE (-1))) (retZ (numE 0)) skipS) (seqS (exS (cvE 10 fX10_next [(2, (getE 8 0 2 (locE 2 0)))])) (seqS (stS 2 0 (cvE 8 fX8_readTold [(2, (locE 2 0))])) (seqS (ifS (cmpC 0 (locE 0 2) (numE (-1))) (retZ (numE 0)) skipS) (seqS (ifS (orC (cmpC 0 (locE 0 1) (locE 0 2)) (zC 1 (aldE 100 (getE 1 6 2 (getE 8 3 2 (locE 2 0))) (binE (fun x y => w32 (x + y)) (binE (fun x y => w32 (x * y)) (locE 0 1) (numE 12)) (locE 0 2))))) (retZ (cvE 8 fX8_wrong [(2, (locE 2 0)), (0, (numE 3))])) skipS) (seqS (exS (cvE 10 fX10_next [(2, (getE 8 0 2 (locE 2 0)))])) (seqS (ifS (notC (zC 1 (cvE 8 fX8_isNumber [(2, (locE 2 0)), (0, (numE 1)), (0, (numE 99))]))) (retZ (numE 0)) skipS) (seqS (astS 100 (getE 1 6 2 (getE 8 3 2 (locE 2 0))) (binE (fun x y => w32 (x + y)) (binE (fun x y => w32 (x * y)) (locE 0 1) (numE 12)) (locE 0 2)) (getE 10 4 0 (getE 8 0 2 (locE 2 0)))) (seqS (astS 100 (getE 1 6 2 (getE 8 3 2 (locE 2 0))) (binE (fun x y => w32 (x + y)) (binE (fun x y => w32 (x * y)) (locE 0 2) (numE 12)) (locE 0 1)) (getE 10 4 0 (getE 8 0 2 (locE 2 0)))) (seqS (fopS 1 2 (fun x y => w32 (x + y)) (getE 8 3 2 (locE 2 0)) (numE 1)) (seqS (exS (cvE 10 fX10_next [(2, (getE 8 0 2 (locE 2 0)))])) (retZ (numE 1)))))))))))))))
noncomputable def fX8_readLike : Fn := runB 3 bX8_readLike
theorem sX8_readLike (Γ : Cx) : SO (cX8_readLike, yX8_readLike.cls, 9, 3, (some .boolean)) Γ 0 0 [] bX8_readLike :=
  (S_seq (p1 := 7) (S_callV mX10_next cv_X8_84 (A_cons2 (E_getf fl_X8_18 (E_aload_n dX8_readLike_0 rfl) dX8_readLike_1) A_nil) dX8_readLike_4 (by decide) rfl)
  (S_seq (p1 := 12) (S_istore_n (E_callV mX8_readTold cv_X8_124 (A_cons2 (E_aload_n dX8_readLike_7 rfl) A_nil) dX8_readLike_8 (by decide) ⟨by decide, by decide⟩ rfl (by decide)) dX8_readLike_11 rfl)
  (S_seq (p1 := 19) (S_if (p1 := 17) (p2 := 19) (q := 19) (C_icmp_ne_n (E_iload_n dX8_readLike_12 rfl) (E_iconst dX8_readLike_13 (by decide)) dX8_readLike_14 rfl) (S_retz rfl (E_iconst dX8_readLike_17 (by decide)) dX8_readLike_18) S_skip)
  (S_seq (p1 := 26) (S_callV mX10_next cv_X8_84 (A_cons2 (E_getf fl_X8_18 (E_aload_n dX8_readLike_19 rfl) dX8_readLike_20) A_nil) dX8_readLike_23 (by decide) rfl)
  (S_seq (p1 := 31) (S_istore_n (E_callV mX8_readTold cv_X8_124 (A_cons2 (E_aload_n dX8_readLike_26 rfl) A_nil) dX8_readLike_27 (by decide) ⟨by decide, by decide⟩ rfl (by decide)) dX8_readLike_30 rfl)
  (S_seq (p1 := 38) (S_if (p1 := 36) (p2 := 38) (q := 38) (C_icmp_ne_n (E_iload_n dX8_readLike_31 rfl) (E_iconst dX8_readLike_32 (by decide)) dX8_readLike_33 rfl) (S_retz rfl (E_iconst dX8_readLike_36 (by decide)) dX8_readLike_37) S_skip)
  (S_seq (p1 := 66) (S_if (p1 := 60) (p2 := 66) (q := 66) (C_or (p1 := 43) (C_icmp_eq (E_iload_n dX8_readLike_38 rfl) (E_iload_n dX8_readLike_39 rfl) dX8_readLike_40 rfl) (C_if_eq_n (E_iald (E_getf fl_X8_128 (E_getf fl_X8_22 (E_aload_n dX8_readLike_43 rfl) dX8_readLike_44) dX8_readLike_47) (E_iadd (E_imul (E_iload_n dX8_readLike_50 rfl) (E_bipush dX8_readLike_51 (by decide)) dX8_readLike_53) (E_iload_n dX8_readLike_54 rfl) dX8_readLike_55) dX8_readLike_56) dX8_readLike_57 rfl)) (S_retz rfl (E_callV mX8_wrong cv_X8_74 (A_cons2 (E_aload_n dX8_readLike_60 rfl) (A_cons0 (E_iconst dX8_readLike_61 (by decide)) A_nil)) dX8_readLike_62 (by decide) ⟨by decide, by decide⟩ rfl (by decide)) dX8_readLike_65) S_skip)
  (S_seq (p1 := 73) (S_callV mX10_next cv_X8_84 (A_cons2 (E_getf fl_X8_18 (E_aload_n dX8_readLike_66 rfl) dX8_readLike_67) A_nil) dX8_readLike_70 (by decide) rfl)
  (S_seq (p1 := 85) (S_if (p1 := 83) (p2 := 85) (q := 85) (C_not (C_if_ne (E_callV mX8_isNumber cv_X8_107 (A_cons2 (E_aload_n dX8_readLike_73 rfl) (A_cons0 (E_iconst dX8_readLike_74 (by decide)) (A_cons0 (E_bipush dX8_readLike_75 (by decide)) A_nil))) dX8_readLike_77 (by decide) ⟨by decide, by decide⟩ rfl (by decide)) dX8_readLike_80 rfl)) (S_retz rfl (E_iconst dX8_readLike_83 (by decide)) dX8_readLike_84) S_skip)
  (S_seq (p1 := 106) (S_iast (E_getf fl_X8_128 (E_getf fl_X8_22 (E_aload_n dX8_readLike_85 rfl) dX8_readLike_86) dX8_readLike_89) (E_iadd (E_imul (E_iload_n dX8_readLike_92 rfl) (E_bipush dX8_readLike_93 (by decide)) dX8_readLike_95) (E_iload_n dX8_readLike_96 rfl) dX8_readLike_97) (E_getf fl_X8_87 (E_getf fl_X8_18 (E_aload_n dX8_readLike_98 rfl) dX8_readLike_99) dX8_readLike_102) dX8_readLike_105)
  (S_seq (p1 := 127) (S_iast (E_getf fl_X8_128 (E_getf fl_X8_22 (E_aload_n dX8_readLike_106 rfl) dX8_readLike_107) dX8_readLike_110) (E_iadd (E_imul (E_iload_n dX8_readLike_113 rfl) (E_bipush dX8_readLike_114 (by decide)) dX8_readLike_116) (E_iload_n dX8_readLike_117 rfl) dX8_readLike_118) (E_getf fl_X8_87 (E_getf fl_X8_18 (E_aload_n dX8_readLike_119 rfl) dX8_readLike_120) dX8_readLike_123) dX8_readLike_126)
  (S_seq (p1 := 140) (S_fop_iadd fl_X8_131 fp_X8_131 (E_getf fl_X8_22 (E_aload_n dX8_readLike_127 rfl) dX8_readLike_128) dX8_readLike_131 dX8_readLike_132 (E_iconst dX8_readLike_135 (by decide)) dX8_readLike_136 dX8_readLike_137)
  (S_seq (p1 := 147) (S_callV mX10_next cv_X8_84 (A_cons2 (E_getf fl_X8_18 (E_aload_n dX8_readLike_140 rfl) dX8_readLike_141) A_nil) dX8_readLike_144 (by decide) rfl)
  (S_retz rfl (E_iconst dX8_readLike_147 (by decide)) dX8_readLike_148))))))))))))))
theorem mX8_readLike : MO yX8_readLike cX8_readLike 3 (some .boolean) 9 fX8_readLike := MO_of (by decide) (fun Γ => sX8_readLike Γ)
noncomputable def bX8_readMeadow : Sx := (seqS (stS 1 0 (getE 1 3 0 (getE 8 3 2 (locE 2 0)))) (seqS (ifS (cmpC 3 (locE 0 1) (numE 6)) (retZ (cvE 8 fX8_wrong [(2, (locE 2 0)), (0, (numE 5))])) skipS) (seqS (exS (cvE 10 fX10_next [(2, (getE 8 0 2 (locE 2 0)))])) (seqS (ifS (notC (zC 1 (cvE 8 fX8_isNewName [(2, (locE 2 0))]))) (retZ (numE 0)) skipS) (seqS (astS 101 (getE 8 2 2 (locE 2 0)) (locE 0 1) (getE 10 5 1 (getE 8 0 2 (locE 2 0)))) (seqS (exS (cvE 10 fX10_next [(2, (getE 8 0 2 (locE 2 0)))])) (seqS (ifS (orC (notC (zC 1 (cvE 8 fX8_passed [(2, (locE 2 0)), (0, (numE 6))]))) (notC (zC 1 (cvE 8 fX8_isNumber [(2, (locE 2 0)), (0, (numE 0)), (0, (numE 99))])))) (retZ (numE 0)) skipS) (seqS (astS 100 (getE 1 7 2 (getE 8 3 2 (locE 2 0))) (locE 0 1) (getE 10 4 0 (getE 8 0 2 (locE 2 0)))) (seqS (exS (cvE 10 fX10_next [(2, (getE 8 0 2 (locE 2 0)))])) (seqS (ifS (orC (notC (zC 1 (cvE 8 fX8_passed [(2, (locE 2 0)), (0, (numE 7))]))) (notC (zC 1 (cvE 8 fX8_isNumber [(2, (locE 2 0)), (0, (numE 1)), (0, (numE 99))])))) (retZ (numE 0)) skipS) (seqS (astS 100 (getE 1 8 2 (getE 8 3 2 (locE 2 0))) (locE 0 1) (getE 10 4 0 (getE 8 0 2 (locE 2 0)))) (seqS (putS 1 3 0 .int (getE 8 3 2 (locE 2 0)) (binE (fun x y => w32 (x + y)) (locE 0 1) (numE 1))) (seqS (exS (cvE 10 fX10_next [(2, (getE 8 0 2 (locE 2 0)))])) (retZ (numE 1)))))))))))))))
noncomputable def fX8_readMeadow : Fn := runB 2 bX8_readMeadow
theorem sX8_readMeadow (Γ : Cx) : SO (cX8_readMeadow, yX8_readMeadow.cls, 10, 2, (some .boolean)) Γ 0 0 [] bX8_readMeadow :=
  (S_seq (p1 := 8) (S_istore_n (E_getf fl_X8_101 (E_getf fl_X8_22 (E_aload_n dX8_readMeadow_0 rfl) dX8_readMeadow_1) dX8_readMeadow_4) dX8_readMeadow_7 rfl)
  (S_seq (p1 := 20) (S_if (p1 := 14) (p2 := 20) (q := 20) (C_icmp_lt_n (E_iload_n dX8_readMeadow_8 rfl) (E_bipush dX8_readMeadow_9 (by decide)) dX8_readMeadow_11 rfl) (S_retz rfl (E_callV mX8_wrong cv_X8_74 (A_cons2 (E_aload_n dX8_readMeadow_14 rfl) (A_cons0 (E_iconst dX8_readMeadow_15 (by decide)) A_nil)) dX8_readMeadow_16 (by decide) ⟨by decide, by decide⟩ rfl (by decide)) dX8_readMeadow_19) S_skip)
  (S_seq (p1 := 27) (S_callV mX10_next cv_X8_84 (A_cons2 (E_getf fl_X8_18 (E_aload_n dX8_readMeadow_20 rfl) dX8_readMeadow_21) A_nil) dX8_readMeadow_24 (by decide) rfl)
  (S_seq (p1 := 36) (S_if (p1 := 34) (p2 := 36) (q := 36) (C_not (C_if_ne (E_callV mX8_isNewName cv_X8_114 (A_cons2 (E_aload_n dX8_readMeadow_27 rfl) A_nil) dX8_readMeadow_28 (by decide) ⟨by decide, by decide⟩ rfl (by decide)) dX8_readMeadow_31 rfl)) (S_retz rfl (E_iconst dX8_readMeadow_34 (by decide)) dX8_readMeadow_35) S_skip)
  (S_seq (p1 := 49) (S_last (E_getf fl_X8_15 (E_aload_n dX8_readMeadow_36 rfl) dX8_readMeadow_37) (E_iload_n dX8_readMeadow_40 rfl) (E_getf fl_X8_93 (E_getf fl_X8_18 (E_aload_n dX8_readMeadow_41 rfl) dX8_readMeadow_42) dX8_readMeadow_45) dX8_readMeadow_48)
  (S_seq (p1 := 56) (S_callV mX10_next cv_X8_84 (A_cons2 (E_getf fl_X8_18 (E_aload_n dX8_readMeadow_49 rfl) dX8_readMeadow_50) A_nil) dX8_readMeadow_53 (by decide) rfl)
  (S_seq (p1 := 77) (S_if (p1 := 75) (p2 := 77) (q := 77) (C_or (p1 := 65) (C_not (C_if_eq_n (E_callV mX8_passed cv_X8_78 (A_cons2 (E_aload_n dX8_readMeadow_56 rfl) (A_cons0 (E_bipush dX8_readMeadow_57 (by decide)) A_nil)) dX8_readMeadow_59 (by decide) ⟨by decide, by decide⟩ rfl (by decide)) dX8_readMeadow_62 rfl)) (C_not (C_if_ne (E_callV mX8_isNumber cv_X8_107 (A_cons2 (E_aload_n dX8_readMeadow_65 rfl) (A_cons0 (E_iconst dX8_readMeadow_66 (by decide)) (A_cons0 (E_bipush dX8_readMeadow_67 (by decide)) A_nil))) dX8_readMeadow_69 (by decide) ⟨by decide, by decide⟩ rfl (by decide)) dX8_readMeadow_72 rfl))) (S_retz rfl (E_iconst dX8_readMeadow_75 (by decide)) dX8_readMeadow_76) S_skip)
  (S_seq (p1 := 93) (S_iast (E_getf fl_X8_134 (E_getf fl_X8_22 (E_aload_n dX8_readMeadow_77 rfl) dX8_readMeadow_78) dX8_readMeadow_81) (E_iload_n dX8_readMeadow_84 rfl) (E_getf fl_X8_87 (E_getf fl_X8_18 (E_aload_n dX8_readMeadow_85 rfl) dX8_readMeadow_86) dX8_readMeadow_89) dX8_readMeadow_92)
  (S_seq (p1 := 100) (S_callV mX10_next cv_X8_84 (A_cons2 (E_getf fl_X8_18 (E_aload_n dX8_readMeadow_93 rfl) dX8_readMeadow_94) A_nil) dX8_readMeadow_97 (by decide) rfl)
  (S_seq (p1 := 121) (S_if (p1 := 119) (p2 := 121) (q := 121) (C_or (p1 := 109) (C_not (C_if_eq_n (E_callV mX8_passed cv_X8_78 (A_cons2 (E_aload_n dX8_readMeadow_100 rfl) (A_cons0 (E_bipush dX8_readMeadow_101 (by decide)) A_nil)) dX8_readMeadow_103 (by decide) ⟨by decide, by decide⟩ rfl (by decide)) dX8_readMeadow_106 rfl)) (C_not (C_if_ne (E_callV mX8_isNumber cv_X8_107 (A_cons2 (E_aload_n dX8_readMeadow_109 rfl) (A_cons0 (E_iconst dX8_readMeadow_110 (by decide)) (A_cons0 (E_bipush dX8_readMeadow_111 (by decide)) A_nil))) dX8_readMeadow_113 (by decide) ⟨by decide, by decide⟩ rfl (by decide)) dX8_readMeadow_116 rfl))) (S_retz rfl (E_iconst dX8_readMeadow_119 (by decide)) dX8_readMeadow_120) S_skip)
  (S_seq (p1 := 137) (S_iast (E_getf fl_X8_137 (E_getf fl_X8_22 (E_aload_n dX8_readMeadow_121 rfl) dX8_readMeadow_122) dX8_readMeadow_125) (E_iload_n dX8_readMeadow_128 rfl) (E_getf fl_X8_87 (E_getf fl_X8_18 (E_aload_n dX8_readMeadow_129 rfl) dX8_readMeadow_130) dX8_readMeadow_133) dX8_readMeadow_136)
  (S_seq (p1 := 147) (S_putf fp_X8_101 (E_getf fl_X8_22 (E_aload_n dX8_readMeadow_137 rfl) dX8_readMeadow_138) (E_iadd (E_iload_n dX8_readMeadow_141 rfl) (E_iconst dX8_readMeadow_142 (by decide)) dX8_readMeadow_143) dX8_readMeadow_144)
  (S_seq (p1 := 154) (S_callV mX10_next cv_X8_84 (A_cons2 (E_getf fl_X8_18 (E_aload_n dX8_readMeadow_147 rfl) dX8_readMeadow_148) A_nil) dX8_readMeadow_151 (by decide) rfl)
  (S_retz rfl (E_iconst dX8_readMeadow_154 (by decide)) dX8_readMeadow_155))))))))))))))
theorem mX8_readMeadow : MO yX8_readMeadow cX8_readMeadow 2 (some .boolean) 10 fX8_readMeadow := MO_of (by decide) (fun Γ => sX8_readMeadow Γ)
def wX8_read_54_sel : Int → Nat := fun v => if v = 0 then 0 else if v = 1 then 1 else if v = 3 then 2 else if v = 4 then 3 else if v = 5 then 4 else if v = 8 then 5 else 6
def wX8_read_54_pcs : Nat → Nat := fun i => match i with
  | 0 => 104
  | 1 => 112
  | 2 => 120
  | 3 => 128
  | 4 => 143
  | 5 => 151
  | _ => 166
theorem wX8_read_54 (Γ : Cx) : SW (cX8_read, yX8_read.cls, 52, 4, (some .int)) Γ 54 wX8_read_54_pcs wX8_read_54_sel := by
  intro G env μ v k
  by_cases h0 : v = 0
  · subst h0; exact r_tsw G dX8_read_54 (Or.inr ⟨⟨by decide, by decide⟩, _, rfl, rfl⟩) k
  by_cases h1 : v = 1
  · subst h1; exact r_tsw G dX8_read_54 (Or.inr ⟨⟨by decide, by decide⟩, _, rfl, rfl⟩) k
  by_cases h2 : v = 2
  · subst h2; exact r_tsw G dX8_read_54 (Or.inr ⟨⟨by decide, by decide⟩, _, rfl, rfl⟩) k
  by_cases h3 : v = 3
  · subst h3; exact r_tsw G dX8_read_54 (Or.inr ⟨⟨by decide, by decide⟩, _, rfl, rfl⟩) k
  by_cases h4 : v = 4
  · subst h4; exact r_tsw G dX8_read_54 (Or.inr ⟨⟨by decide, by decide⟩, _, rfl, rfl⟩) k
  by_cases h5 : v = 5
  · subst h5; exact r_tsw G dX8_read_54 (Or.inr ⟨⟨by decide, by decide⟩, _, rfl, rfl⟩) k
  by_cases h6 : v = 6
  · subst h6; exact r_tsw G dX8_read_54 (Or.inr ⟨⟨by decide, by decide⟩, _, rfl, rfl⟩) k
  by_cases h7 : v = 7
  · subst h7; exact r_tsw G dX8_read_54 (Or.inr ⟨⟨by decide, by decide⟩, _, rfl, rfl⟩) k
  by_cases h8 : v = 8
  · subst h8; exact r_tsw G dX8_read_54 (Or.inr ⟨⟨by decide, by decide⟩, _, rfl, rfl⟩) k
  have hsel : wX8_read_54_sel v = 6 := by simp [wX8_read_54_sel, h0, h1, h2, h3, h4, h5, h6, h7, h8]
  rw [hsel] at k
  exact r_tsw G dX8_read_54 (Or.inl ⟨by omega, rfl⟩) k
noncomputable def kX8_read_0c : Cn := (andC (cmpC 2 (locE 0 2) (numE 1000)) (cmpC 1 (getE 10 2 0 (getE 8 0 2 (locE 2 0))) (numE 26)))
noncomputable def kX8_read_0b : Sx := (seqS (swS 4 (getE 10 2 0 (getE 8 0 2 (locE 2 0))) wX8_read_54_sel (fun i => match i with | 0 => (seqS (stS 3 0 (cvE 8 fX8_readField [(2, (locE 2 0))])) (brkS 4)) | 1 => (seqS (stS 3 0 (cvE 8 fX8_readBeast [(2, (locE 2 0))])) (brkS 4)) | 2 => (seqS (stS 3 0 (cvE 8 fX8_readLike [(2, (locE 2 0))])) (brkS 4)) | 3 => (seqS (stS 3 0 (cvE 8 fX8_readLaw [(2, (locE 2 0)), (2, (getE 1 9 2 (getE 8 3 2 (locE 2 0))))])) (brkS 4)) | 4 => (seqS (stS 3 0 (cvE 8 fX8_readMeadow [(2, (locE 2 0))])) (brkS 4)) | 5 => (seqS (stS 3 0 (cvE 8 fX8_readLaw [(2, (locE 2 0)), (2, (getE 1 10 2 (getE 8 3 2 (locE 2 0))))])) (brkS 4)) | _ => (seqS (stS 3 0 (cvE 8 fX8_wrong [(2, (locE 2 0)), (0, (numE 1))])) (brkS 4)))) (ifS (orC (notC (zC 1 (locE 0 3))) (notC (zC 1 (cvE 8 fX8_passed [(2, (locE 2 0)), (0, (numE 59))])))) (retS (getE 8 5 0 (locE 2 0))) skipS))
noncomputable def kX8_read_0u : Sx := (incS 2 1)
noncomputable def kX8_read_0 : Sx := loopS 2 3 kX8_read_0c kX8_read_0b kX8_read_0u
noncomputable def bX8_read : Sx := (seqS (exS (cvE 1 fX1_reset [(2, (locE 2 1))])) (seqS (putS 8 3 2 (.object "FlockGaps$Flock") (locE 2 0) (locE 2 1)) (seqS (putS 8 5 0 .int (locE 2 0) (numE 0)) (seqS (putS 8 6 0 .boolean (locE 2 0) (numE 0)) (seqS (exS (cvE 10 fX10_rewind [(2, (getE 8 0 2 (locE 2 0)))])) (seqS (seqS (stS 2 0 (numE 0)) kX8_read_0) (retS (numE 0))))))))
noncomputable def fX8_read : Fn := runB 4 bX8_read
theorem sX8_read (Γ : Cx) : SO (cX8_read, yX8_read.cls, 52, 4, (some .int)) Γ 0 0 [] bX8_read :=
  (S_seq (p1 := 4) (S_callV mX1_reset cv_X8_35 (A_cons2 (E_aload_n dX8_read_0 rfl) A_nil) dX8_read_1 (by decide) rfl)
  (S_seq (p1 := 9) (S_putf fp_X8_22 (E_aload_n dX8_read_4 rfl) (E_aload_n dX8_read_5 rfl) dX8_read_6)
  (S_seq (p1 := 14) (S_putf fp_X8_38 (E_aload_n dX8_read_9 rfl) (E_iconst dX8_read_10 (by decide)) dX8_read_11)
  (S_seq (p1 := 19) (S_putf fp_X8_42 (E_aload_n dX8_read_14 rfl) (E_iconst dX8_read_15 (by decide)) dX8_read_16)
  (S_seq (p1 := 26) (S_callV mX10_rewind cv_X8_46 (A_cons2 (E_getf fl_X8_18 (E_aload_n dX8_read_19 rfl) dX8_read_20) A_nil) dX8_read_23 (by decide) rfl)
  (S_seq (p1 := 196) (S_seq (p1 := 28) (S_istore_n (E_iconst dX8_read_26 (by decide)) dX8_read_27 rfl) (S_loop (p1 := 47) (p2 := 196) (p3 := 190) (kb := 2) (kc := 3) (by decide) (by decide) (by decide) (C_and (p1 := 35) (C_icmp_ge_n (E_iload_n dX8_read_28 rfl) (E_sipush dX8_read_29 (by decide)) dX8_read_32 rfl) (C_icmp_eq_n (E_getf fl_X8_51 (E_getf fl_X8_18 (E_aload_n dX8_read_35 rfl) dX8_read_36) dX8_read_39) (E_bipush dX8_read_42 (by decide)) dX8_read_44 rfl))
  (S_seq (p1 := 172) (S_switch (kb := 4) (q := 172) (by decide) (E_getf fl_X8_51 (E_getf fl_X8_18 (E_aload_n dX8_read_47 rfl) dX8_read_48) dX8_read_51) (wX8_read_54 Γ) (fun i => match i with
   | 0 => (S_seq (p1 := 109) (S_istore_n (E_callV mX8_readField cv_X8_54 (A_cons2 (E_aload_n dX8_read_104 rfl) A_nil) dX8_read_105 (by decide) ⟨by decide, by decide⟩ rfl (by decide)) dX8_read_108 rfl)
  (S_brk dX8_read_109 rfl (by decide) rfl))
   | 1 => (S_seq (p1 := 117) (S_istore_n (E_callV mX8_readBeast cv_X8_58 (A_cons2 (E_aload_n dX8_read_112 rfl) A_nil) dX8_read_113 (by decide) ⟨by decide, by decide⟩ rfl (by decide)) dX8_read_116 rfl)
  (S_brk dX8_read_117 rfl (by decide) rfl))
   | 2 => (S_seq (p1 := 125) (S_istore_n (E_callV mX8_readLike cv_X8_61 (A_cons2 (E_aload_n dX8_read_120 rfl) A_nil) dX8_read_121 (by decide) ⟨by decide, by decide⟩ rfl (by decide)) dX8_read_124 rfl)
  (S_brk dX8_read_125 rfl (by decide) rfl))
   | 3 => (S_seq (p1 := 140) (S_istore_n (E_callV mX8_readLaw cv_X8_64 (A_cons2 (E_aload_n dX8_read_128 rfl) (A_cons2 (E_getf fl_X8_26 (E_getf fl_X8_22 (E_aload_n dX8_read_129 rfl) dX8_read_130) dX8_read_133) A_nil)) dX8_read_136 (by decide) ⟨by decide, by decide⟩ rfl (by decide)) dX8_read_139 rfl)
  (S_brk dX8_read_140 rfl (by decide) rfl))
   | 4 => (S_seq (p1 := 148) (S_istore_n (E_callV mX8_readMeadow cv_X8_68 (A_cons2 (E_aload_n dX8_read_143 rfl) A_nil) dX8_read_144 (by decide) ⟨by decide, by decide⟩ rfl (by decide)) dX8_read_147 rfl)
  (S_brk dX8_read_148 rfl (by decide) rfl))
   | 5 => (S_seq (p1 := 163) (S_istore_n (E_callV mX8_readLaw cv_X8_64 (A_cons2 (E_aload_n dX8_read_151 rfl) (A_cons2 (E_getf fl_X8_71 (E_getf fl_X8_22 (E_aload_n dX8_read_152 rfl) dX8_read_153) dX8_read_156) A_nil)) dX8_read_159 (by decide) ⟨by decide, by decide⟩ rfl (by decide)) dX8_read_162 rfl)
  (S_brk dX8_read_163 rfl (by decide) rfl))
   | _+6 => (S_seq (p1 := 172) (S_istore_n (E_callV mX8_wrong cv_X8_74 (A_cons2 (E_aload_n dX8_read_166 rfl) (A_cons0 (E_iconst dX8_read_167 (by decide)) A_nil)) dX8_read_168 (by decide) ⟨by decide, by decide⟩ rfl (by decide)) dX8_read_171 rfl)
  (S_brk0 (by decide) rfl))))
  (S_if (p1 := 185) (p2 := 190) (q := 190) (C_or (p1 := 176) (C_not (C_if_eq_n (E_iload_n dX8_read_172 rfl) dX8_read_173 rfl)) (C_not (C_if_ne (E_callV mX8_passed cv_X8_78 (A_cons2 (E_aload_n dX8_read_176 rfl) (A_cons0 (E_bipush dX8_read_177 (by decide)) A_nil)) dX8_read_179 (by decide) ⟨by decide, by decide⟩ rfl (by decide)) dX8_read_182 rfl))) (S_reti rfl (E_getf fl_X8_38 (E_aload_n dX8_read_185 rfl) dX8_read_186) dX8_read_189) S_skip))
  (S_thru (S_iinc dX8_read_190) dX8_read_193 rfl)))
  (S_reti rfl (E_iconst dX8_read_196 (by decide)) dX8_read_197)))))))
theorem mX8_read : MO yX8_read cX8_read 4 (some .int) 52 fX8_read := MO_of (by decide) (fun Γ => sX8_read Γ)
noncomputable def bX11_flock : Sx := (seqS (stS 1 0 (cvE 8 fX8_read [(2, (getE 11 3 2 (locE 2 0))), (2, (getE 11 2 2 (locE 2 0)))])) (seqS (putS 10 1 0 .int (getE 11 0 2 (locE 2 0)) (numE 0)) (seqS (ifS (zC 1 (locE 0 1)) (retS (locE 0 1)) skipS) (seqS (stS 2 2 (getE 11 2 2 (locE 2 0))) (seqS (putS 11 2 2 (.object "FlockGaps$Flock") (locE 2 0) (getE 11 1 2 (locE 2 0))) (seqS (putS 11 1 2 (.object "FlockGaps$Flock") (locE 2 0) (locE 2 2)) (seqS (exS (cvE 6 fX6_reset [(2, (getE 11 4 2 (locE 2 0)))])) (seqS (putS 2 0 0 .int (getE 11 6 2 (locE 2 0)) (numE 0)) (seqS (putS 7 1 0 .int (getE 11 7 2 (locE 2 0)) (numE 0)) (seqS (putS 11 14 0 .int (locE 2 0) (numE 0)) (retS (numE 0))))))))))))
noncomputable def fX11_flock : Fn := runB 3 bX11_flock
theorem sX11_flock (Γ : Cx) : SO (cX11_flock, yX11_flock.cls, 53, 3, (some .int)) Γ 0 0 [] bX11_flock :=
  (S_seq (p1 := 12) (S_istore_n (E_callV mX8_read cv_X11_103 (A_cons2 (E_getf fl_X11_31 (E_aload_n dX11_flock_0 rfl) dX11_flock_1) (A_cons2 (E_getf fl_X11_23 (E_aload_n dX11_flock_4 rfl) dX11_flock_5) A_nil)) dX11_flock_8 (by decide) ⟨by decide, by decide⟩ rfl (by decide)) dX11_flock_11 rfl)
  (S_seq (p1 := 20) (S_putf fp_X11_99 (E_getf fl_X11_10 (E_aload_n dX11_flock_12 rfl) dX11_flock_13) (E_iconst dX11_flock_16 (by decide)) dX11_flock_17)
  (S_seq (p1 := 26) (S_if (p1 := 24) (p2 := 26) (q := 26) (C_if_eq_n (E_iload_n dX11_flock_20 rfl) dX11_flock_21 rfl) (S_reti rfl (E_iload_n dX11_flock_24 rfl) dX11_flock_25) S_skip)
  (S_seq (p1 := 31) (S_astore_n (E_getf fl_X11_23 (E_aload_n dX11_flock_26 rfl) dX11_flock_27) dX11_flock_30 rfl)
  (S_seq (p1 := 39) (S_putf fp_X11_23 (E_aload_n dX11_flock_31 rfl) (E_getf fl_X11_19 (E_aload_n dX11_flock_32 rfl) dX11_flock_33) dX11_flock_36)
  (S_seq (p1 := 44) (S_putf fp_X11_19 (E_aload_n dX11_flock_39 rfl) (E_aload_n dX11_flock_40 rfl) dX11_flock_41)
  (S_seq (p1 := 51) (S_callV mX6_reset cv_X11_107 (A_cons2 (E_getf fl_X11_38 (E_aload_n dX11_flock_44 rfl) dX11_flock_45) A_nil) dX11_flock_48 (by decide) rfl)
  (S_seq (p1 := 59) (S_putf fp_X11_110 (E_getf fl_X11_48 (E_aload_n dX11_flock_51 rfl) dX11_flock_52) (E_iconst dX11_flock_55 (by decide)) dX11_flock_56)
  (S_seq (p1 := 67) (S_putf fp_X11_113 (E_getf fl_X11_55 (E_aload_n dX11_flock_59 rfl) dX11_flock_60) (E_iconst dX11_flock_63 (by decide)) dX11_flock_64)
  (S_seq (p1 := 72) (S_putf fp_X11_114 (E_aload_n dX11_flock_67 rfl) (E_iconst dX11_flock_68 (by decide)) dX11_flock_69)
  (S_reti rfl (E_iconst dX11_flock_72 (by decide)) dX11_flock_73)))))))))))
theorem mX11_flock : MO yX11_flock cX11_flock 3 (some .int) 53 fX11_flock := MO_of (by decide) (fun Γ => sX11_flock Γ)
noncomputable def kX11_friends_1c : Cn := (cmpC 2 (locE 0 4) (locE 0 3))
noncomputable def kX11_friends_1b : Sx := (ifS (cmpC 3 (aldE 100 (getE 6 5 2 (getE 11 4 2 (locE 2 0))) (binE (fun x y => w32 (x + y)) (binE (fun x y => w32 (x * y)) (locE 0 3) (numE 12)) (locE 0 4))) (locE 0 1)) (incS 2 1) skipS)
noncomputable def kX11_friends_1u : Sx := (incS 4 1)
noncomputable def kX11_friends_1 : Sx := loopS 4 5 kX11_friends_1c kX11_friends_1b kX11_friends_1u
noncomputable def kX11_friends_0c : Cn := (cmpC 2 (locE 0 3) (getE 1 1 0 (getE 11 1 2 (locE 2 0))))
noncomputable def kX11_friends_0b : Sx := (seqS (stS 4 0 (numE 0)) kX11_friends_1)
noncomputable def kX11_friends_0u : Sx := (incS 3 1)
noncomputable def kX11_friends_0 : Sx := loopS 2 3 kX11_friends_0c kX11_friends_0b kX11_friends_0u
noncomputable def bX11_friends : Sx := (seqS (ifS (orC (cmpC 2 (locE 0 1) (numE 1)) (cmpC 4 (locE 0 1) (numE 9999))) (retS (numE (-1))) skipS) (seqS (stS 2 0 (numE 0)) (seqS (seqS (stS 3 0 (numE 0)) kX11_friends_0) (retS (locE 0 2)))))
noncomputable def fX11_friends : Fn := runB 5 bX11_friends
theorem sX11_friends (Γ : Cx) : SO (cX11_friends, yX11_friends.cls, 1, 5, (some .int)) Γ 0 0 [] bX11_friends :=
  (S_seq (p1 := 14) (S_if (p1 := 12) (p2 := 14) (q := 14) (C_or (p1 := 5) (C_icmp_lt (E_iload_n dX11_friends_0 rfl) (E_iconst dX11_friends_1 (by decide)) dX11_friends_2 rfl) (C_icmp_le_n (E_iload_n dX11_friends_5 rfl) (E_sipush dX11_friends_6 (by decide)) dX11_friends_9 rfl)) (S_reti rfl (E_iconst dX11_friends_12 (by decide)) dX11_friends_13) S_skip)
  (S_seq (p1 := 16) (S_istore_n (E_iconst dX11_friends_14 (by decide)) dX11_friends_15 rfl)
  (S_seq (p1 := 72) (S_seq (p1 := 18) (S_istore_n (E_iconst dX11_friends_16 (by decide)) dX11_friends_17 rfl) (S_loop (p1 := 29) (p2 := 72) (p3 := 66) (kb := 2) (kc := 3) (by decide) (by decide) (by decide) (C_icmp_ge_n (E_iload_n dX11_friends_18 rfl) (E_getf fl_X11_148 (E_getf fl_X11_19 (E_aload_n dX11_friends_19 rfl) dX11_friends_20) dX11_friends_23) dX11_friends_26 rfl)
  (S_seq (p1 := 32) (S_istore (E_iconst dX11_friends_29 (by decide)) dX11_friends_30) (S_loop (p1 := 38) (p2 := 66) (p3 := 60) (kb := 4) (kc := 5) (by decide) (by decide) (by decide) (C_icmp_ge_n (E_iload dX11_friends_32) (E_iload_n dX11_friends_34 rfl) dX11_friends_35 rfl)
  (S_if (p1 := 57) (p2 := 60) (q := 60) (C_icmp_lt_n (E_iald (E_getf fl_X11_168 (E_getf fl_X11_38 (E_aload_n dX11_friends_38 rfl) dX11_friends_39) dX11_friends_42) (E_iadd (E_imul (E_iload_n dX11_friends_45 rfl) (E_bipush dX11_friends_46 (by decide)) dX11_friends_48) (E_iload dX11_friends_49) dX11_friends_51) dX11_friends_52) (E_iload_n dX11_friends_53 rfl) dX11_friends_54 rfl) (S_iinc dX11_friends_57) S_skip)
  (S_thru (S_iinc dX11_friends_60) dX11_friends_63 rfl)))
  (S_thru (S_iinc dX11_friends_66) dX11_friends_69 rfl)))
  (S_reti rfl (E_iload_n dX11_friends_72 rfl) dX11_friends_73))))
theorem mX11_friends : MO yX11_friends cX11_friends 5 (some .int) 1 fX11_friends := MO_of (by decide) (fun Γ => sX11_friends Γ)
noncomputable def bX2_tell : Sx := (seqS (ifS (cmpC 3 (getE 2 0 0 (locE 2 0)) (numE 24)) (retS (numE (-1))) skipS) (seqS (astS 100 (getE 2 1 2 (locE 2 0)) (getE 2 0 0 (locE 2 0)) (locE 0 1)) (seqS (astS 100 (getE 2 2 2 (locE 2 0)) (getE 2 0 0 (locE 2 0)) (locE 0 2)) (seqS (astS 100 (getE 2 3 2 (locE 2 0)) (getE 2 0 0 (locE 2 0)) (locE 0 3)) (seqS (fopS 2 0 (fun x y => w32 (x + y)) (locE 2 0) (numE 1)) (retS (getE 2 0 0 (locE 2 0))))))))
noncomputable def fX2_tell : Fn := runB 4 bX2_tell
theorem sX2_tell (Γ : Cx) : SO (cX2_tell, yX2_tell.cls, 1, 4, (some .int)) Γ 0 0 [] bX2_tell :=
  (S_seq (p1 := 11) (S_if (p1 := 9) (p2 := 11) (q := 11) (C_icmp_lt_n (E_getf fl_X2_21 (E_aload_n dX2_tell_0 rfl) dX2_tell_1) (E_bipush dX2_tell_4 (by decide)) dX2_tell_6 rfl) (S_reti rfl (E_iconst dX2_tell_9 (by decide)) dX2_tell_10) S_skip)
  (S_seq (p1 := 21) (S_iast (E_getf fl_X2_9 (E_aload_n dX2_tell_11 rfl) dX2_tell_12) (E_getf fl_X2_21 (E_aload_n dX2_tell_15 rfl) dX2_tell_16) (E_iload_n dX2_tell_19 rfl) dX2_tell_20)
  (S_seq (p1 := 31) (S_iast (E_getf fl_X2_15 (E_aload_n dX2_tell_21 rfl) dX2_tell_22) (E_getf fl_X2_21 (E_aload_n dX2_tell_25 rfl) dX2_tell_26) (E_iload_n dX2_tell_29 rfl) dX2_tell_30)
  (S_seq (p1 := 41) (S_iast (E_getf fl_X2_18 (E_aload_n dX2_tell_31 rfl) dX2_tell_32) (E_getf fl_X2_21 (E_aload_n dX2_tell_35 rfl) dX2_tell_36) (E_iload_n dX2_tell_39 rfl) dX2_tell_40)
  (S_seq (p1 := 51) (S_fop_iadd fl_X2_21 fp_X2_21 (E_aload_n dX2_tell_41 rfl) dX2_tell_42 dX2_tell_43 (E_iconst dX2_tell_46 (by decide)) dX2_tell_47 dX2_tell_48)
  (S_reti rfl (E_getf fl_X2_21 (E_aload_n dX2_tell_51 rfl) dX2_tell_52) dX2_tell_55))))))
theorem mX2_tell : MO yX2_tell cX2_tell 4 (some .int) 1 fX2_tell := MO_of (by decide) (fun Γ => sX2_tell Γ)
