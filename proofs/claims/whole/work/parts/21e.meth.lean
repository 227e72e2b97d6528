noncomputable def bX11_search : Sx := (seqS (ifS (orC (orC (zC 2 (locE 0 2)) (cmpC 3 (locE 0 2) (binE (fun x y => w32 (x + y)) (getE 1 3 0 (getE 11 1 2 (locE 2 0))) (numE 2)))) (notC (zC 1 (cvE 11 fX11_weighed [(2, (locE 2 0)), (0, (locE 0 1))])))) (retS (numE (-1))) skipS) (seqS (exS (cvE 9 fX9_arrange [(2, (getE 11 11 2 (locE 2 0))), (2, (getE 11 1 2 (locE 2 0)))])) (seqS (ifS (cmpC 3 (locE 0 2) (numE 2)) (retS (unE (fun x => x) (aldE 100 (getE 9 1 2 (getE 11 11 2 (locE 2 0))) (binE (fun x y => w32 (x - y)) (locE 0 2) (numE 2))))) skipS) (seqS (stS 3 1 (cvE 9 fX9_minutes [(2, (getE 11 11 2 (locE 2 0))), (2, (getE 11 1 2 (locE 2 0)))])) (retS (csE fX11_lowest [(1, (condE (zC 0 (locE 0 2)) (locE 1 3) (unE (fun x => x) (getE 9 3 0 (getE 11 11 2 (locE 2 0)))))), (1, (locE 1 3)), (1, (unE (fun x => x) (getE 9 3 0 (getE 11 11 2 (locE 2 0)))))]))))))
noncomputable def fX11_search : Fn := runB 5 bX11_search
theorem sX11_search (Γ : Cx) : SO (cX11_search, yX11_search.cls, 6, 5, (some .long)) Γ 0 0 [] bX11_search :=
  (S_seq (p1 := 29) (S_if (p1 := 25) (p2 := 29) (q := 29) (C_or (p1 := 17) (C_or (p1 := 4) (C_if_lt (E_iload_n dX11_search_0 rfl) dX11_search_1 rfl) (C_icmp_ge (E_iload_n dX11_search_4 rfl) (E_iadd (E_getf fl_X11_205 (E_getf fl_X11_19 (E_aload_n dX11_search_5 rfl) dX11_search_6) dX11_search_9) (E_iconst dX11_search_12 (by decide)) dX11_search_13) dX11_search_14 rfl)) (C_not (C_if_ne (E_callV mX11_weighed cv_X11_208 (A_cons2 (E_aload_n dX11_search_17 rfl) (A_cons0 (E_iload_n dX11_search_18 rfl) A_nil)) dX11_search_19 (by decide) ⟨by decide, by decide⟩ rfl (by decide)) dX11_search_22 rfl))) (S_retl rfl (E_ldc2 dX11_search_25 kl_X11_221 (by decide)) dX11_search_28) S_skip)
  (S_seq (p1 := 40) (S_callV mX9_arrange cv_X11_223 (A_cons2 (E_getf fl_X11_83 (E_aload_n dX11_search_29 rfl) dX11_search_30) (A_cons2 (E_getf fl_X11_19 (E_aload_n dX11_search_33 rfl) dX11_search_34) A_nil)) dX11_search_37 (by decide) rfl)
  (S_seq (p1 := 58) (S_if (p1 := 45) (p2 := 58) (q := 58) (C_icmp_lt_n (E_iload_n dX11_search_40 rfl) (E_iconst dX11_search_41 (by decide)) dX11_search_42 rfl) (S_retl rfl (E_i2l (E_iald (E_getf fl_X11_227 (E_getf fl_X11_83 (E_aload_n dX11_search_45 rfl) dX11_search_46) dX11_search_49) (E_isub (E_iload_n dX11_search_52 rfl) (E_iconst dX11_search_53 (by decide)) dX11_search_54) dX11_search_55) dX11_search_56) dX11_search_57) S_skip)
  (S_seq (p1 := 70) (S_lstore_n (E_callV mX9_minutes cv_X11_230 (A_cons2 (E_getf fl_X11_83 (E_aload_n dX11_search_58 rfl) dX11_search_59) (A_cons2 (E_getf fl_X11_19 (E_aload_n dX11_search_62 rfl) dX11_search_63) A_nil)) dX11_search_66 (by decide) ⟨by decide, by decide⟩ rfl (by decide)) dX11_search_69 rfl)
  (S_retl rfl (E_callS mX11_lowest cs_X11_217 (A_cons1 (E_cond (p1 := 74) (p2 := 78) (p3 := 86) (C_if_ne_n (E_iload_n dX11_search_70 rfl) dX11_search_71 rfl) (E_thru (E_lload_n dX11_search_74 rfl) dX11_search_75 rfl) (E_i2l (E_getf fl_X11_214 (E_getf fl_X11_83 (E_aload_n dX11_search_78 rfl) dX11_search_79) dX11_search_82) dX11_search_85)) (A_cons1 (E_lload_n dX11_search_86 rfl) (A_cons1 (E_i2l (E_getf fl_X11_214 (E_getf fl_X11_83 (E_aload_n dX11_search_87 rfl) dX11_search_88) dX11_search_91) dX11_search_94) A_nil))) dX11_search_95 (by decide) ⟨by decide, by decide⟩ rfl (by decide)) dX11_search_98)))))
theorem mX11_search : MO yX11_search cX11_search 5 (some .long) 6 fX11_search := MO_of (by decide) (fun Γ => sX11_search Γ)
noncomputable def bX11_seen : Sx := (seqS (ifS (notC (zC 1 (cvE 11 fX11_isPlace [(2, (locE 2 0)), (0, (locE 0 1))]))) (retS (numE (-1))) skipS) (retS (cvE 2 fX2_tell [(2, (getE 11 6 2 (locE 2 0))), (0, (condE (zC 1 (locE 0 2)) (numE 0) (numE 1))), (0, (locE 0 1)), (0, (numE 0))])))
noncomputable def fX11_seen : Fn := runB 3 bX11_seen
theorem sX11_seen (Γ : Cx) : SO (cX11_seen, yX11_seen.cls, 2, 3, (some .int)) Γ 0 0 [] bX11_seen :=
  (S_seq (p1 := 10) (S_if (p1 := 8) (p2 := 10) (q := 10) (C_not (C_if_ne (E_callV mX11_isPlace cv_X11_145 (A_cons2 (E_aload_n dX11_seen_0 rfl) (A_cons0 (E_iload_n dX11_seen_1 rfl) A_nil)) dX11_seen_2 (by decide) ⟨by decide, by decide⟩ rfl (by decide)) dX11_seen_5 rfl)) (S_reti rfl (E_iconst dX11_seen_8 (by decide)) dX11_seen_9) S_skip)
  (S_reti rfl (E_callV mX2_tell cv_X11_171 (A_cons2 (E_getf fl_X11_48 (E_aload_n dX11_seen_10 rfl) dX11_seen_11) (A_cons0 (E_cond (p1 := 18) (p2 := 22) (p3 := 23) (C_if_eq_n (E_iload_n dX11_seen_14 rfl) dX11_seen_15 rfl) (E_thru (E_iconst dX11_seen_18 (by decide)) dX11_seen_19 rfl) (E_iconst dX11_seen_22 (by decide))) (A_cons0 (E_iload_n dX11_seen_23 rfl) (A_cons0 (E_iconst dX11_seen_24 (by decide)) A_nil)))) dX11_seen_25 (by decide) ⟨by decide, by decide⟩ rfl (by decide)) dX11_seen_28))
theorem mX11_seen : MO yX11_seen cX11_seen 3 (some .int) 2 fX11_seen := MO_of (by decide) (fun Γ => sX11_seen Γ)
noncomputable def kX11_settled_0c : Cn := (cmpC 5 (locE 0 1) (numE 50))
noncomputable def kX11_settled_0b : Sx := (ifS (zC 1 (cvE 0 fX0_fall [(2, (getE 11 8 2 (locE 2 0))), (2, (getE 11 1 2 (locE 2 0))), (2, (getE 11 5 2 (locE 2 0)))])) (retS (locE 0 1)) skipS)
noncomputable def kX11_settled_0u : Sx := (incS 1 1)
noncomputable def kX11_settled_0 : Sx := loopS 2 3 kX11_settled_0c kX11_settled_0b kX11_settled_0u
noncomputable def bX11_settled : Sx := (seqS (exS (cvE 6 fX6_copy [(2, (getE 11 5 2 (locE 2 0))), (2, (getE 11 4 2 (locE 2 0)))])) (seqS (seqS (stS 1 0 (numE 0)) kX11_settled_0) (retS (numE (-1)))))
noncomputable def fX11_settled : Fn := runB 2 bX11_settled
theorem sX11_settled (Γ : Cx) : SO (cX11_settled, yX11_settled.cls, 7, 2, (some .int)) Γ 0 0 [] bX11_settled :=
  (S_seq (p1 := 11) (S_callV mX6_copy cv_X11_165 (A_cons2 (E_getf fl_X11_42 (E_aload_n dX11_settled_0 rfl) dX11_settled_1) (A_cons2 (E_getf fl_X11_38 (E_aload_n dX11_settled_4 rfl) dX11_settled_5) A_nil)) dX11_settled_8 (by decide) rfl)
  (S_seq (p1 := 45) (S_seq (p1 := 13) (S_istore_n (E_iconst dX11_settled_11 (by decide)) dX11_settled_12 rfl) (S_loop (p1 := 19) (p2 := 45) (p3 := 39) (kb := 2) (kc := 3) (by decide) (by decide) (by decide) (C_icmp_gt_n (E_iload_n dX11_settled_13 rfl) (E_bipush dX11_settled_14 (by decide)) dX11_settled_16 rfl)
  (S_if (p1 := 37) (p2 := 39) (q := 39) (C_if_eq_n (E_callV mX0_fall cv_X11_158 (A_cons2 (E_getf fl_X11_62 (E_aload_n dX11_settled_19 rfl) dX11_settled_20) (A_cons2 (E_getf fl_X11_19 (E_aload_n dX11_settled_23 rfl) dX11_settled_24) (A_cons2 (E_getf fl_X11_42 (E_aload_n dX11_settled_27 rfl) dX11_settled_28) A_nil))) dX11_settled_31 (by decide) ⟨by decide, by decide⟩ rfl (by decide)) dX11_settled_34 rfl) (S_reti rfl (E_iload_n dX11_settled_37 rfl) dX11_settled_38) S_skip)
  (S_thru (S_iinc dX11_settled_39) dX11_settled_42 rfl)))
  (S_reti rfl (E_iconst dX11_settled_45 (by decide)) dX11_settled_46)))
theorem mX11_settled : MO yX11_settled cX11_settled 2 (some .int) 7 fX11_settled := MO_of (by decide) (fun Γ => sX11_settled Γ)
noncomputable def bX11_sure : Sx := (seqS (exS (cvE 3 fX3_ponder [(2, (getE 11 9 2 (locE 2 0))), (2, (getE 11 1 2 (locE 2 0))), (2, (getE 11 4 2 (locE 2 0))), (2, (getE 11 6 2 (locE 2 0))), (0, (numE (-1)))])) (seqS (ifS (zC 0 (getE 3 1 0 (getE 11 9 2 (locE 2 0)))) (retS (numE (-1))) skipS) (retS (condE (zC 1 (locE 0 1)) (binE o_iand (getE 3 0 0 (getE 11 9 2 (locE 2 0))) (binE o_ixor (getE 3 3 0 (getE 11 9 2 (locE 2 0))) (numE (-1)))) (getE 3 2 0 (getE 11 9 2 (locE 2 0)))))))
noncomputable def fX11_sure : Fn := runB 2 bX11_sure
theorem sX11_sure (Γ : Cx) : SO (cX11_sure, yX11_sure.cls, 6, 2, (some .int)) Γ 0 0 [] bX11_sure :=
  (S_seq (p1 := 20) (S_callV mX3_ponder cv_X11_178 (A_cons2 (E_getf fl_X11_69 (E_aload_n dX11_sure_0 rfl) dX11_sure_1) (A_cons2 (E_getf fl_X11_19 (E_aload_n dX11_sure_4 rfl) dX11_sure_5) (A_cons2 (E_getf fl_X11_38 (E_aload_n dX11_sure_8 rfl) dX11_sure_9) (A_cons2 (E_getf fl_X11_48 (E_aload_n dX11_sure_12 rfl) dX11_sure_13) (A_cons0 (E_iconst dX11_sure_16 (by decide)) A_nil))))) dX11_sure_17 (by decide) rfl)
  (S_seq (p1 := 32) (S_if (p1 := 30) (p2 := 32) (q := 32) (C_if_ne_n (E_getf fl_X11_182 (E_getf fl_X11_69 (E_aload_n dX11_sure_20 rfl) dX11_sure_21) dX11_sure_24) dX11_sure_27 rfl) (S_reti rfl (E_iconst dX11_sure_30 (by decide)) dX11_sure_31) S_skip)
  (S_reti rfl (E_cond (p1 := 36) (p2 := 56) (p3 := 63) (C_if_eq_n (E_iload_n dX11_sure_32 rfl) dX11_sure_33 rfl) (E_thru (E_iand (E_getf fl_X11_186 (E_getf fl_X11_69 (E_aload_n dX11_sure_36 rfl) dX11_sure_37) dX11_sure_40) (E_ixor (E_getf fl_X11_188 (E_getf fl_X11_69 (E_aload_n dX11_sure_43 rfl) dX11_sure_44) dX11_sure_47) (E_iconst dX11_sure_50 (by decide)) dX11_sure_51) dX11_sure_52) dX11_sure_53 rfl) (E_getf fl_X11_191 (E_getf fl_X11_69 (E_aload_n dX11_sure_56 rfl) dX11_sure_57) dX11_sure_60)) dX11_sure_63)))
theorem mX11_sure : MO yX11_sure cX11_sure 2 (some .int) 6 fX11_sure := MO_of (by decide) (fun Γ => sX11_sure Γ)
noncomputable def bX7_takeBack : Sx := (seqS (stS 2 2 (aldE 116 (getE 7 0 2 (locE 2 0)) (getE 7 2 0 (locE 2 0)))) (seqS (ifS (orC (zC 0 (getE 7 1 0 (locE 2 0))) (constC false (locE 2 2))) (retZ (numE 0)) skipS) (seqS (exS (cvE 6 fX6_copy [(2, (locE 2 1)), (2, (locE 2 2))])) (seqS (putS 7 2 0 .int (locE 2 0) (condE (zC 4 (getE 7 2 0 (locE 2 0))) (binE (fun x y => w32 (x - y)) (getE 7 2 0 (locE 2 0)) (numE 1)) (numE 11))) (seqS (fopS 7 1 (fun x y => w32 (x - y)) (locE 2 0) (numE 1)) (retZ (numE 1)))))))
noncomputable def fX7_takeBack : Fn := runB 3 bX7_takeBack
theorem sX7_takeBack (Γ : Cx) : SO (cX7_takeBack, yX7_takeBack.cls, 2, 3, (some .boolean)) Γ 0 0 [] bX7_takeBack :=
  (S_seq (p1 := 10) (S_astore_n (E_aald (ci := 6) (E_getf fl_X7_11 (E_aload_n dX7_takeBack_0 rfl) dX7_takeBack_1) (E_getf fl_X7_18 (E_aload_n dX7_takeBack_4 rfl) dX7_takeBack_5) dX7_takeBack_8) dX7_takeBack_9 rfl)
  (S_seq (p1 := 23) (S_if (p1 := 21) (p2 := 23) (q := 23) (C_or (p1 := 17) (C_if_eq (E_getf fl_X7_26 (E_aload_n dX7_takeBack_10 rfl) dX7_takeBack_11) dX7_takeBack_14 rfl) (C_ifnonnull_n (pt := 21) (E_aload_n dX7_takeBack_17 rfl) dX7_takeBack_18 rfl)) (S_retz rfl (E_iconst dX7_takeBack_21 (by decide)) dX7_takeBack_22) S_skip)
  (S_seq (p1 := 28) (S_callV mX6_copy cv_X7_22 (A_cons2 (E_aload_n dX7_takeBack_23 rfl) (A_cons2 (E_aload_n dX7_takeBack_24 rfl) A_nil)) dX7_takeBack_25 (by decide) rfl)
  (S_seq (p1 := 50) (S_putf fp_X7_18 (E_aload_n dX7_takeBack_28 rfl) (E_cond (p1 := 36) (p2 := 45) (p3 := 47) (C_if_le_n (E_getf fl_X7_18 (E_aload_n dX7_takeBack_29 rfl) dX7_takeBack_30) dX7_takeBack_33 rfl) (E_thru (E_isub (E_getf fl_X7_18 (E_aload_n dX7_takeBack_36 rfl) dX7_takeBack_37) (E_iconst dX7_takeBack_40 (by decide)) dX7_takeBack_41) dX7_takeBack_42 rfl) (E_bipush dX7_takeBack_45 (by decide))) dX7_takeBack_47)
  (S_seq (p1 := 60) (S_fop_isub fl_X7_26 fp_X7_26 (E_aload_n dX7_takeBack_50 rfl) dX7_takeBack_51 dX7_takeBack_52 (E_iconst dX7_takeBack_55 (by decide)) dX7_takeBack_56 dX7_takeBack_57)
  (S_retz rfl (E_iconst dX7_takeBack_60 (by decide)) dX7_takeBack_61))))))
theorem mX7_takeBack : MO yX7_takeBack cX7_takeBack 3 (some .boolean) 2 fX7_takeBack := MO_of (by decide) (fun Γ => sX7_takeBack Γ)
noncomputable def bX11_undo : Sx := (seqS (ifS (notC (zC 1 (cvE 7 fX7_takeBack [(2, (getE 11 7 2 (locE 2 0))), (2, (getE 11 4 2 (locE 2 0)))]))) (retZ (numE 0)) skipS) (seqS (putS 2 0 0 .int (getE 11 6 2 (locE 2 0)) (numE 0)) (retZ (numE 1))))
noncomputable def fX11_undo : Fn := runB 1 bX11_undo
theorem sX11_undo (Γ : Cx) : SO (cX11_undo, yX11_undo.cls, 3, 1, (some .boolean)) Γ 0 0 [] bX11_undo :=
  (S_seq (p1 := 16) (S_if (p1 := 14) (p2 := 16) (q := 16) (C_not (C_if_ne (E_callV mX7_takeBack cv_X11_243 (A_cons2 (E_getf fl_X11_55 (E_aload_n dX11_undo_0 rfl) dX11_undo_1) (A_cons2 (E_getf fl_X11_38 (E_aload_n dX11_undo_4 rfl) dX11_undo_5) A_nil)) dX11_undo_8 (by decide) ⟨by decide, by decide⟩ rfl (by decide)) dX11_undo_11 rfl)) (S_retz rfl (E_iconst dX11_undo_14 (by decide)) dX11_undo_15) S_skip)
  (S_seq (p1 := 24) (S_putf fp_X11_110 (E_getf fl_X11_48 (E_aload_n dX11_undo_16 rfl) dX11_undo_17) (E_iconst dX11_undo_20 (by decide)) dX11_undo_21)
  (S_retz rfl (E_iconst dX11_undo_24 (by decide)) dX11_undo_25)))
theorem mX11_undo : MO yX11_undo cX11_undo 1 (some .boolean) 3 fX11_undo := MO_of (by decide) (fun Γ => sX11_undo Γ)
noncomputable def bX11_uneasy : Sx := (seqS (ifS (orC (orC (orC (notC (zC 1 (cvE 11 fX11_isBeast [(2, (locE 2 0)), (0, (locE 0 1))]))) (cmpC 0 (aldE 100 (getE 6 3 2 (getE 11 4 2 (locE 2 0))) (locE 0 1)) (numE (-1)))) (cmpC 2 (locE 0 2) (numE 1))) (cmpC 4 (locE 0 2) (numE 99))) (retS (numE (-1))) skipS) (retS (cvE 2 fX2_tell [(2, (getE 11 6 2 (locE 2 0))), (0, (condE (zC 1 (locE 0 3)) (numE 3) (numE 4))), (0, (locE 0 1)), (0, (locE 0 2))])))
noncomputable def fX11_uneasy : Fn := runB 4 bX11_uneasy
theorem sX11_uneasy (Γ : Cx) : SO (cX11_uneasy, yX11_uneasy.cls, 2, 4, (some .int)) Γ 0 0 [] bX11_uneasy :=
  (S_seq (p1 := 34) (S_if (p1 := 32) (p2 := 34) (q := 34) (C_or (p1 := 26) (C_or (p1 := 21) (C_or (p1 := 8) (C_not (C_if_eq_n (E_callV mX11_isBeast cv_X11_117 (A_cons2 (E_aload_n dX11_uneasy_0 rfl) (A_cons0 (E_iload_n dX11_uneasy_1 rfl) A_nil)) dX11_uneasy_2 (by decide) ⟨by decide, by decide⟩ rfl (by decide)) dX11_uneasy_5 rfl)) (C_icmp_eq (E_iald (E_getf fl_X11_175 (E_getf fl_X11_38 (E_aload_n dX11_uneasy_8 rfl) dX11_uneasy_9) dX11_uneasy_12) (E_iload_n dX11_uneasy_15 rfl) dX11_uneasy_16) (E_iconst dX11_uneasy_17 (by decide)) dX11_uneasy_18 rfl)) (C_icmp_lt (E_iload_n dX11_uneasy_21 rfl) (E_iconst dX11_uneasy_22 (by decide)) dX11_uneasy_23 rfl)) (C_icmp_le_n (E_iload_n dX11_uneasy_26 rfl) (E_bipush dX11_uneasy_27 (by decide)) dX11_uneasy_29 rfl)) (S_reti rfl (E_iconst dX11_uneasy_32 (by decide)) dX11_uneasy_33) S_skip)
  (S_reti rfl (E_callV mX2_tell cv_X11_171 (A_cons2 (E_getf fl_X11_48 (E_aload_n dX11_uneasy_34 rfl) dX11_uneasy_35) (A_cons0 (E_cond (p1 := 42) (p2 := 46) (p3 := 47) (C_if_eq_n (E_iload_n dX11_uneasy_38 rfl) dX11_uneasy_39 rfl) (E_thru (E_iconst dX11_uneasy_42 (by decide)) dX11_uneasy_43 rfl) (E_iconst dX11_uneasy_46 (by decide))) (A_cons0 (E_iload_n dX11_uneasy_47 rfl) (A_cons0 (E_iload_n dX11_uneasy_48 rfl) A_nil)))) dX11_uneasy_49 (by decide) ⟨by decide, by decide⟩ rfl (by decide)) dX11_uneasy_52))
theorem mX11_uneasy : MO yX11_uneasy cX11_uneasy 4 (some .int) 2 fX11_uneasy := MO_of (by decide) (fun Γ => sX11_uneasy Γ)
noncomputable def bX12_emit : Sx := (seqS (seqS (astS 100 (getE 12 11 2 (locE 2 0)) (binE (fun x y => w32 (x + y)) (numE 1100) (getE 12 13 0 (locE 2 0))) (locE 0 1)) (seqS (astS 100 (getE 12 12 2 (locE 2 0)) (binE (fun x y => w32 (x + y)) (numE 1100) (getE 12 13 0 (locE 2 0))) (locE 0 2)) (fopS 12 13 (fun x y => w32 (x + y)) (locE 2 0) (numE 1)))) retV)
noncomputable def fX12_emit : Fn := runB 3 bX12_emit
theorem sX12_emit (Γ : Cx) : SO (cX12_emit, yX12_emit.cls, 1, 3, none) Γ 0 0 [] bX12_emit :=
  (S_seq (p1 := 38) (S_seq (p1 := 14) (S_iast (E_getf fl_X12_88 (E_aload_n dX12_emit_0 rfl) dX12_emit_1) (E_iadd (E_sipush dX12_emit_4 (by decide)) (E_getf fl_X12_194 (E_aload_n dX12_emit_7 rfl) dX12_emit_8) dX12_emit_11) (E_iload_n dX12_emit_12 rfl) dX12_emit_13)
  (S_seq (p1 := 28) (S_iast (E_getf fl_X12_91 (E_aload_n dX12_emit_14 rfl) dX12_emit_15) (E_iadd (E_sipush dX12_emit_18 (by decide)) (E_getf fl_X12_194 (E_aload_n dX12_emit_21 rfl) dX12_emit_22) dX12_emit_25) (E_iload_n dX12_emit_26 rfl) dX12_emit_27)
  (S_fop_iadd fl_X12_194 fp_X12_194 (E_aload_n dX12_emit_28 rfl) dX12_emit_29 dX12_emit_30 (E_iconst dX12_emit_33 (by decide)) dX12_emit_34 dX12_emit_35))) (S_retv rfl dX12_emit_38))
theorem mX12_emit : MO yX12_emit cX12_emit 3 none 1 fX12_emit := MO_of (by decide) (fun Γ => sX12_emit Γ)
noncomputable def bX12_isWord : Sx := (retZ (boolE (andC (andC (zC 0 (getE 12 8 0 (locE 2 0))) (cmpC 0 (aldE 100 (getE 12 4 2 (locE 2 0)) (getE 12 7 0 (locE 2 0))) (numE 1))) (cmpC 0 (aldE 101 (getE 12 6 2 (locE 2 0)) (getE 12 7 0 (locE 2 0))) (aldE 101 (getE 12 9 2 (locE 2 0)) (locE 0 1))))))
noncomputable def fX12_isWord : Fn := runB 2 bX12_isWord
theorem sX12_isWord (Γ : Cx) : SO (cX12_isWord, yX12_isWord.cls, 1, 2, (some .boolean)) Γ 0 0 [] bX12_isWord :=
  (S_retz rfl (E_bool (p1 := 39) (p2 := 43) (C_and (p1 := 20) (C_and (p1 := 7) (C_if_ne_n (E_getf fl_X12_165 (E_aload_n dX12_isWord_0 rfl) dX12_isWord_1) dX12_isWord_4 rfl) (C_icmp_ne_n (E_iald (E_getf fl_X12_24 (E_aload_n dX12_isWord_7 rfl) dX12_isWord_8) (E_getf fl_X12_162 (E_aload_n dX12_isWord_11 rfl) dX12_isWord_12) dX12_isWord_15) (E_iconst dX12_isWord_16 (by decide)) dX12_isWord_17 rfl)) (C_lcmp_ne_n (E_lald (E_getf fl_X12_30 (E_aload_n dX12_isWord_20 rfl) dX12_isWord_21) (E_getf fl_X12_162 (E_aload_n dX12_isWord_24 rfl) dX12_isWord_25) dX12_isWord_28) (E_lald (E_getf fl_X12_82 (E_aload_n dX12_isWord_29 rfl) dX12_isWord_30) (E_iload_n dX12_isWord_33 rfl) dX12_isWord_34) dX12_isWord_35 dX12_isWord_36 rfl)) dX12_isWord_39 dX12_isWord_40 dX12_isWord_43 rfl) dX12_isWord_44)
theorem mX12_isWord : MO yX12_isWord cX12_isWord 2 (some .boolean) 1 fX12_isWord := MO_of (by decide) (fun Γ => sX12_isWord Γ)
noncomputable def bX12_isSign : Sx := (retZ (boolE (andC (andC (zC 0 (getE 12 8 0 (locE 2 0))) (cmpC 0 (aldE 100 (getE 12 4 2 (locE 2 0)) (getE 12 7 0 (locE 2 0))) (numE 3))) (cmpC 0 (aldE 101 (getE 12 6 2 (locE 2 0)) (getE 12 7 0 (locE 2 0))) (unE (fun x => x) (locE 0 1))))))
noncomputable def fX12_isSign : Fn := runB 2 bX12_isSign
theorem sX12_isSign (Γ : Cx) : SO (cX12_isSign, yX12_isSign.cls, 1, 2, (some .boolean)) Γ 0 0 [] bX12_isSign :=
  (S_retz rfl (E_bool (p1 := 35) (p2 := 39) (C_and (p1 := 20) (C_and (p1 := 7) (C_if_ne_n (E_getf fl_X12_165 (E_aload_n dX12_isSign_0 rfl) dX12_isSign_1) dX12_isSign_4 rfl) (C_icmp_ne_n (E_iald (E_getf fl_X12_24 (E_aload_n dX12_isSign_7 rfl) dX12_isSign_8) (E_getf fl_X12_162 (E_aload_n dX12_isSign_11 rfl) dX12_isSign_12) dX12_isSign_15) (E_iconst dX12_isSign_16 (by decide)) dX12_isSign_17 rfl)) (C_lcmp_ne_n (E_lald (E_getf fl_X12_30 (E_aload_n dX12_isSign_20 rfl) dX12_isSign_21) (E_getf fl_X12_162 (E_aload_n dX12_isSign_24 rfl) dX12_isSign_25) dX12_isSign_28) (E_i2l (E_iload_n dX12_isSign_29 rfl) dX12_isSign_30) dX12_isSign_31 dX12_isSign_32 rfl)) dX12_isSign_35 dX12_isSign_36 dX12_isSign_39 rfl) dX12_isSign_40)
theorem mX12_isSign : MO yX12_isSign cX12_isSign 2 (some .boolean) 1 fX12_isSign := MO_of (by decide) (fun Γ => sX12_isSign Γ)
noncomputable def bX12_hasSign : Sx := (seqS (stS 2 0 (cvE 12 fX12_isSign [(2, (locE 2 0)), (0, (locE 0 1))])) (seqS (fopS 12 7 (fun x y => w32 (x + y)) (locE 2 0) (condE (zC 1 (locE 0 2)) (numE 1) (numE 0))) (retZ (locE 0 2))))
noncomputable def fX12_hasSign : Fn := runB 3 bX12_hasSign
theorem sX12_hasSign (Γ : Cx) : SO (cX12_hasSign, yX12_hasSign.cls, 2, 3, (some .boolean)) Γ 0 0 [] bX12_hasSign :=
  (S_seq (p1 := 6) (S_istore_n (E_callV mX12_isSign cv_X12_168 (A_cons2 (E_aload_n dX12_hasSign_0 rfl) (A_cons0 (E_iload_n dX12_hasSign_1 rfl) A_nil)) dX12_hasSign_2 (by decide) ⟨by decide, by decide⟩ rfl (by decide)) dX12_hasSign_5 rfl)
  (S_seq (p1 := 24) (S_fop_iadd fl_X12_162 fp_X12_162 (E_aload_n dX12_hasSign_6 rfl) dX12_hasSign_7 dX12_hasSign_8 (E_cond (p1 := 15) (p2 := 19) (p3 := 20) (C_if_eq_n (E_iload_n dX12_hasSign_11 rfl) dX12_hasSign_12 rfl) (E_thru (E_iconst dX12_hasSign_15 (by decide)) dX12_hasSign_16 rfl) (E_iconst dX12_hasSign_19 (by decide))) dX12_hasSign_20 dX12_hasSign_21)
  (S_retz rfl (E_iload_n dX12_hasSign_24 rfl) dX12_hasSign_25)))
theorem mX12_hasSign : MO yX12_hasSign cX12_hasSign 3 (some .boolean) 2 fX12_hasSign := MO_of (by decide) (fun Γ => sX12_hasSign Γ)
noncomputable def kX12_factHere_0c : Cn := (cmpC 2 (locE 0 2) (condE (zC 1 (getE 12 18 0 (locE 2 0))) (numE 6) (numE 8)))
noncomputable def kX12_factHere_0b : Sx := (stS 1 0 (condE (zC 1 (cvE 12 fX12_isWord [(2, (locE 2 0)), (0, (condE (zC 1 (getE 12 18 0 (locE 2 0))) (aldE 100 (getE 12 20 2 (locE 2 0)) (locE 0 2)) (aldE 100 (getE 12 19 2 (locE 2 0)) (locE 0 2))))])) (locE 0 2) (locE 0 1)))
noncomputable def kX12_factHere_0u : Sx := (incS 2 1)
noncomputable def kX12_factHere_0 : Sx := loopS 2 3 kX12_factHere_0c kX12_factHere_0b kX12_factHere_0u
noncomputable def bX12_factHere : Sx := (seqS (stS 1 0 (numE (-1))) (seqS (seqS (stS 2 0 (numE 0)) kX12_factHere_0) (retS (locE 0 1))))
noncomputable def fX12_factHere : Fn := runB 3 bX12_factHere
theorem sX12_factHere (Γ : Cx) : SO (cX12_factHere, yX12_factHere.cls, 2, 3, (some .int)) Γ 0 0 [] bX12_factHere :=
  (S_seq (p1 := 2) (S_istore_n (E_iconst dX12_factHere_0 (by decide)) dX12_factHere_1 rfl)
  (S_seq (p1 := 63) (S_seq (p1 := 4) (S_istore_n (E_iconst dX12_factHere_2 (by decide)) dX12_factHere_3 rfl) (S_loop (p1 := 22) (p2 := 63) (p3 := 57) (kb := 2) (kc := 3) (by decide) (by decide) (by decide) (C_icmp_ge_n (E_iload_n dX12_factHere_4 rfl) (E_cond (p1 := 12) (p2 := 17) (p3 := 19) (C_if_eq_n (E_getf fl_X12_240 (E_aload_n dX12_factHere_5 rfl) dX12_factHere_6) dX12_factHere_9 rfl) (E_thru (E_bipush dX12_factHere_12 (by decide)) dX12_factHere_14 rfl) (E_bipush dX12_factHere_17 (by decide))) dX12_factHere_19 rfl)
  (S_istore_n (E_cond (p1 := 51) (p2 := 55) (p3 := 56) (C_if_eq_n (E_callV mX12_isWord cv_X12_175 (A_cons2 (E_aload_n dX12_factHere_22 rfl) (A_cons0 (E_cond (p1 := 30) (p2 := 39) (p3 := 45) (C_if_eq_n (E_getf fl_X12_240 (E_aload_n dX12_factHere_23 rfl) dX12_factHere_24) dX12_factHere_27 rfl) (E_thru (E_iald (E_getf fl_X12_103 (E_aload_n dX12_factHere_30 rfl) dX12_factHere_31) (E_iload_n dX12_factHere_34 rfl) dX12_factHere_35) dX12_factHere_36 rfl) (E_iald (E_getf fl_X12_100 (E_aload_n dX12_factHere_39 rfl) dX12_factHere_40) (E_iload_n dX12_factHere_43 rfl) dX12_factHere_44)) A_nil)) dX12_factHere_45 (by decide) ⟨by decide, by decide⟩ rfl (by decide)) dX12_factHere_48 rfl) (E_thru (E_iload_n dX12_factHere_51 rfl) dX12_factHere_52 rfl) (E_iload_n dX12_factHere_55 rfl)) dX12_factHere_56 rfl)
  (S_thru (S_iinc dX12_factHere_57) dX12_factHere_60 rfl)))
  (S_reti rfl (E_iload_n dX12_factHere_63 rfl) dX12_factHere_64)))
theorem mX12_factHere : MO yX12_factHere cX12_factHere 3 (some .int) 2 fX12_factHere := MO_of (by decide) (fun Γ => sX12_factHere Γ)
noncomputable def bX12_hasWord : Sx := (seqS (stS 2 0 (cvE 12 fX12_isWord [(2, (locE 2 0)), (0, (locE 0 1))])) (seqS (fopS 12 7 (fun x y => w32 (x + y)) (locE 2 0) (condE (zC 1 (locE 0 2)) (numE 1) (numE 0))) (retZ (locE 0 2))))
noncomputable def fX12_hasWord : Fn := runB 3 bX12_hasWord
theorem sX12_hasWord (Γ : Cx) : SO (cX12_hasWord, yX12_hasWord.cls, 2, 3, (some .boolean)) Γ 0 0 [] bX12_hasWord :=
  (S_seq (p1 := 6) (S_istore_n (E_callV mX12_isWord cv_X12_175 (A_cons2 (E_aload_n dX12_hasWord_0 rfl) (A_cons0 (E_iload_n dX12_hasWord_1 rfl) A_nil)) dX12_hasWord_2 (by decide) ⟨by decide, by decide⟩ rfl (by decide)) dX12_hasWord_5 rfl)
  (S_seq (p1 := 24) (S_fop_iadd fl_X12_162 fp_X12_162 (E_aload_n dX12_hasWord_6 rfl) dX12_hasWord_7 dX12_hasWord_8 (E_cond (p1 := 15) (p2 := 19) (p3 := 20) (C_if_eq_n (E_iload_n dX12_hasWord_11 rfl) dX12_hasWord_12 rfl) (E_thru (E_iconst dX12_hasWord_15 (by decide)) dX12_hasWord_16 rfl) (E_iconst dX12_hasWord_19 (by decide))) dX12_hasWord_20 dX12_hasWord_21)
  (S_retz rfl (E_iload_n dX12_hasWord_24 rfl) dX12_hasWord_25)))
theorem mX12_hasWord : MO yX12_hasWord cX12_hasWord 3 (some .boolean) 2 fX12_hasWord := MO_of (by decide) (fun Γ => sX12_hasWord Γ)
noncomputable def bX12_wrong : Sx := (seqS (ifS (zC 0 (getE 12 8 0 (locE 2 0))) (putS 12 8 0 .int (locE 2 0) (binE (fun x y => w32 (x + y)) (locE 0 1) (binE (fun x y => w32 (x * y)) (numE 16) (aldE 100 (getE 12 5 2 (locE 2 0)) (getE 12 7 0 (locE 2 0)))))) skipS) retV)
noncomputable def fX12_wrong : Fn := runB 2 bX12_wrong
theorem sX12_wrong (Γ : Cx) : SO (cX12_wrong, yX12_wrong.cls, 1, 2, none) Γ 0 0 [] bX12_wrong :=
  (S_seq (p1 := 25) (S_if (p1 := 7) (p2 := 25) (q := 25) (C_if_ne_n (E_getf fl_X12_165 (E_aload_n dX12_wrong_0 rfl) dX12_wrong_1) dX12_wrong_4 rfl) (S_putf fp_X12_165 (E_aload_n dX12_wrong_7 rfl) (E_iadd (E_iload_n dX12_wrong_8 rfl) (E_imul (E_bipush dX12_wrong_9 (by decide)) (E_iald (E_getf fl_X12_27 (E_aload_n dX12_wrong_11 rfl) dX12_wrong_12) (E_getf fl_X12_162 (E_aload_n dX12_wrong_15 rfl) dX12_wrong_16) dX12_wrong_19) dX12_wrong_20) dX12_wrong_21) dX12_wrong_22) S_skip) (S_retv rfl dX12_wrong_25))
theorem mX12_wrong : MO yX12_wrong cX12_wrong 2 none 1 fX12_wrong := MO_of (by decide) (fun Γ => sX12_wrong Γ)
noncomputable def bX12_takeSign : Sx := (seqS (ifS (zC 1 (cvE 12 fX12_isSign [(2, (locE 2 0)), (0, (locE 0 1))])) (fopS 12 7 (fun x y => w32 (x + y)) (locE 2 0) (numE 1)) (exS (cvE 12 fX12_wrong [(2, (locE 2 0)), (0, (numE 1))]))) retV)
noncomputable def fX12_takeSign : Fn := runB 2 bX12_takeSign
theorem sX12_takeSign (Γ : Cx) : SO (cX12_takeSign, yX12_takeSign.cls, 2, 2, none) Γ 0 0 [] bX12_takeSign :=
  (S_seq (p1 := 26) (S_if (p1 := 8) (p2 := 21) (q := 26) (C_if_eq_n (E_callV mX12_isSign cv_X12_168 (A_cons2 (E_aload_n dX12_takeSign_0 rfl) (A_cons0 (E_iload_n dX12_takeSign_1 rfl) A_nil)) dX12_takeSign_2 (by decide) ⟨by decide, by decide⟩ rfl (by decide)) dX12_takeSign_5 rfl)
  (S_thru (S_fop_iadd fl_X12_162 fp_X12_162 (E_aload_n dX12_takeSign_8 rfl) dX12_takeSign_9 dX12_takeSign_10 (E_iconst dX12_takeSign_13 (by decide)) dX12_takeSign_14 dX12_takeSign_15) dX12_takeSign_18 rfl)
  (S_callV mX12_wrong cv_X12_171 (A_cons2 (E_aload_n dX12_takeSign_21 rfl) (A_cons0 (E_iconst dX12_takeSign_22 (by decide)) A_nil)) dX12_takeSign_23 (by decide) rfl)) (S_retv rfl dX12_takeSign_26))
theorem mX12_takeSign : MO yX12_takeSign cX12_takeSign 2 none 2 fX12_takeSign := MO_of (by decide) (fun Γ => sX12_takeSign Γ)
noncomputable def kX12_all_0c (g : Nat → Fn) : Cn := (orC (zC 1 (cvE 12 fX12_isWord [(2, (locE 2 0)), (0, (numE 16))])) (zC 1 (cvE 12 fX12_isWord [(2, (locE 2 0)), (0, (numE 17))])))
noncomputable def kX12_all_0b (g : Nat → Fn) : Sx := (seqS (stS 2 0 (cvE 12 fX12_isWord [(2, (locE 2 0)), (0, (numE 16))])) (seqS (fopS 12 7 (fun x y => w32 (x + y)) (locE 2 0) (numE 1)) (seqS (exS (cvE 12 (g 4) [(2, (locE 2 0)), (0, (locE 0 1))])) (exS (cvE 12 fX12_emit [(2, (locE 2 0)), (0, (condE (zC 1 (locE 0 2)) (numE 9) (numE 10))), (0, (numE 0))])))))
noncomputable def kX12_all_0u (g : Nat → Fn) : Sx := skipS
noncomputable def kX12_all_0 (g : Nat → Fn) : Sx := loopS 2 3 (kX12_all_0c g) (kX12_all_0b g) (kX12_all_0u g)
noncomputable def bX12_all (g : Nat → Fn) : Sx := (seqS (seqS (exS (cvE 12 (g 4) [(2, (locE 2 0)), (0, (locE 0 1))])) (kX12_all_0 g)) retV)
noncomputable def kX12_products_0c (g : Nat → Fn) : Cn := (zC 1 (cvE 12 fX12_hasSign [(2, (locE 2 0)), (0, (numE 42))]))
noncomputable def kX12_products_0b (g : Nat → Fn) : Sx := (seqS (exS (cvE 12 (g 3) [(2, (locE 2 0)), (0, (locE 0 1))])) (exS (cvE 12 fX12_emit [(2, (locE 2 0)), (0, (numE 6)), (0, (numE 0))])))
noncomputable def kX12_products_0u (g : Nat → Fn) : Sx := skipS
noncomputable def kX12_products_0 (g : Nat → Fn) : Sx := loopS 2 3 (kX12_products_0c g) (kX12_products_0b g) (kX12_products_0u g)
noncomputable def bX12_products (g : Nat → Fn) : Sx := (seqS (seqS (exS (cvE 12 (g 3) [(2, (locE 2 0)), (0, (locE 0 1))])) (kX12_products_0 g)) retV)
noncomputable def kX12_sums_0c (g : Nat → Fn) : Cn := (orC (zC 1 (cvE 12 fX12_isSign [(2, (locE 2 0)), (0, (numE 43))])) (zC 1 (cvE 12 fX12_isSign [(2, (locE 2 0)), (0, (numE 45))])))
noncomputable def kX12_sums_0b (g : Nat → Fn) : Sx := (seqS (stS 2 0 (cvE 12 fX12_isSign [(2, (locE 2 0)), (0, (numE 43))])) (seqS (fopS 12 7 (fun x y => w32 (x + y)) (locE 2 0) (numE 1)) (seqS (exS (cvE 12 (g 1) [(2, (locE 2 0)), (0, (locE 0 1))])) (exS (cvE 12 fX12_emit [(2, (locE 2 0)), (0, (condE (zC 1 (locE 0 2)) (numE 4) (numE 5))), (0, (numE 0))])))))
noncomputable def kX12_sums_0u (g : Nat → Fn) : Sx := skipS
noncomputable def kX12_sums_0 (g : Nat → Fn) : Sx := loopS 2 3 (kX12_sums_0c g) (kX12_sums_0b g) (kX12_sums_0u g)
noncomputable def bX12_sums (g : Nat → Fn) : Sx := (seqS (seqS (exS (cvE 12 (g 1) [(2, (locE 2 0)), (0, (locE 0 1))])) (kX12_sums_0 g)) retV)
noncomputable def bX12_takePart (g : Nat → Fn) : Sx := (seqS (seqS (ifS (zC 4 (getE 12 8 0 (locE 2 0))) retV skipS) (seqS (stS 2 0 (boolE (cmpC 0 (aldE 100 (getE 12 4 2 (locE 2 0)) (getE 12 7 0 (locE 2 0))) (numE 2)))) (seqS (stS 3 0 (cvE 12 fX12_factHere [(2, (locE 2 0))])) (seqS (ifS (andC (andC (andC (zC 2 (locE 0 3)) (notC (zC 1 (locE 0 2)))) (notC (zC 1 (cvE 12 fX12_isSign [(2, (locE 2 0)), (0, (numE 40))])))) (notC (zC 1 (cvE 12 fX12_isWord [(2, (locE 2 0)), (0, (numE 15))])))) (exS (cvE 12 fX12_wrong [(2, (locE 2 0)), (0, (numE 1))])) (ifS (cmpC 0 (locE 0 1) (numE 5)) (exS (cvE 12 fX12_wrong [(2, (locE 2 0)), (0, (numE 5))])) skipS)) (seqS (ifS (zC 4 (getE 12 8 0 (locE 2 0))) retV skipS) (ifS (zC 1 (cvE 12 fX12_hasWord [(2, (locE 2 0)), (0, (numE 15))])) (seqS (exS (cvE 12 (g 3) [(2, (locE 2 0)), (0, (binE (fun x y => w32 (x + y)) (locE 0 1) (numE 1)))])) (exS (cvE 12 fX12_emit [(2, (locE 2 0)), (0, (numE 3)), (0, (numE 0))]))) (ifS (zC 1 (cvE 12 fX12_hasSign [(2, (locE 2 0)), (0, (numE 40))])) (seqS (exS (cvE 12 (g 0) [(2, (locE 2 0)), (0, (binE (fun x y => w32 (x + y)) (locE 0 1) (numE 1)))])) (exS (cvE 12 fX12_takeSign [(2, (locE 2 0)), (0, (numE 41))]))) (seqS (exS (cvE 12 fX12_emit [(2, (locE 2 0)), (0, (condE (zC 1 (locE 0 2)) (numE 1) (numE 2))), (0, (condE (zC 1 (locE 0 2)) (unE w32 (aldE 101 (getE 12 6 2 (locE 2 0)) (getE 12 7 0 (locE 2 0)))) (locE 0 3)))])) (fopS 12 7 (fun x y => w32 (x + y)) (locE 2 0) (numE 1)))))))))) retV)
noncomputable def bX12_test (g : Nat → Fn) : Sx := (seqS (seqS (exS (cvE 12 (g 2) [(2, (locE 2 0)), (0, (locE 0 1))])) (seqS (stS 2 0 (cvE 12 fX12_isSign [(2, (locE 2 0)), (0, (numE 60))])) (ifS (orC (zC 1 (cvE 12 fX12_hasSign [(2, (locE 2 0)), (0, (numE 60))])) (zC 1 (cvE 12 fX12_hasSign [(2, (locE 2 0)), (0, (numE 61))]))) (seqS (exS (cvE 12 (g 2) [(2, (locE 2 0)), (0, (locE 0 1))])) (exS (cvE 12 fX12_emit [(2, (locE 2 0)), (0, (condE (zC 1 (locE 0 2)) (numE 7) (numE 8))), (0, (numE 0))]))) skipS))) retV)
noncomputable def gGX12_all : Nat → Nat → Fn
  | 0 => fun _ _ _ _ => none
  | n + 1 => fun i => match i with
    | 0 => runB 3 (bX12_all (gGX12_all n))
    | 1 => runB 2 (bX12_products (gGX12_all n))
    | 2 => runB 3 (bX12_sums (gGX12_all n))
    | 3 => runB 4 (bX12_takePart (gGX12_all n))
    | 4 => runB 3 (bX12_test (gGX12_all n))
    | _ => fun _ _ _ => none
def yGX12_all_t : Nat → MethodName := fun i => match i with
  | 0 => yX12_all
  | 1 => yX12_products
  | 2 => yX12_sums
  | 3 => yX12_takePart
  | 4 => yX12_test
  | _ => yX12_all
def cGX12_all_t : Nat → ByteArray := fun i => match i with
  | 0 => cX12_all
  | 1 => cX12_products
  | 2 => cX12_sums
  | 3 => cX12_takePart
  | 4 => cX12_test
  | _ => cX12_all
def lGX12_all_t : Nat → Nat := fun i => match i with
  | 0 => 3
  | 1 => 2
  | 2 => 3
  | 3 => 4
  | 4 => 3
  | _ => 0
def rGX12_all_t : Nat → Option FieldType := fun i => match i with
  | 0 => none
  | 1 => none
  | 2 => none
  | 3 => none
  | 4 => none
  | _ => none
theorem sX12_all (Γ : Cx) (n : Nat) (g : Nat → Fn) (hg : ∀ i : Nat, MO (yGX12_all_t i) (cGX12_all_t i) (lGX12_all_t i) (rGX12_all_t i) (3 + n) (g i)) : SO (cX12_all, yX12_all.cls, (3 + n + 1), 3, none) Γ 0 0 [] (bX12_all g) :=
  have hdep : (3 + n) + 1 ≤ 3 + n + 1 := Nat.le_refl _
  (S_seq (p1 := 64) (S_seq (p1 := 5) (S_callV (hg 4) cv_X12_250 (A_cons2 (E_aload_n dX12_all_0 rfl) (A_cons0 (E_iload_n dX12_all_1 rfl) A_nil)) dX12_all_2 hdep rfl)
  (S_loop (p1 := 23) (p2 := 64) (p3 := 5) (kb := 2) (kc := 3) (by decide) (by decide) (by decide) (C_or (p1 := 14) (C_if_ne (E_callV mX12_isWord cv_X12_175 (A_cons2 (E_aload_n dX12_all_5 rfl) (A_cons0 (E_bipush dX12_all_6 (by decide)) A_nil)) dX12_all_8 (show 1 + 1 ≤ 3 + n + 1 by omega) ⟨by decide, by decide⟩ rfl (by decide)) dX12_all_11 rfl) (C_if_eq_n (E_callV mX12_isWord cv_X12_175 (A_cons2 (E_aload_n dX12_all_14 rfl) (A_cons0 (E_bipush dX12_all_15 (by decide)) A_nil)) dX12_all_17 (show 1 + 1 ≤ 3 + n + 1 by omega) ⟨by decide, by decide⟩ rfl (by decide)) dX12_all_20 rfl))
  (S_thru (S_seq (p1 := 30) (S_istore_n (E_callV mX12_isWord cv_X12_175 (A_cons2 (E_aload_n dX12_all_23 rfl) (A_cons0 (E_bipush dX12_all_24 (by decide)) A_nil)) dX12_all_26 (show 1 + 1 ≤ 3 + n + 1 by omega) ⟨by decide, by decide⟩ rfl (by decide)) dX12_all_29 rfl)
  (S_seq (p1 := 40) (S_fop_iadd fl_X12_162 fp_X12_162 (E_aload_n dX12_all_30 rfl) dX12_all_31 dX12_all_32 (E_iconst dX12_all_35 (by decide)) dX12_all_36 dX12_all_37)
  (S_seq (p1 := 45) (S_callV (hg 4) cv_X12_250 (A_cons2 (E_aload_n dX12_all_40 rfl) (A_cons0 (E_iload_n dX12_all_41 rfl) A_nil)) dX12_all_42 hdep rfl)
  (S_callV mX12_emit cv_X12_246 (A_cons2 (E_aload_n dX12_all_45 rfl) (A_cons0 (E_cond (p1 := 50) (p2 := 55) (p3 := 57) (C_if_eq_n (E_iload_n dX12_all_46 rfl) dX12_all_47 rfl) (E_thru (E_bipush dX12_all_50 (by decide)) dX12_all_52 rfl) (E_bipush dX12_all_55 (by decide))) (A_cons0 (E_iconst dX12_all_57 (by decide)) A_nil))) dX12_all_58 (show 1 + 1 ≤ 3 + n + 1 by omega) rfl)))) dX12_all_61 rfl)
  S_skip)) (S_retv rfl dX12_all_64))
theorem sX12_products (Γ : Cx) (n : Nat) (g : Nat → Fn) (hg : ∀ i : Nat, MO (yGX12_all_t i) (cGX12_all_t i) (lGX12_all_t i) (rGX12_all_t i) (3 + n) (g i)) : SO (cX12_products, yX12_products.cls, (3 + n + 1), 2, none) Γ 0 0 [] (bX12_products g) :=
  have hdep : (3 + n) + 1 ≤ 3 + n + 1 := Nat.le_refl _
  (S_seq (p1 := 29) (S_seq (p1 := 5) (S_callV (hg 3) cv_X12_262 (A_cons2 (E_aload_n dX12_products_0 rfl) (A_cons0 (E_iload_n dX12_products_1 rfl) A_nil)) dX12_products_2 hdep rfl)
  (S_loop (p1 := 14) (p2 := 29) (p3 := 5) (kb := 2) (kc := 3) (by decide) (by decide) (by decide) (C_if_eq_n (E_callV mX12_hasSign cv_X12_256 (A_cons2 (E_aload_n dX12_products_5 rfl) (A_cons0 (E_bipush dX12_products_6 (by decide)) A_nil)) dX12_products_8 (show 2 + 1 ≤ 3 + n + 1 by omega) ⟨by decide, by decide⟩ rfl (by decide)) dX12_products_11 rfl)
  (S_thru (S_seq (p1 := 19) (S_callV (hg 3) cv_X12_262 (A_cons2 (E_aload_n dX12_products_14 rfl) (A_cons0 (E_iload_n dX12_products_15 rfl) A_nil)) dX12_products_16 hdep rfl)
  (S_callV mX12_emit cv_X12_246 (A_cons2 (E_aload_n dX12_products_19 rfl) (A_cons0 (E_bipush dX12_products_20 (by decide)) (A_cons0 (E_iconst dX12_products_22 (by decide)) A_nil))) dX12_products_23 (show 1 + 1 ≤ 3 + n + 1 by omega) rfl)) dX12_products_26 rfl)
  S_skip)) (S_retv rfl dX12_products_29))
theorem sX12_sums (Γ : Cx) (n : Nat) (g : Nat → Fn) (hg : ∀ i : Nat, MO (yGX12_all_t i) (cGX12_all_t i) (lGX12_all_t i) (rGX12_all_t i) (3 + n) (g i)) : SO (cX12_sums, yX12_sums.cls, (3 + n + 1), 3, none) Γ 0 0 [] (bX12_sums g) :=
  have hdep : (3 + n) + 1 ≤ 3 + n + 1 := Nat.le_refl _
  (S_seq (p1 := 62) (S_seq (p1 := 5) (S_callV (hg 1) cv_X12_259 (A_cons2 (E_aload_n dX12_sums_0 rfl) (A_cons0 (E_iload_n dX12_sums_1 rfl) A_nil)) dX12_sums_2 hdep rfl)
  (S_loop (p1 := 23) (p2 := 62) (p3 := 5) (kb := 2) (kc := 3) (by decide) (by decide) (by decide) (C_or (p1 := 14) (C_if_ne (E_callV mX12_isSign cv_X12_168 (A_cons2 (E_aload_n dX12_sums_5 rfl) (A_cons0 (E_bipush dX12_sums_6 (by decide)) A_nil)) dX12_sums_8 (show 1 + 1 ≤ 3 + n + 1 by omega) ⟨by decide, by decide⟩ rfl (by decide)) dX12_sums_11 rfl) (C_if_eq_n (E_callV mX12_isSign cv_X12_168 (A_cons2 (E_aload_n dX12_sums_14 rfl) (A_cons0 (E_bipush dX12_sums_15 (by decide)) A_nil)) dX12_sums_17 (show 1 + 1 ≤ 3 + n + 1 by omega) ⟨by decide, by decide⟩ rfl (by decide)) dX12_sums_20 rfl))
  (S_thru (S_seq (p1 := 30) (S_istore_n (E_callV mX12_isSign cv_X12_168 (A_cons2 (E_aload_n dX12_sums_23 rfl) (A_cons0 (E_bipush dX12_sums_24 (by decide)) A_nil)) dX12_sums_26 (show 1 + 1 ≤ 3 + n + 1 by omega) ⟨by decide, by decide⟩ rfl (by decide)) dX12_sums_29 rfl)
  (S_seq (p1 := 40) (S_fop_iadd fl_X12_162 fp_X12_162 (E_aload_n dX12_sums_30 rfl) dX12_sums_31 dX12_sums_32 (E_iconst dX12_sums_35 (by decide)) dX12_sums_36 dX12_sums_37)
  (S_seq (p1 := 45) (S_callV (hg 1) cv_X12_259 (A_cons2 (E_aload_n dX12_sums_40 rfl) (A_cons0 (E_iload_n dX12_sums_41 rfl) A_nil)) dX12_sums_42 hdep rfl)
  (S_callV mX12_emit cv_X12_246 (A_cons2 (E_aload_n dX12_sums_45 rfl) (A_cons0 (E_cond (p1 := 50) (p2 := 54) (p3 := 55) (C_if_eq_n (E_iload_n dX12_sums_46 rfl) dX12_sums_47 rfl) (E_thru (E_iconst dX12_sums_50 (by decide)) dX12_sums_51 rfl) (E_iconst dX12_sums_54 (by decide))) (A_cons0 (E_iconst dX12_sums_55 (by decide)) A_nil))) dX12_sums_56 (show 1 + 1 ≤ 3 + n + 1 by omega) rfl)))) dX12_sums_59 rfl)
  S_skip)) (S_retv rfl dX12_sums_62))
theorem sX12_takePart (Γ : Cx) (n : Nat) (g : Nat → Fn) (hg : ∀ i : Nat, MO (yGX12_all_t i) (cGX12_all_t i) (lGX12_all_t i) (rGX12_all_t i) (3 + n) (g i)) : SO (cX12_takePart, yX12_takePart.cls, (3 + n + 1), 4, none) Γ 0 0 [] (bX12_takePart g) :=
  have hdep : (3 + n) + 1 ≤ 3 + n + 1 := Nat.le_refl _
  (S_seq (p1 := 175) (S_seq (p1 := 8) (S_if (p1 := 7) (p2 := 8) (q := 8) (C_if_le_n (E_getf fl_X12_165 (E_aload_n dX12_takePart_0 rfl) dX12_takePart_1) dX12_takePart_4 rfl) (S_retv rfl dX12_takePart_7) S_skip)
  (S_seq (p1 := 27) (S_istore_n (E_bool (p1 := 21) (p2 := 25) (C_icmp_ne_n (E_iald (E_getf fl_X12_24 (E_aload_n dX12_takePart_8 rfl) dX12_takePart_9) (E_getf fl_X12_162 (E_aload_n dX12_takePart_12 rfl) dX12_takePart_13) dX12_takePart_16) (E_iconst dX12_takePart_17 (by decide)) dX12_takePart_18 rfl) dX12_takePart_21 dX12_takePart_22 dX12_takePart_25 rfl) dX12_takePart_26 rfl)
  (S_seq (p1 := 32) (S_istore_n (E_callV mX12_factHere cv_X12_265 (A_cons2 (E_aload_n dX12_takePart_27 rfl) A_nil) dX12_takePart_28 (show 2 + 1 ≤ 3 + n + 1 by omega) ⟨by decide, by decide⟩ rfl (by decide)) dX12_takePart_31 rfl)
  (S_seq (p1 := 76) (S_if (p1 := 58) (p2 := 66) (q := 76) (C_and (p1 := 49) (C_and (p1 := 40) (C_and (p1 := 36) (C_if_ge_n (E_iload_n dX12_takePart_32 rfl) dX12_takePart_33 rfl) (C_not (C_if_ne (E_iload_n dX12_takePart_36 rfl) dX12_takePart_37 rfl))) (C_not (C_if_ne (E_callV mX12_isSign cv_X12_168 (A_cons2 (E_aload_n dX12_takePart_40 rfl) (A_cons0 (E_bipush dX12_takePart_41 (by decide)) A_nil)) dX12_takePart_43 (show 1 + 1 ≤ 3 + n + 1 by omega) ⟨by decide, by decide⟩ rfl (by decide)) dX12_takePart_46 rfl))) (C_not (C_if_ne (E_callV mX12_isWord cv_X12_175 (A_cons2 (E_aload_n dX12_takePart_49 rfl) (A_cons0 (E_bipush dX12_takePart_50 (by decide)) A_nil)) dX12_takePart_52 (show 1 + 1 ≤ 3 + n + 1 by omega) ⟨by decide, by decide⟩ rfl (by decide)) dX12_takePart_55 rfl)))
  (S_thru (S_callV mX12_wrong cv_X12_171 (A_cons2 (E_aload_n dX12_takePart_58 rfl) (A_cons0 (E_iconst dX12_takePart_59 (by decide)) A_nil)) dX12_takePart_60 (show 1 + 1 ≤ 3 + n + 1 by omega) rfl) dX12_takePart_63 rfl)
  (S_if (p1 := 71) (p2 := 76) (q := 76) (C_icmp_ne_n (E_iload_n dX12_takePart_66 rfl) (E_iconst dX12_takePart_67 (by decide)) dX12_takePart_68 rfl) (S_callV mX12_wrong cv_X12_171 (A_cons2 (E_aload_n dX12_takePart_71 rfl) (A_cons0 (E_iconst dX12_takePart_72 (by decide)) A_nil)) dX12_takePart_73 (show 1 + 1 ≤ 3 + n + 1 by omega) rfl) S_skip))
  (S_seq (p1 := 84) (S_if (p1 := 83) (p2 := 84) (q := 84) (C_if_le_n (E_getf fl_X12_165 (E_aload_n dX12_takePart_76 rfl) dX12_takePart_77) dX12_takePart_80 rfl) (S_retv rfl dX12_takePart_83) S_skip)
  (S_if (p1 := 93) (p2 := 109) (q := 175) (C_if_eq_n (E_callV mX12_hasWord cv_X12_178 (A_cons2 (E_aload_n dX12_takePart_84 rfl) (A_cons0 (E_bipush dX12_takePart_85 (by decide)) A_nil)) dX12_takePart_87 (show 2 + 1 ≤ 3 + n + 1 by omega) ⟨by decide, by decide⟩ rfl (by decide)) dX12_takePart_90 rfl)
  (S_thru (S_seq (p1 := 100) (S_callV (hg 3) cv_X12_262 (A_cons2 (E_aload_n dX12_takePart_93 rfl) (A_cons0 (E_iadd (E_iload_n dX12_takePart_94 rfl) (E_iconst dX12_takePart_95 (by decide)) dX12_takePart_96) A_nil)) dX12_takePart_97 hdep rfl)
  (S_callV mX12_emit cv_X12_246 (A_cons2 (E_aload_n dX12_takePart_100 rfl) (A_cons0 (E_iconst dX12_takePart_101 (by decide)) (A_cons0 (E_iconst dX12_takePart_102 (by decide)) A_nil))) dX12_takePart_103 (show 1 + 1 ≤ 3 + n + 1 by omega) rfl)) dX12_takePart_106 rfl)
  (S_if (p1 := 118) (p2 := 134) (q := 175) (C_if_eq_n (E_callV mX12_hasSign cv_X12_256 (A_cons2 (E_aload_n dX12_takePart_109 rfl) (A_cons0 (E_bipush dX12_takePart_110 (by decide)) A_nil)) dX12_takePart_112 (show 2 + 1 ≤ 3 + n + 1 by omega) ⟨by decide, by decide⟩ rfl (by decide)) dX12_takePart_115 rfl)
  (S_thru (S_seq (p1 := 125) (S_callV (hg 0) cv_X12_243 (A_cons2 (E_aload_n dX12_takePart_118 rfl) (A_cons0 (E_iadd (E_iload_n dX12_takePart_119 rfl) (E_iconst dX12_takePart_120 (by decide)) dX12_takePart_121) A_nil)) dX12_takePart_122 hdep rfl)
  (S_callV mX12_takeSign cv_X12_204 (A_cons2 (E_aload_n dX12_takePart_125 rfl) (A_cons0 (E_bipush dX12_takePart_126 (by decide)) A_nil)) dX12_takePart_128 (show 2 + 1 ≤ 3 + n + 1 by omega) rfl)) dX12_takePart_131 rfl)
  (S_seq (p1 := 165) (S_callV mX12_emit cv_X12_246 (A_cons2 (E_aload_n dX12_takePart_134 rfl) (A_cons0 (E_cond (p1 := 139) (p2 := 143) (p3 := 144) (C_if_eq_n (E_iload_n dX12_takePart_135 rfl) dX12_takePart_136 rfl) (E_thru (E_iconst dX12_takePart_139 (by decide)) dX12_takePart_140 rfl) (E_iconst dX12_takePart_143 (by decide))) (A_cons0 (E_cond (p1 := 148) (p2 := 161) (p3 := 162) (C_if_eq_n (E_iload_n dX12_takePart_144 rfl) dX12_takePart_145 rfl) (E_thru (E_l2i (E_lald (E_getf fl_X12_30 (E_aload_n dX12_takePart_148 rfl) dX12_takePart_149) (E_getf fl_X12_162 (E_aload_n dX12_takePart_152 rfl) dX12_takePart_153) dX12_takePart_156) dX12_takePart_157) dX12_takePart_158 rfl) (E_iload_n dX12_takePart_161 rfl)) A_nil))) dX12_takePart_162 (show 1 + 1 ≤ 3 + n + 1 by omega) rfl)
  (S_fop_iadd fl_X12_162 fp_X12_162 (E_aload_n dX12_takePart_165 rfl) dX12_takePart_166 dX12_takePart_167 (E_iconst dX12_takePart_170 (by decide)) dX12_takePart_171 dX12_takePart_172))))))))) (S_retv rfl dX12_takePart_175))
theorem sX12_test (Γ : Cx) (n : Nat) (g : Nat → Fn) (hg : ∀ i : Nat, MO (yGX12_all_t i) (cGX12_all_t i) (lGX12_all_t i) (rGX12_all_t i) (3 + n) (g i)) : SO (cX12_test, yX12_test.cls, (3 + n + 1), 3, none) Γ 0 0 [] (bX12_test g) :=
  have hdep : (3 + n) + 1 ≤ 3 + n + 1 := Nat.le_refl _
  (S_seq (p1 := 51) (S_seq (p1 := 5) (S_callV (hg 2) cv_X12_253 (A_cons2 (E_aload_n dX12_test_0 rfl) (A_cons0 (E_iload_n dX12_test_1 rfl) A_nil)) dX12_test_2 hdep rfl)
  (S_seq (p1 := 12) (S_istore_n (E_callV mX12_isSign cv_X12_168 (A_cons2 (E_aload_n dX12_test_5 rfl) (A_cons0 (E_bipush dX12_test_6 (by decide)) A_nil)) dX12_test_8 (show 1 + 1 ≤ 3 + n + 1 by omega) ⟨by decide, by decide⟩ rfl (by decide)) dX12_test_11 rfl)
  (S_if (p1 := 30) (p2 := 51) (q := 51) (C_or (p1 := 21) (C_if_ne (E_callV mX12_hasSign cv_X12_256 (A_cons2 (E_aload_n dX12_test_12 rfl) (A_cons0 (E_bipush dX12_test_13 (by decide)) A_nil)) dX12_test_15 (show 2 + 1 ≤ 3 + n + 1 by omega) ⟨by decide, by decide⟩ rfl (by decide)) dX12_test_18 rfl) (C_if_eq_n (E_callV mX12_hasSign cv_X12_256 (A_cons2 (E_aload_n dX12_test_21 rfl) (A_cons0 (E_bipush dX12_test_22 (by decide)) A_nil)) dX12_test_24 (show 2 + 1 ≤ 3 + n + 1 by omega) ⟨by decide, by decide⟩ rfl (by decide)) dX12_test_27 rfl)) (S_seq (p1 := 35) (S_callV (hg 2) cv_X12_253 (A_cons2 (E_aload_n dX12_test_30 rfl) (A_cons0 (E_iload_n dX12_test_31 rfl) A_nil)) dX12_test_32 hdep rfl)
  (S_callV mX12_emit cv_X12_246 (A_cons2 (E_aload_n dX12_test_35 rfl) (A_cons0 (E_cond (p1 := 40) (p2 := 45) (p3 := 47) (C_if_eq_n (E_iload_n dX12_test_36 rfl) dX12_test_37 rfl) (E_thru (E_bipush dX12_test_40 (by decide)) dX12_test_42 rfl) (E_bipush dX12_test_45 (by decide))) (A_cons0 (E_iconst dX12_test_47 (by decide)) A_nil))) dX12_test_48 (show 1 + 1 ≤ 3 + n + 1 by omega) rfl)) S_skip))) (S_retv rfl dX12_test_51))
theorem mGX12_all : ∀ n i : Nat, MO (yGX12_all_t i) (cGX12_all_t i) (lGX12_all_t i) (rGX12_all_t i) (3 + n) (gGX12_all n i)
  | 0, _ => fun _ _ _ _ _ _ _ _ h => by cases h
  | n + 1, 0 => MO_of (d := 3 + n + 1) (by decide) (fun Γ => sX12_all Γ n (gGX12_all n) (mGX12_all n))
  | n + 1, 1 => MO_of (d := 3 + n + 1) (by decide) (fun Γ => sX12_products Γ n (gGX12_all n) (mGX12_all n))
  | n + 1, 2 => MO_of (d := 3 + n + 1) (by decide) (fun Γ => sX12_sums Γ n (gGX12_all n) (mGX12_all n))
  | n + 1, 3 => MO_of (d := 3 + n + 1) (by decide) (fun Γ => sX12_takePart Γ n (gGX12_all n) (mGX12_all n))
  | n + 1, 4 => MO_of (d := 3 + n + 1) (by decide) (fun Γ => sX12_test Γ n (gGX12_all n) (mGX12_all n))
  | n + 1, k + 5 => fun _ _ _ _ _ _ _ _ h => by cases h
noncomputable def fX12_all : Fn := gGX12_all 40 0
theorem mX12_all : MO yX12_all cX12_all 3 none 43 fX12_all := mGX12_all 40 0
noncomputable def fX12_products : Fn := gGX12_all 40 1
theorem mX12_products : MO yX12_products cX12_products 2 none 43 fX12_products := mGX12_all 40 1
noncomputable def fX12_sums : Fn := gGX12_all 40 2
theorem mX12_sums : MO yX12_sums cX12_sums 3 none 43 fX12_sums := mGX12_all 40 2
noncomputable def fX12_takePart : Fn := gGX12_all 40 3
theorem mX12_takePart : MO yX12_takePart cX12_takePart 4 none 43 fX12_takePart := mGX12_all 40 3
noncomputable def fX12_test : Fn := gGX12_all 40 4
theorem mX12_test : MO yX12_test cX12_test 3 none 43 fX12_test := mGX12_all 40 4
noncomputable def bX12_meadows : Sx := (retS (aldE 100 (getE 12 10 2 (locE 2 0)) (numE 2)))
noncomputable def fX12_meadows : Fn := runB 1 bX12_meadows
theorem sX12_meadows (Γ : Cx) : SO (cX12_meadows, yX12_meadows.cls, 1, 1, (some .int)) Γ 0 0 [] bX12_meadows :=
  (S_reti rfl (E_iald (E_getf fl_X12_85 (E_aload_n dX12_meadows_0 rfl) dX12_meadows_1) (E_iconst dX12_meadows_4 (by decide)) dX12_meadows_5) dX12_meadows_6)
theorem mX12_meadows : MO yX12_meadows cX12_meadows 1 (some .int) 1 fX12_meadows := MO_of (by decide) (fun Γ => sX12_meadows Γ)
noncomputable def bX12_beasts : Sx := (retS (aldE 100 (getE 12 10 2 (locE 2 0)) (numE 1)))
noncomputable def fX12_beasts : Fn := runB 1 bX12_beasts
theorem sX12_beasts (Γ : Cx) : SO (cX12_beasts, yX12_beasts.cls, 1, 1, (some .int)) Γ 0 0 [] bX12_beasts :=
  (S_reti rfl (E_iald (E_getf fl_X12_85 (E_aload_n dX12_beasts_0 rfl) dX12_beasts_1) (E_iconst dX12_beasts_4 (by decide)) dX12_beasts_5) dX12_beasts_6)
theorem mX12_beasts : MO yX12_beasts cX12_beasts 1 (some .int) 1 fX12_beasts := MO_of (by decide) (fun Γ => sX12_beasts Γ)
noncomputable def bX12_isAway : Sx := (retZ (boolE (cmpC 0 (binE o_iand (binE o_ishr (aldE 100 (getE 12 23 2 (locE 2 0)) (numE 0)) (locE 0 1)) (numE 1)) (numE 1))))
noncomputable def fX12_isAway : Fn := runB 2 bX12_isAway
theorem sX12_isAway (Γ : Cx) : SO (cX12_isAway, yX12_isAway.cls, 1, 2, (some .boolean)) Γ 0 0 [] bX12_isAway :=
  (S_retz rfl (E_bool (p1 := 14) (p2 := 18) (C_icmp_ne_n (E_iand (E_ishr (E_iald (E_getf fl_X12_112 (E_aload_n dX12_isAway_0 rfl) dX12_isAway_1) (E_iconst dX12_isAway_4 (by decide)) dX12_isAway_5) (E_iload_n dX12_isAway_6 rfl) dX12_isAway_7) (E_iconst dX12_isAway_8 (by decide)) dX12_isAway_9) (E_iconst dX12_isAway_10 (by decide)) dX12_isAway_11 rfl) dX12_isAway_14 dX12_isAway_15 dX12_isAway_18 rfl) dX12_isAway_19)
theorem mX12_isAway : MO yX12_isAway cX12_isAway 2 (some .boolean) 1 fX12_isAway := MO_of (by decide) (fun Γ => sX12_isAway Γ)
noncomputable def bX12_kindOf : Sx := (retS (aldE 100 (getE 12 10 2 (locE 2 0)) (binE (fun x y => w32 (x + y)) (numE 3) (binE (fun x y => w32 (x * y)) (numE 2) (locE 0 1)))))
noncomputable def fX12_kindOf : Fn := runB 2 bX12_kindOf
theorem sX12_kindOf (Γ : Cx) : SO (cX12_kindOf, yX12_kindOf.cls, 1, 2, (some .int)) Γ 0 0 [] bX12_kindOf :=
  (S_reti rfl (E_iald (E_getf fl_X12_85 (E_aload_n dX12_kindOf_0 rfl) dX12_kindOf_1) (E_iadd (E_iconst dX12_kindOf_4 (by decide)) (E_imul (E_iconst dX12_kindOf_5 (by decide)) (E_iload_n dX12_kindOf_6 rfl) dX12_kindOf_7) dX12_kindOf_8) dX12_kindOf_9) dX12_kindOf_10)
theorem mX12_kindOf : MO yX12_kindOf cX12_kindOf 2 (some .int) 1 fX12_kindOf := MO_of (by decide) (fun Γ => sX12_kindOf Γ)
noncomputable def bX12_isStrange : Sx := (retZ (boolE (andC (cmpC 0 (cvE 12 fX12_kindOf [(2, (locE 2 0)), (0, (locE 0 1))]) (numE 5)) (cmpC 2 (aldE 100 (getE 12 23 2 (locE 2 0)) (binE (fun x y => w32 (x + y)) (numE 26) (locE 0 1))) (numE 3)))))
noncomputable def fX12_isStrange : Fn := runB 2 bX12_isStrange
theorem sX12_isStrange (Γ : Cx) : SO (cX12_isStrange, yX12_isStrange.cls, 2, 2, (some .boolean)) Γ 0 0 [] bX12_isStrange :=
  (S_retz rfl (E_bool (p1 := 22) (p2 := 26) (C_and (p1 := 9) (C_icmp_ne_n (E_callV mX12_kindOf cv_X12_283 (A_cons2 (E_aload_n dX12_isStrange_0 rfl) (A_cons0 (E_iload_n dX12_isStrange_1 rfl) A_nil)) dX12_isStrange_2 (by decide) ⟨by decide, by decide⟩ rfl (by decide)) (E_iconst dX12_isStrange_5 (by decide)) dX12_isStrange_6 rfl) (C_icmp_ge_n (E_iald (E_getf fl_X12_112 (E_aload_n dX12_isStrange_9 rfl) dX12_isStrange_10) (E_iadd (E_bipush dX12_isStrange_13 (by decide)) (E_iload_n dX12_isStrange_15 rfl) dX12_isStrange_16) dX12_isStrange_17) (E_iconst dX12_isStrange_18 (by decide)) dX12_isStrange_19 rfl)) dX12_isStrange_22 dX12_isStrange_23 dX12_isStrange_26 rfl) dX12_isStrange_27)
theorem mX12_isStrange : MO yX12_isStrange cX12_isStrange 2 (some .boolean) 2 fX12_isStrange := MO_of (by decide) (fun Γ => sX12_isStrange Γ)
noncomputable def bX12_likes : Sx := (seqS (stS 3 0 (aldE 100 (getE 12 10 2 (locE 2 0)) (binE (fun x y => w32 (x + y)) (binE (fun x y => w32 (x + y)) (numE 27) (binE (fun x y => w32 (x * y)) (numE 12) (locE 0 1))) (locE 0 2)))) (retS (condE (orC (zC 1 (cvE 12 fX12_isStrange [(2, (locE 2 0)), (0, (locE 0 1))])) (zC 1 (cvE 12 fX12_isStrange [(2, (locE 2 0)), (0, (locE 0 2))]))) (divE (fun x y => w32 (Int.tdiv x y)) (locE 0 3) (numE 2)) (locE 0 3))))
noncomputable def fX12_likes : Fn := runB 4 bX12_likes
theorem sX12_likes (Γ : Cx) : SO (cX12_likes, yX12_likes.cls, 3, 4, (some .int)) Γ 0 0 [] bX12_likes :=
  (S_seq (p1 := 15) (S_istore_n (E_iald (E_getf fl_X12_85 (E_aload_n dX12_likes_0 rfl) dX12_likes_1) (E_iadd (E_iadd (E_bipush dX12_likes_4 (by decide)) (E_imul (E_bipush dX12_likes_6 (by decide)) (E_iload_n dX12_likes_8 rfl) dX12_likes_9) dX12_likes_10) (E_iload_n dX12_likes_11 rfl) dX12_likes_12) dX12_likes_13) dX12_likes_14 rfl)
  (S_reti rfl (E_cond (p1 := 31) (p2 := 37) (p3 := 38) (C_or (p1 := 23) (C_if_ne (E_callV mX12_isStrange cv_X12_286 (A_cons2 (E_aload_n dX12_likes_15 rfl) (A_cons0 (E_iload_n dX12_likes_16 rfl) A_nil)) dX12_likes_17 (by decide) ⟨by decide, by decide⟩ rfl (by decide)) dX12_likes_20 rfl) (C_if_eq_n (E_callV mX12_isStrange cv_X12_286 (A_cons2 (E_aload_n dX12_likes_23 rfl) (A_cons0 (E_iload_n dX12_likes_24 rfl) A_nil)) dX12_likes_25 (by decide) ⟨by decide, by decide⟩ rfl (by decide)) dX12_likes_28 rfl)) (E_thru (E_idiv (E_iload_n dX12_likes_31 rfl) (E_iconst dX12_likes_32 (by decide)) dX12_likes_33) dX12_likes_34 rfl) (E_iload_n dX12_likes_37 rfl)) dX12_likes_38))
theorem mX12_likes : MO yX12_likes cX12_likes 4 (some .int) 3 fX12_likes := MO_of (by decide) (fun Γ => sX12_likes Γ)
noncomputable def bX12_toneOf : Sx := (retS (aldE 100 (getE 12 10 2 (locE 2 0)) (binE (fun x y => w32 (x + y)) (binE (fun x y => w32 (x + y)) (numE 3) (binE (fun x y => w32 (x * y)) (numE 2) (locE 0 1))) (numE 1))))
noncomputable def fX12_toneOf : Fn := runB 2 bX12_toneOf
theorem sX12_toneOf (Γ : Cx) : SO (cX12_toneOf, yX12_toneOf.cls, 1, 2, (some .int)) Γ 0 0 [] bX12_toneOf :=
  (S_reti rfl (E_iald (E_getf fl_X12_85 (E_aload_n dX12_toneOf_0 rfl) dX12_toneOf_1) (E_iadd (E_iadd (E_iconst dX12_toneOf_4 (by decide)) (E_imul (E_iconst dX12_toneOf_5 (by decide)) (E_iload_n dX12_toneOf_6 rfl) dX12_toneOf_7) dX12_toneOf_8) (E_iconst dX12_toneOf_9 (by decide)) dX12_toneOf_10) dX12_toneOf_11) dX12_toneOf_12)
theorem mX12_toneOf : MO yX12_toneOf cX12_toneOf 2 (some .int) 1 fX12_toneOf := MO_of (by decide) (fun Γ => sX12_toneOf Γ)
def wX12_both_1_sel : Int → Nat := fun v => if v = 4 then 0 else if v = 5 then 1 else if v = 6 then 2 else if v = 7 then 3 else if v = 8 then 4 else if v = 9 then 5 else 6
def wX12_both_1_pcs : Nat → Nat := fun i => match i with
  | 0 => 40
  | 1 => 44
  | 2 => 48
  | 3 => 52
  | 4 => 63
  | 5 => 74
  | _ => 88
theorem wX12_both_1 (Γ : Cx) : SW (cX12_both, yX12_both.cls, 1, 3, (some .int)) Γ 1 wX12_both_1_pcs wX12_both_1_sel := by
  intro G env μ v k
  by_cases h4 : v = 4
  · subst h4; exact r_tsw G dX12_both_1 (Or.inr ⟨⟨by decide, by decide⟩, _, rfl, rfl⟩) k
  by_cases h5 : v = 5
  · subst h5; exact r_tsw G dX12_both_1 (Or.inr ⟨⟨by decide, by decide⟩, _, rfl, rfl⟩) k
  by_cases h6 : v = 6
  · subst h6; exact r_tsw G dX12_both_1 (Or.inr ⟨⟨by decide, by decide⟩, _, rfl, rfl⟩) k
  by_cases h7 : v = 7
  · subst h7; exact r_tsw G dX12_both_1 (Or.inr ⟨⟨by decide, by decide⟩, _, rfl, rfl⟩) k
  by_cases h8 : v = 8
  · subst h8; exact r_tsw G dX12_both_1 (Or.inr ⟨⟨by decide, by decide⟩, _, rfl, rfl⟩) k
  by_cases h9 : v = 9
  · subst h9; exact r_tsw G dX12_both_1 (Or.inr ⟨⟨by decide, by decide⟩, _, rfl, rfl⟩) k
  have hsel : wX12_both_1_sel v = 6 := by simp [wX12_both_1_sel, h4, h5, h6, h7, h8, h9]
  rw [hsel] at k
  exact r_tsw G dX12_both_1 (Or.inl ⟨by omega, rfl⟩) k
noncomputable def bX12_both : Sx := (swS 2 (locE 0 0) wX12_both_1_sel (fun i => match i with | 0 => (retS (binE (fun x y => w32 (x + y)) (locE 0 1) (locE 0 2))) | 1 => (retS (binE (fun x y => w32 (x - y)) (locE 0 1) (locE 0 2))) | 2 => (retS (binE (fun x y => w32 (x * y)) (locE 0 1) (locE 0 2))) | 3 => (retS (condE (cmpC 2 (locE 0 1) (locE 0 2)) (numE 1) (numE 0))) | 4 => (retS (condE (cmpC 0 (locE 0 1) (locE 0 2)) (numE 1) (numE 0))) | 5 => (retS (condE (andC (zC 1 (locE 0 1)) (zC 1 (locE 0 2))) (numE 1) (numE 0))) | _ => (retS (condE (orC (zC 1 (locE 0 1)) (zC 1 (locE 0 2))) (numE 1) (numE 0)))))
noncomputable def fX12_both : Fn := runB 3 bX12_both
theorem sX12_both (Γ : Cx) : SO (cX12_both, yX12_both.cls, 1, 3, (some .int)) Γ 0 0 [] bX12_both :=
  (S_switch (kb := 2) (by decide) (E_iload_n dX12_both_0 rfl) (wX12_both_1 Γ) (fun i => match i with
   | 0 => (S_reti rfl (E_iadd (E_iload_n dX12_both_40 rfl) (E_iload_n dX12_both_41 rfl) dX12_both_42) dX12_both_43)
   | 1 => (S_reti rfl (E_isub (E_iload_n dX12_both_44 rfl) (E_iload_n dX12_both_45 rfl) dX12_both_46) dX12_both_47)
   | 2 => (S_reti rfl (E_imul (E_iload_n dX12_both_48 rfl) (E_iload_n dX12_both_49 rfl) dX12_both_50) dX12_both_51)
   | 3 => (S_reti rfl (E_cond (p1 := 57) (p2 := 61) (p3 := 62) (C_icmp_ge_n (E_iload_n dX12_both_52 rfl) (E_iload_n dX12_both_53 rfl) dX12_both_54 rfl) (E_thru (E_iconst dX12_both_57 (by decide)) dX12_both_58 rfl) (E_iconst dX12_both_61 (by decide))) dX12_both_62)
   | 4 => (S_reti rfl (E_cond (p1 := 68) (p2 := 72) (p3 := 73) (C_icmp_ne_n (E_iload_n dX12_both_63 rfl) (E_iload_n dX12_both_64 rfl) dX12_both_65 rfl) (E_thru (E_iconst dX12_both_68 (by decide)) dX12_both_69 rfl) (E_iconst dX12_both_72 (by decide))) dX12_both_73)
   | 5 => (S_reti rfl (E_cond (p1 := 82) (p2 := 86) (p3 := 87) (C_and (p1 := 78) (C_if_eq_n (E_iload_n dX12_both_74 rfl) dX12_both_75 rfl) (C_if_eq_n (E_iload_n dX12_both_78 rfl) dX12_both_79 rfl)) (E_thru (E_iconst dX12_both_82 (by decide)) dX12_both_83 rfl) (E_iconst dX12_both_86 (by decide))) dX12_both_87)
   | _+6 => (S_reti rfl (E_cond (p1 := 96) (p2 := 100) (p3 := 101) (C_or (p1 := 92) (C_if_ne (E_iload_n dX12_both_88 rfl) dX12_both_89 rfl) (C_if_eq_n (E_iload_n dX12_both_92 rfl) dX12_both_93 rfl)) (E_thru (E_iconst dX12_both_96 (by decide)) dX12_both_97 rfl) (E_iconst dX12_both_100 (by decide))) dX12_both_101)))
theorem mX12_both : MO yX12_both cX12_both 3 (some .int) 1 fX12_both := MO_of (by decide) (fun Γ => sX12_both Γ)
noncomputable def kX12_worthAt_0c : Cn := (zC 1 (aldE 100 (getE 12 11 2 (locE 2 0)) (locE 0 3)))
noncomputable def kX12_worthAt_0b : Sx := (seqS (stS 4 0 (aldE 100 (getE 12 11 2 (locE 2 0)) (locE 0 3))) (ifS (orC (cmpC 0 (locE 0 4) (numE 1)) (cmpC 0 (locE 0 4) (numE 2))) (seqS (astS 100 (getE 12 22 2 (locE 2 0)) (locE 0 2) (condE (cmpC 0 (locE 0 4) (numE 1)) (aldE 100 (getE 12 12 2 (locE 2 0)) (locE 0 3)) (aldE 100 (getE 12 21 2 (locE 2 0)) (aldE 100 (getE 12 12 2 (locE 2 0)) (locE 0 3))))) (incS 2 1)) (ifS (cmpC 0 (locE 0 4) (numE 3)) (astS 100 (getE 12 22 2 (locE 2 0)) (binE (fun x y => w32 (x - y)) (locE 0 2) (numE 1)) (condE (zC 0 (aldE 100 (getE 12 22 2 (locE 2 0)) (binE (fun x y => w32 (x - y)) (locE 0 2) (numE 1)))) (numE 1) (numE 0))) (seqS (incS 2 (-1)) (astS 100 (getE 12 22 2 (locE 2 0)) (binE (fun x y => w32 (x - y)) (locE 0 2) (numE 1)) (csE fX12_both [(0, (locE 0 4)), (0, (aldE 100 (getE 12 22 2 (locE 2 0)) (binE (fun x y => w32 (x - y)) (locE 0 2) (numE 1)))), (0, (aldE 100 (getE 12 22 2 (locE 2 0)) (locE 0 2)))]))))))
noncomputable def kX12_worthAt_0u : Sx := (incS 3 1)
noncomputable def kX12_worthAt_0 : Sx := loopS 2 3 kX12_worthAt_0c kX12_worthAt_0b kX12_worthAt_0u
noncomputable def bX12_worthAt : Sx := (seqS (stS 2 0 (numE 0)) (seqS (seqS (stS 3 0 (locE 0 1)) kX12_worthAt_0) (retS (aldE 100 (getE 12 22 2 (locE 2 0)) (numE 0)))))
noncomputable def fX12_worthAt : Fn := runB 5 bX12_worthAt
theorem sX12_worthAt (Γ : Cx) : SO (cX12_worthAt, yX12_worthAt.cls, 2, 5, (some .int)) Γ 0 0 [] bX12_worthAt :=
  (S_seq (p1 := 2) (S_istore_n (E_iconst dX12_worthAt_0 (by decide)) dX12_worthAt_1 rfl)
  (S_seq (p1 := 140) (S_seq (p1 := 4) (S_istore_n (E_iload_n dX12_worthAt_2 rfl) dX12_worthAt_3 rfl) (S_loop (p1 := 13) (p2 := 140) (p3 := 134) (kb := 2) (kc := 3) (by decide) (by decide) (by decide) (C_if_eq_n (E_iald (E_getf fl_X12_88 (E_aload_n dX12_worthAt_4 rfl) dX12_worthAt_5) (E_iload_n dX12_worthAt_8 rfl) dX12_worthAt_9) dX12_worthAt_10 rfl)
  (S_seq (p1 := 21) (S_istore (E_iald (E_getf fl_X12_88 (E_aload_n dX12_worthAt_13 rfl) dX12_worthAt_14) (E_iload_n dX12_worthAt_17 rfl) dX12_worthAt_18) dX12_worthAt_19)
  (S_if (p1 := 33) (p2 := 71) (q := 134) (C_or (p1 := 27) (C_icmp_eq (E_iload dX12_worthAt_21) (E_iconst dX12_worthAt_23 (by decide)) dX12_worthAt_24 rfl) (C_icmp_ne_n (E_iload dX12_worthAt_27) (E_iconst dX12_worthAt_29 (by decide)) dX12_worthAt_30 rfl))
  (S_thru (S_seq (p1 := 65) (S_iast (E_getf fl_X12_109 (E_aload_n dX12_worthAt_33 rfl) dX12_worthAt_34) (E_iload_n dX12_worthAt_37 rfl) (E_cond (p1 := 44) (p2 := 53) (p3 := 64) (C_icmp_ne_n (E_iload dX12_worthAt_38) (E_iconst dX12_worthAt_40 (by decide)) dX12_worthAt_41 rfl) (E_thru (E_iald (E_getf fl_X12_91 (E_aload_n dX12_worthAt_44 rfl) dX12_worthAt_45) (E_iload_n dX12_worthAt_48 rfl) dX12_worthAt_49) dX12_worthAt_50 rfl) (E_iald (E_getf fl_X12_106 (E_aload_n dX12_worthAt_53 rfl) dX12_worthAt_54) (E_iald (E_getf fl_X12_91 (E_aload_n dX12_worthAt_57 rfl) dX12_worthAt_58) (E_iload_n dX12_worthAt_61 rfl) dX12_worthAt_62) dX12_worthAt_63)) dX12_worthAt_64)
  (S_iinc dX12_worthAt_65)) dX12_worthAt_68 rfl)
  (S_if (p1 := 77) (p2 := 104) (q := 134) (C_icmp_ne_n (E_iload dX12_worthAt_71) (E_iconst dX12_worthAt_73 (by decide)) dX12_worthAt_74 rfl)
  (S_thru (S_iast (E_getf fl_X12_109 (E_aload_n dX12_worthAt_77 rfl) dX12_worthAt_78) (E_isub (E_iload_n dX12_worthAt_81 rfl) (E_iconst dX12_worthAt_82 (by decide)) dX12_worthAt_83) (E_cond (p1 := 95) (p2 := 99) (p3 := 100) (C_if_ne_n (E_iald (E_getf fl_X12_109 (E_aload_n dX12_worthAt_84 rfl) dX12_worthAt_85) (E_isub (E_iload_n dX12_worthAt_88 rfl) (E_iconst dX12_worthAt_89 (by decide)) dX12_worthAt_90) dX12_worthAt_91) dX12_worthAt_92 rfl) (E_thru (E_iconst dX12_worthAt_95 (by decide)) dX12_worthAt_96 rfl) (E_iconst dX12_worthAt_99 (by decide))) dX12_worthAt_100) dX12_worthAt_101 rfl)
  (S_seq (p1 := 107) (S_iinc dX12_worthAt_104)
  (S_iast (E_getf fl_X12_109 (E_aload_n dX12_worthAt_107 rfl) dX12_worthAt_108) (E_isub (E_iload_n dX12_worthAt_111 rfl) (E_iconst dX12_worthAt_112 (by decide)) dX12_worthAt_113) (E_callS mX12_both cs_X12_268 (A_cons0 (E_iload dX12_worthAt_114) (A_cons0 (E_iald (E_getf fl_X12_109 (E_aload_n dX12_worthAt_116 rfl) dX12_worthAt_117) (E_isub (E_iload_n dX12_worthAt_120 rfl) (E_iconst dX12_worthAt_121 (by decide)) dX12_worthAt_122) dX12_worthAt_123) (A_cons0 (E_iald (E_getf fl_X12_109 (E_aload_n dX12_worthAt_124 rfl) dX12_worthAt_125) (E_iload_n dX12_worthAt_128 rfl) dX12_worthAt_129) A_nil))) dX12_worthAt_130 (by decide) ⟨by decide, by decide⟩ rfl (by decide)) dX12_worthAt_133)))))
  (S_thru (S_iinc dX12_worthAt_134) dX12_worthAt_137 rfl)))
  (S_reti rfl (E_iald (E_getf fl_X12_109 (E_aload_n dX12_worthAt_140 rfl) dX12_worthAt_141) (E_iconst dX12_worthAt_144 (by decide)) dX12_worthAt_145) dX12_worthAt_146)))
theorem mX12_worthAt : MO yX12_worthAt cX12_worthAt 5 (some .int) 2 fX12_worthAt := MO_of (by decide) (fun Γ => sX12_worthAt Γ)
noncomputable def kX12_straysTo_0c : Cn := (cmpC 2 (locE 0 4) (cvE 12 fX12_beasts [(2, (locE 2 0))]))
noncomputable def kX12_straysTo_0b : Sx := (aopS 100 (fun x y => w32 (x + y)) (getE 12 21 2 (locE 2 0)) (numE 5) (condE (andC (andC (cmpC 1 (locE 0 4) (locE 0 1)) (zC 1 (cvE 12 fX12_isAway [(2, (locE 2 0)), (0, (locE 0 4))]))) (zC 4 (cvE 12 fX12_likes [(2, (locE 2 0)), (0, (locE 0 1)), (0, (locE 0 4))]))) (numE 1) (numE 0)))
noncomputable def kX12_straysTo_0u : Sx := (incS 4 1)
noncomputable def kX12_straysTo_0 : Sx := loopS 2 3 kX12_straysTo_0c kX12_straysTo_0b kX12_straysTo_0u
noncomputable def bX12_straysTo : Sx := (seqS (stS 3 0 (aldE 100 (getE 12 10 2 (locE 2 0)) (binE (fun x y => w32 (x + y)) (numE 171) (binE (fun x y => w32 (x * y)) (numE 2) (locE 0 2))))) (seqS (ifS (zC 2 (aldE 100 (getE 12 10 2 (locE 2 0)) (numE 184))) (retS (locE 0 3)) skipS) (seqS (astS 100 (getE 12 21 2 (locE 2 0)) (numE 0) (cvE 12 fX12_toneOf [(2, (locE 2 0)), (0, (locE 0 1))])) (seqS (astS 100 (getE 12 21 2 (locE 2 0)) (numE 1) (condE (cmpC 0 (cvE 12 fX12_kindOf [(2, (locE 2 0)), (0, (locE 0 1))]) (numE 4)) (numE 1) (numE 0))) (seqS (astS 100 (getE 12 21 2 (locE 2 0)) (numE 2) (condE (cmpC 0 (cvE 12 fX12_kindOf [(2, (locE 2 0)), (0, (locE 0 1))]) (numE 3)) (numE 1) (numE 0))) (seqS (astS 100 (getE 12 21 2 (locE 2 0)) (numE 3) (locE 0 3)) (seqS (astS 100 (getE 12 21 2 (locE 2 0)) (numE 4) (aldE 100 (getE 12 10 2 (locE 2 0)) (binE (fun x y => w32 (x + y)) (binE (fun x y => w32 (x + y)) (numE 171) (binE (fun x y => w32 (x * y)) (numE 2) (locE 0 2))) (numE 1)))) (seqS (astS 100 (getE 12 21 2 (locE 2 0)) (numE 5) (numE 0)) (seqS (seqS (stS 4 0 (numE 0)) kX12_straysTo_0) (seqS (stS 4 0 (cvE 12 fX12_worthAt [(2, (locE 2 0)), (0, (aldE 100 (getE 12 10 2 (locE 2 0)) (numE 184)))])) (retS (condE (zC 2 (locE 0 4)) (numE 0) (condE (cmpC 4 (locE 0 4) (numE 9999)) (numE 9999) (locE 0 4))))))))))))))
noncomputable def fX12_straysTo : Fn := runB 5 bX12_straysTo
theorem sX12_straysTo (Γ : Cx) : SO (cX12_straysTo, yX12_straysTo.cls, 4, 5, (some .int)) Γ 0 0 [] bX12_straysTo :=
  (S_seq (p1 := 13) (S_istore_n (E_iald (E_getf fl_X12_85 (E_aload_n dX12_straysTo_0 rfl) dX12_straysTo_1) (E_iadd (E_sipush dX12_straysTo_4 (by decide)) (E_imul (E_iconst dX12_straysTo_7 (by decide)) (E_iload_n dX12_straysTo_8 rfl) dX12_straysTo_9) dX12_straysTo_10) dX12_straysTo_11) dX12_straysTo_12 rfl)
  (S_seq (p1 := 26) (S_if (p1 := 24) (p2 := 26) (q := 26) (C_if_ge_n (E_iald (E_getf fl_X12_85 (E_aload_n dX12_straysTo_13 rfl) dX12_straysTo_14) (E_sipush dX12_straysTo_17 (by decide)) dX12_straysTo_20) dX12_straysTo_21 rfl) (S_reti rfl (E_iload_n dX12_straysTo_24 rfl) dX12_straysTo_25) S_skip)
  (S_seq (p1 := 37) (S_iast (E_getf fl_X12_106 (E_aload_n dX12_straysTo_26 rfl) dX12_straysTo_27) (E_iconst dX12_straysTo_30 (by decide)) (E_callV mX12_toneOf cv_X12_298 (A_cons2 (E_aload_n dX12_straysTo_31 rfl) (A_cons0 (E_iload_n dX12_straysTo_32 rfl) A_nil)) dX12_straysTo_33 (by decide) ⟨by decide, by decide⟩ rfl (by decide)) dX12_straysTo_36)
  (S_seq (p1 := 57) (S_iast (E_getf fl_X12_106 (E_aload_n dX12_straysTo_37 rfl) dX12_straysTo_38) (E_iconst dX12_straysTo_41 (by decide)) (E_cond (p1 := 51) (p2 := 55) (p3 := 56) (C_icmp_ne_n (E_callV mX12_kindOf cv_X12_283 (A_cons2 (E_aload_n dX12_straysTo_42 rfl) (A_cons0 (E_iload_n dX12_straysTo_43 rfl) A_nil)) dX12_straysTo_44 (by decide) ⟨by decide, by decide⟩ rfl (by decide)) (E_iconst dX12_straysTo_47 (by decide)) dX12_straysTo_48 rfl) (E_thru (E_iconst dX12_straysTo_51 (by decide)) dX12_straysTo_52 rfl) (E_iconst dX12_straysTo_55 (by decide))) dX12_straysTo_56)
  (S_seq (p1 := 77) (S_iast (E_getf fl_X12_106 (E_aload_n dX12_straysTo_57 rfl) dX12_straysTo_58) (E_iconst dX12_straysTo_61 (by decide)) (E_cond (p1 := 71) (p2 := 75) (p3 := 76) (C_icmp_ne_n (E_callV mX12_kindOf cv_X12_283 (A_cons2 (E_aload_n dX12_straysTo_62 rfl) (A_cons0 (E_iload_n dX12_straysTo_63 rfl) A_nil)) dX12_straysTo_64 (by decide) ⟨by decide, by decide⟩ rfl (by decide)) (E_iconst dX12_straysTo_67 (by decide)) dX12_straysTo_68 rfl) (E_thru (E_iconst dX12_straysTo_71 (by decide)) dX12_straysTo_72 rfl) (E_iconst dX12_straysTo_75 (by decide))) dX12_straysTo_76)
  (S_seq (p1 := 84) (S_iast (E_getf fl_X12_106 (E_aload_n dX12_straysTo_77 rfl) dX12_straysTo_78) (E_iconst dX12_straysTo_81 (by decide)) (E_iload_n dX12_straysTo_82 rfl) dX12_straysTo_83)
  (S_seq (p1 := 104) (S_iast (E_getf fl_X12_106 (E_aload_n dX12_straysTo_84 rfl) dX12_straysTo_85) (E_iconst dX12_straysTo_88 (by decide)) (E_iald (E_getf fl_X12_85 (E_aload_n dX12_straysTo_89 rfl) dX12_straysTo_90) (E_iadd (E_iadd (E_sipush dX12_straysTo_93 (by decide)) (E_imul (E_iconst dX12_straysTo_96 (by decide)) (E_iload_n dX12_straysTo_97 rfl) dX12_straysTo_98) dX12_straysTo_99) (E_iconst dX12_straysTo_100 (by decide)) dX12_straysTo_101) dX12_straysTo_102) dX12_straysTo_103)
  (S_seq (p1 := 111) (S_iast (E_getf fl_X12_106 (E_aload_n dX12_straysTo_104 rfl) dX12_straysTo_105) (E_iconst dX12_straysTo_108 (by decide)) (E_iconst dX12_straysTo_109 (by decide)) dX12_straysTo_110)
  (S_seq (p1 := 168) (S_seq (p1 := 114) (S_istore (E_iconst dX12_straysTo_111 (by decide)) dX12_straysTo_112) (S_loop (p1 := 123) (p2 := 168) (p3 := 162) (kb := 2) (kc := 3) (by decide) (by decide) (by decide) (C_icmp_ge_n (E_iload dX12_straysTo_114) (E_callV mX12_beasts cv_X12_277 (A_cons2 (E_aload_n dX12_straysTo_116 rfl) A_nil) dX12_straysTo_117 (by decide) ⟨by decide, by decide⟩ rfl (by decide)) dX12_straysTo_120 rfl)
  (S_aop_iadd (E_getf fl_X12_106 (E_aload_n dX12_straysTo_123 rfl) dX12_straysTo_124) (E_iconst dX12_straysTo_127 (by decide)) dX12_straysTo_128 dX12_straysTo_129 (E_cond (p1 := 155) (p2 := 159) (p3 := 160) (C_and (p1 := 145) (C_and (p1 := 136) (C_icmp_eq_n (E_iload dX12_straysTo_130) (E_iload_n dX12_straysTo_132 rfl) dX12_straysTo_133 rfl) (C_if_eq_n (E_callV mX12_isAway cv_X12_310 (A_cons2 (E_aload_n dX12_straysTo_136 rfl) (A_cons0 (E_iload dX12_straysTo_137) A_nil)) dX12_straysTo_139 (by decide) ⟨by decide, by decide⟩ rfl (by decide)) dX12_straysTo_142 rfl)) (C_if_le_n (E_callV mX12_likes cv_X12_295 (A_cons2 (E_aload_n dX12_straysTo_145 rfl) (A_cons0 (E_iload_n dX12_straysTo_146 rfl) (A_cons0 (E_iload dX12_straysTo_147) A_nil))) dX12_straysTo_149 (by decide) ⟨by decide, by decide⟩ rfl (by decide)) dX12_straysTo_152 rfl)) (E_thru (E_iconst dX12_straysTo_155 (by decide)) dX12_straysTo_156 rfl) (E_iconst dX12_straysTo_159 (by decide))) dX12_straysTo_160 dX12_straysTo_161)
  (S_thru (S_iinc dX12_straysTo_162) dX12_straysTo_165 rfl)))
  (S_seq (p1 := 182) (S_istore (E_callV mX12_worthAt cv_X12_304 (A_cons2 (E_aload_n dX12_straysTo_168 rfl) (A_cons0 (E_iald (E_getf fl_X12_85 (E_aload_n dX12_straysTo_169 rfl) dX12_straysTo_170) (E_sipush dX12_straysTo_173 (by decide)) dX12_straysTo_176) A_nil)) dX12_straysTo_177 (by decide) ⟨by decide, by decide⟩ rfl (by decide)) dX12_straysTo_180)
  (S_reti rfl (E_cond (p1 := 187) (p2 := 191) (p3 := 207) (C_if_ge_n (E_iload dX12_straysTo_182) dX12_straysTo_184 rfl) (E_thru (E_iconst dX12_straysTo_187 (by decide)) dX12_straysTo_188 rfl) (E_cond (p1 := 199) (p2 := 205) (p3 := 207) (C_icmp_le_n (E_iload dX12_straysTo_191) (E_sipush dX12_straysTo_193 (by decide)) dX12_straysTo_196 rfl) (E_thru (E_sipush dX12_straysTo_199 (by decide)) dX12_straysTo_202 rfl) (E_iload dX12_straysTo_205))) dX12_straysTo_207)))))))))))
theorem mX12_straysTo : MO yX12_straysTo cX12_straysTo 5 (some .int) 4 fX12_straysTo := MO_of (by decide) (fun Γ => sX12_straysTo Γ)
