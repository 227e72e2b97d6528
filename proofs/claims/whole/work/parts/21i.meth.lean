noncomputable def bX12_place : Sx := (seqS (putS 12 0 0 .int (locE 2 0) (numE 0)) (retS (condE (zC 1 (cvE 12 fX12_isPlace [(2, (locE 2 0)), (0, (locE 0 1))])) (cvE 12 fX12_whoAt [(2, (locE 2 0)), (0, (locE 0 1))]) (numE (-1)))))
noncomputable def fX12_place : Fn := runB 2 bX12_place
theorem sX12_place (Γ : Cx) : SO (cX12_place, yX12_place.cls, 3, 2, (some .int)) Γ 0 0 [] bX12_place :=
  (S_seq (p1 := 5) (S_putf fp_X12_1 (E_aload_n dX12_place_0 rfl) (E_iconst dX12_place_1 (by decide)) dX12_place_2)
  (S_reti rfl (E_cond (p1 := 13) (p2 := 21) (p3 := 22) (C_if_eq_n (E_callV mX12_isPlace cv_X12_289 (A_cons2 (E_aload_n dX12_place_5 rfl) (A_cons0 (E_iload_n dX12_place_6 rfl) A_nil)) dX12_place_7 (by decide) ⟨by decide, by decide⟩ rfl (by decide)) dX12_place_10 rfl) (E_thru (E_callV mX12_whoAt cv_X12_292 (A_cons2 (E_aload_n dX12_place_13 rfl) (A_cons0 (E_iload_n dX12_place_14 rfl) A_nil)) dX12_place_15 (by decide) ⟨by decide, by decide⟩ rfl (by decide)) dX12_place_18 rfl) (E_iconst dX12_place_21 (by decide))) dX12_place_22))
theorem mX12_place : MO yX12_place cX12_place 2 (some .int) 3 fX12_place := MO_of (by decide) (fun Γ => sX12_place Γ)
noncomputable def kX12_tries_0c (g : Nat → Fn) : Cn := (cmpC 2 (locE 0 6) (locE 0 2))
noncomputable def kX12_tries_0b (g : Nat → Fn) : Sx := (seqS (stS 4 0 (binE (fun x y => w32 (x + y)) (locE 0 4) (aldE 100 (getE 12 10 2 (locE 2 0)) (binE (fun x y => w32 (x + y)) (binE (fun x y => w32 (x + y)) (numE 171) (binE (fun x y => w32 (x * y)) (numE 2) (aldE 100 (getE 12 30 2 (locE 2 0)) (locE 0 6)))) (numE 1))))) (stS 5 0 (binE (fun x y => w32 (x + y)) (locE 0 5) (binE (fun x y => w32 (x * y)) (locE 0 4) (cvE 12 fX12_straysTo [(2, (locE 2 0)), (0, (locE 0 1)), (0, (aldE 100 (getE 12 30 2 (locE 2 0)) (locE 0 6)))])))))
noncomputable def kX12_tries_0u (g : Nat → Fn) : Sx := (incS 6 1)
noncomputable def kX12_tries_0 (g : Nat → Fn) : Sx := loopS 2 3 (kX12_tries_0c g) (kX12_tries_0b g) (kX12_tries_0u g)
noncomputable def kX12_tries_1c (g : Nat → Fn) : Cn := (cmpC 2 (locE 0 6) (locE 0 2))
noncomputable def kX12_tries_1b (g : Nat → Fn) : Sx := (astS 100 (getE 12 31 2 (locE 2 0)) (locE 0 6) (aldE 100 (getE 12 30 2 (locE 2 0)) (locE 0 6)))
noncomputable def kX12_tries_1u (g : Nat → Fn) : Sx := (incS 6 1)
noncomputable def kX12_tries_1 (g : Nat → Fn) : Sx := loopS 4 5 (kX12_tries_1c g) (kX12_tries_1b g) (kX12_tries_1u g)
noncomputable def kX12_tries_2c (g : Nat → Fn) : Cn := (cmpC 2 (locE 0 4) (cvE 12 fX12_meadows [(2, (locE 2 0))]))
noncomputable def kX12_tries_2b (g : Nat → Fn) : Sx := (ifS (zC 0 (binE o_iand (binE o_ishr (locE 0 3) (locE 0 4)) (numE 1))) (seqS (astS 100 (getE 12 30 2 (locE 2 0)) (locE 0 2) (locE 0 4)) (exS (cvE 12 (g 0) [(2, (locE 2 0)), (0, (locE 0 1)), (0, (binE (fun x y => w32 (x + y)) (locE 0 2) (numE 1))), (0, (binE o_ior (locE 0 3) (binE o_ishl (numE 1) (locE 0 4))))]))) skipS)
noncomputable def kX12_tries_2u (g : Nat → Fn) : Sx := (incS 4 1)
noncomputable def kX12_tries_2 (g : Nat → Fn) : Sx := loopS 6 7 (kX12_tries_2c g) (kX12_tries_2b g) (kX12_tries_2u g)
noncomputable def bX12_tries (g : Nat → Fn) : Sx := (seqS (seqS (ifS (cmpC 0 (locE 0 2) (cvE 12 fX12_meadows [(2, (locE 2 0))])) (seqS (stS 4 0 (numE 0)) (seqS (stS 5 0 (numE 0)) (seqS (seqS (stS 6 0 (numE 0)) (kX12_tries_0 g)) (seqS (ifS (orC (zC 2 (getE 12 32 0 (locE 2 0))) (cmpC 2 (locE 0 5) (getE 12 32 0 (locE 2 0)))) (seqS (putS 12 32 0 .int (locE 2 0) (locE 0 5)) (seqS (stS 6 0 (numE 0)) (kX12_tries_1 g))) skipS) retV)))) skipS) (seqS (stS 4 0 (numE 0)) (kX12_tries_2 g))) retV)
noncomputable def gGX12_tries : Nat → Nat → Fn
  | 0 => fun _ _ _ _ => none
  | n + 1 => fun i => match i with
    | 0 => runB 7 (bX12_tries (gGX12_tries n))
    | _ => fun _ _ _ => none
def yGX12_tries_t : Nat → MethodName := fun i => match i with
  | 0 => yX12_tries
  | _ => yX12_tries
def cGX12_tries_t : Nat → ByteArray := fun i => match i with
  | 0 => cX12_tries
  | _ => cX12_tries
def lGX12_tries_t : Nat → Nat := fun i => match i with
  | 0 => 7
  | _ => 0
def rGX12_tries_t : Nat → Option FieldType := fun i => match i with
  | 0 => none
  | _ => none
theorem sX12_tries (Γ : Cx) (n : Nat) (g : Nat → Fn) (hg : ∀ i : Nat, MO (yGX12_tries_t i) (cGX12_tries_t i) (lGX12_tries_t i) (rGX12_tries_t i) (5 + n) (g i)) : SO (cX12_tries, yX12_tries.cls, (5 + n + 1), 7, none) Γ 0 0 [] (bX12_tries g) :=
  have hdep : (5 + n) + 1 ≤ 5 + n + 1 := Nat.le_refl _
  (S_seq (p1 := 175) (S_seq (p1 := 126) (S_if (p1 := 8) (p2 := 126) (q := 126) (C_icmp_ne_n (E_iload_n dX12_tries_0 rfl) (E_callV mX12_meadows cv_X12_362 (A_cons2 (E_aload_n dX12_tries_1 rfl) A_nil) dX12_tries_2 (show 1 + 1 ≤ 5 + n + 1 by omega) ⟨by decide, by decide⟩ rfl (by decide)) dX12_tries_5 rfl) (S_seq (p1 := 11) (S_istore (E_iconst dX12_tries_8 (by decide)) dX12_tries_9)
  (S_seq (p1 := 14) (S_istore (E_iconst dX12_tries_11 (by decide)) dX12_tries_12)
  (S_seq (p1 := 74) (S_seq (p1 := 17) (S_istore (E_iconst dX12_tries_14 (by decide)) dX12_tries_15) (S_loop (p1 := 23) (p2 := 74) (p3 := 68) (kb := 2) (kc := 3) (by decide) (by decide) (by decide) (C_icmp_ge_n (E_iload dX12_tries_17) (E_iload_n dX12_tries_19 rfl) dX12_tries_20 rfl)
  (S_seq (p1 := 48) (S_istore (E_iadd (E_iload dX12_tries_23) (E_iald (E_getf fl_X12_85 (E_aload_n dX12_tries_25 rfl) dX12_tries_26) (E_iadd (E_iadd (E_sipush dX12_tries_29 (by decide)) (E_imul (E_iconst dX12_tries_32 (by decide)) (E_iald (E_getf fl_X12_130 (E_aload_n dX12_tries_33 rfl) dX12_tries_34) (E_iload dX12_tries_37) dX12_tries_39) dX12_tries_40) dX12_tries_41) (E_iconst dX12_tries_42 (by decide)) dX12_tries_43) dX12_tries_44) dX12_tries_45) dX12_tries_46)
  (S_istore (E_iadd (E_iload dX12_tries_48) (E_imul (E_iload dX12_tries_50) (E_callV mX12_straysTo cv_X12_365 (A_cons2 (E_aload_n dX12_tries_52 rfl) (A_cons0 (E_iload_n dX12_tries_53 rfl) (A_cons0 (E_iald (E_getf fl_X12_130 (E_aload_n dX12_tries_54 rfl) dX12_tries_55) (E_iload dX12_tries_58) dX12_tries_60) A_nil))) dX12_tries_61 (show 4 + 1 ≤ 5 + n + 1 by omega) ⟨by decide, by decide⟩ rfl (by decide)) dX12_tries_64) dX12_tries_65) dX12_tries_66))
  (S_thru (S_iinc dX12_tries_68) dX12_tries_71 rfl)))
  (S_seq (p1 := 125) (S_if (p1 := 90) (p2 := 125) (q := 125) (C_or (p1 := 81) (C_if_lt (E_getf fl_X12_377 (E_aload_n dX12_tries_74 rfl) dX12_tries_75) dX12_tries_78 rfl) (C_icmp_ge_n (E_iload dX12_tries_81) (E_getf fl_X12_377 (E_aload_n dX12_tries_83 rfl) dX12_tries_84) dX12_tries_87 rfl)) (S_seq (p1 := 96) (S_putf fp_X12_377 (E_aload_n dX12_tries_90 rfl) (E_iload dX12_tries_91) dX12_tries_93)
  (S_seq (p1 := 99) (S_istore (E_iconst dX12_tries_96 (by decide)) dX12_tries_97) (S_loop (p1 := 105) (p2 := 125) (p3 := 119) (kb := 4) (kc := 5) (by decide) (by decide) (by decide) (C_icmp_ge_n (E_iload dX12_tries_99) (E_iload_n dX12_tries_101 rfl) dX12_tries_102 rfl)
  (S_iast (E_getf fl_X12_133 (E_aload_n dX12_tries_105 rfl) dX12_tries_106) (E_iload dX12_tries_109) (E_iald (E_getf fl_X12_130 (E_aload_n dX12_tries_111 rfl) dX12_tries_112) (E_iload dX12_tries_115) dX12_tries_117) dX12_tries_118)
  (S_thru (S_iinc dX12_tries_119) dX12_tries_122 rfl)))) S_skip)
  (S_retv rfl dX12_tries_125))))) S_skip)
  (S_seq (p1 := 129) (S_istore (E_iconst dX12_tries_126 (by decide)) dX12_tries_127) (S_loop (p1 := 138) (p2 := 175) (p3 := 169) (kb := 6) (kc := 7) (by decide) (by decide) (by decide) (C_icmp_ge_n (E_iload dX12_tries_129) (E_callV mX12_meadows cv_X12_362 (A_cons2 (E_aload_n dX12_tries_131 rfl) A_nil) dX12_tries_132 (show 1 + 1 ≤ 5 + n + 1 by omega) ⟨by decide, by decide⟩ rfl (by decide)) dX12_tries_135 rfl)
  (S_if (p1 := 147) (p2 := 169) (q := 169) (C_if_ne_n (E_iand (E_ishr (E_iload_n dX12_tries_138 rfl) (E_iload dX12_tries_139) dX12_tries_141) (E_iconst dX12_tries_142 (by decide)) dX12_tries_143) dX12_tries_144 rfl) (S_seq (p1 := 155) (S_iast (E_getf fl_X12_130 (E_aload_n dX12_tries_147 rfl) dX12_tries_148) (E_iload_n dX12_tries_151 rfl) (E_iload dX12_tries_152) dX12_tries_154)
  (S_callV (hg 0) cv_X12_380 (A_cons2 (E_aload_n dX12_tries_155 rfl) (A_cons0 (E_iload_n dX12_tries_156 rfl) (A_cons0 (E_iadd (E_iload_n dX12_tries_157 rfl) (E_iconst dX12_tries_158 (by decide)) dX12_tries_159) (A_cons0 (E_ior (E_iload_n dX12_tries_160 rfl) (E_ishl (E_iconst dX12_tries_161 (by decide)) (E_iload dX12_tries_162) dX12_tries_164) dX12_tries_165) A_nil)))) dX12_tries_166 hdep rfl)) S_skip)
  (S_thru (S_iinc dX12_tries_169) dX12_tries_172 rfl)))) (S_retv rfl dX12_tries_175))
theorem mGX12_tries : ∀ n i : Nat, MO (yGX12_tries_t i) (cGX12_tries_t i) (lGX12_tries_t i) (rGX12_tries_t i) (5 + n) (gGX12_tries n i)
  | 0, _ => fun _ _ _ _ _ _ _ _ h => by cases h
  | n + 1, 0 => MO_of (d := 5 + n + 1) (by decide) (fun Γ => sX12_tries Γ n (gGX12_tries n) (mGX12_tries n))
  | n + 1, k + 1 => fun _ _ _ _ _ _ _ _ h => by cases h
noncomputable def fX12_tries : Fn := gGX12_tries 40 0
theorem mX12_tries : MO yX12_tries cX12_tries 7 none 45 fX12_tries := mGX12_tries 40 0
noncomputable def bX12_search : Sx := (seqS (putS 12 0 0 .int (locE 2 0) (numE 0)) (seqS (ifS (orC (notC (zC 1 (csE fX12_within [(0, (locE 0 2)), (0, (numE 0)), (0, (binE (fun x y => w32 (x + y)) (numE 1) (cvE 12 fX12_meadows [(2, (locE 2 0))])))]))) (notC (zC 1 (cvE 12 fX12_canSearch [(2, (locE 2 0)), (0, (locE 0 1))])))) (retS (numE (-1))) skipS) (seqS (putS 12 32 0 .int (locE 2 0) (numE (-1))) (seqS (exS (cvE 12 fX12_tries [(2, (locE 2 0)), (0, (locE 0 1)), (0, (numE 0)), (0, (numE 0))])) (seqS (stS 3 0 (csE fX12_common [(0, (getE 12 32 0 (locE 2 0))), (0, (cvE 12 fX12_allStray [(2, (locE 2 0)), (0, (locE 0 1))]))])) (retS (condE (zC 0 (locE 0 2)) (unE (fun x => x) (divE (fun x y => w32 (Int.tdiv x y)) (getE 12 32 0 (locE 2 0)) (locE 0 3))) (condE (cmpC 0 (locE 0 2) (numE 1)) (unE (fun x => x) (divE (fun x y => w32 (Int.tdiv x y)) (cvE 12 fX12_allStray [(2, (locE 2 0)), (0, (locE 0 1))]) (locE 0 3))) (unE (fun x => x) (aldE 100 (getE 12 31 2 (locE 2 0)) (binE (fun x y => w32 (x - y)) (locE 0 2) (numE 2))))))))))))
noncomputable def fX12_search : Fn := runB 4 bX12_search
theorem sX12_search (Γ : Cx) : SO (cX12_search, yX12_search.cls, 46, 4, (some .long)) Γ 0 0 [] bX12_search :=
  (S_seq (p1 := 5) (S_putf fp_X12_1 (E_aload_n dX12_search_0 rfl) (E_iconst dX12_search_1 (by decide)) dX12_search_2)
  (S_seq (p1 := 31) (S_if (p1 := 27) (p2 := 31) (q := 31) (C_or (p1 := 19) (C_not (C_if_eq_n (E_callS mX12_within cs_X12_319 (A_cons0 (E_iload_n dX12_search_5 rfl) (A_cons0 (E_iconst dX12_search_6 (by decide)) (A_cons0 (E_iadd (E_iconst dX12_search_7 (by decide)) (E_callV mX12_meadows cv_X12_362 (A_cons2 (E_aload_n dX12_search_8 rfl) A_nil) dX12_search_9 (by decide) ⟨by decide, by decide⟩ rfl (by decide)) dX12_search_12) A_nil))) dX12_search_13 (by decide) ⟨by decide, by decide⟩ rfl (by decide)) dX12_search_16 rfl)) (C_not (C_if_ne (E_callV mX12_canSearch cv_X12_371 (A_cons2 (E_aload_n dX12_search_19 rfl) (A_cons0 (E_iload_n dX12_search_20 rfl) A_nil)) dX12_search_21 (by decide) ⟨by decide, by decide⟩ rfl (by decide)) dX12_search_24 rfl))) (S_retl rfl (E_ldc2 dX12_search_27 kl_X12_384 (by decide)) dX12_search_30) S_skip)
  (S_seq (p1 := 36) (S_putf fp_X12_377 (E_aload_n dX12_search_31 rfl) (E_iconst dX12_search_32 (by decide)) dX12_search_33)
  (S_seq (p1 := 43) (S_callV mX12_tries cv_X12_380 (A_cons2 (E_aload_n dX12_search_36 rfl) (A_cons0 (E_iload_n dX12_search_37 rfl) (A_cons0 (E_iconst dX12_search_38 (by decide)) (A_cons0 (E_iconst dX12_search_39 (by decide)) A_nil)))) dX12_search_40 (by decide) rfl)
  (S_seq (p1 := 56) (S_istore_n (E_callS mX12_common cs_X12_374 (A_cons0 (E_getf fl_X12_377 (E_aload_n dX12_search_43 rfl) dX12_search_44) (A_cons0 (E_callV mX12_allStray cv_X12_368 (A_cons2 (E_aload_n dX12_search_47 rfl) (A_cons0 (E_iload_n dX12_search_48 rfl) A_nil)) dX12_search_49 (by decide) ⟨by decide, by decide⟩ rfl (by decide)) A_nil)) dX12_search_52 (by decide) ⟨by decide, by decide⟩ rfl (by decide)) dX12_search_55 rfl)
  (S_retl rfl (E_cond (p1 := 60) (p2 := 70) (p3 := 95) (C_if_ne_n (E_iload_n dX12_search_56 rfl) dX12_search_57 rfl) (E_thru (E_i2l (E_idiv (E_getf fl_X12_377 (E_aload_n dX12_search_60 rfl) dX12_search_61) (E_iload_n dX12_search_64 rfl) dX12_search_65) dX12_search_66) dX12_search_67 rfl) (E_cond (p1 := 75) (p2 := 86) (p3 := 95) (C_icmp_ne_n (E_iload_n dX12_search_70 rfl) (E_iconst dX12_search_71 (by decide)) dX12_search_72 rfl) (E_thru (E_i2l (E_idiv (E_callV mX12_allStray cv_X12_368 (A_cons2 (E_aload_n dX12_search_75 rfl) (A_cons0 (E_iload_n dX12_search_76 rfl) A_nil)) dX12_search_77 (by decide) ⟨by decide, by decide⟩ rfl (by decide)) (E_iload_n dX12_search_80 rfl) dX12_search_81) dX12_search_82) dX12_search_83 rfl) (E_i2l (E_iald (E_getf fl_X12_133 (E_aload_n dX12_search_86 rfl) dX12_search_87) (E_isub (E_iload_n dX12_search_90 rfl) (E_iconst dX12_search_91 (by decide)) dX12_search_92) dX12_search_93) dX12_search_94))) dX12_search_95))))))
theorem mX12_search : MO yX12_search cX12_search 4 (some .long) 46 fX12_search := MO_of (by decide) (fun Γ => sX12_search Γ)
noncomputable def bX12_seen : Sx := (seqS (putS 12 0 0 .int (locE 2 0) (numE 0)) (retS (condE (zC 1 (cvE 12 fX12_isPlace [(2, (locE 2 0)), (0, (locE 0 1))])) (cvE 12 fX12_tells [(2, (locE 2 0)), (0, (condE (zC 1 (locE 0 2)) (numE 0) (numE 1))), (0, (locE 0 1)), (0, (numE 0))]) (numE (-1)))))
noncomputable def fX12_seen : Fn := runB 3 bX12_seen
theorem sX12_seen (Γ : Cx) : SO (cX12_seen, yX12_seen.cls, 3, 3, (some .int)) Γ 0 0 [] bX12_seen :=
  (S_seq (p1 := 5) (S_putf fp_X12_1 (E_aload_n dX12_seen_0 rfl) (E_iconst dX12_seen_1 (by decide)) dX12_seen_2)
  (S_reti rfl (E_cond (p1 := 13) (p2 := 31) (p3 := 32) (C_if_eq_n (E_callV mX12_isPlace cv_X12_289 (A_cons2 (E_aload_n dX12_seen_5 rfl) (A_cons0 (E_iload_n dX12_seen_6 rfl) A_nil)) dX12_seen_7 (by decide) ⟨by decide, by decide⟩ rfl (by decide)) dX12_seen_10 rfl) (E_thru (E_callV mX12_tells cv_X12_332 (A_cons2 (E_aload_n dX12_seen_13 rfl) (A_cons0 (E_cond (p1 := 18) (p2 := 22) (p3 := 23) (C_if_eq_n (E_iload_n dX12_seen_14 rfl) dX12_seen_15 rfl) (E_thru (E_iconst dX12_seen_18 (by decide)) dX12_seen_19 rfl) (E_iconst dX12_seen_22 (by decide))) (A_cons0 (E_iload_n dX12_seen_23 rfl) (A_cons0 (E_iconst dX12_seen_24 (by decide)) A_nil)))) dX12_seen_25 (by decide) ⟨by decide, by decide⟩ rfl (by decide)) dX12_seen_28 rfl) (E_iconst dX12_seen_31 (by decide))) dX12_seen_32))
theorem mX12_seen : MO yX12_seen cX12_seen 3 (some .int) 3 fX12_seen := MO_of (by decide) (fun Γ => sX12_seen Γ)
noncomputable def kX12_settled_1c : Cn := (cmpC 2 (locE 0 4) (numE 12))
noncomputable def kX12_settled_1b : Sx := (astS 100 (getE 12 26 2 (locE 2 0)) (locE 0 4) (aldE 100 (getE 12 23 2 (locE 2 0)) (binE (fun x y => w32 (x + y)) (numE 2) (locE 0 4))))
noncomputable def kX12_settled_1u : Sx := (incS 4 1)
noncomputable def kX12_settled_1 : Sx := loopS 4 5 kX12_settled_1c kX12_settled_1b kX12_settled_1u
noncomputable def kX12_settled_2c : Cn := (cmpC 2 (locE 0 4) (cvE 12 fX12_beasts [(2, (locE 2 0))]))
noncomputable def kX12_settled_2b : Sx := (stS 3 0 (boolE (andC (zC 1 (locE 0 3)) (cmpC 0 (aldE 100 (getE 12 26 2 (locE 2 0)) (locE 0 4)) (aldE 100 (getE 12 23 2 (locE 2 0)) (binE (fun x y => w32 (x + y)) (numE 2) (locE 0 4)))))))
noncomputable def kX12_settled_2u : Sx := (incS 4 1)
noncomputable def kX12_settled_2 : Sx := loopS 6 7 kX12_settled_2c kX12_settled_2b kX12_settled_2u
noncomputable def kX12_settled_0c : Cn := (andC (cmpC 5 (locE 0 2) (numE 50)) (zC 2 (locE 0 1)))
noncomputable def kX12_settled_0b : Sx := (seqS (stS 3 0 (numE 1)) (seqS (seqS (stS 4 0 (numE 0)) kX12_settled_1) (seqS (exS (cvE 12 fX12_goesOn [(2, (locE 2 0))])) (seqS (seqS (stS 4 0 (numE 0)) kX12_settled_2) (stS 1 0 (condE (zC 1 (locE 0 3)) (locE 0 2) (numE (-1))))))))
noncomputable def kX12_settled_0u : Sx := (incS 2 1)
noncomputable def kX12_settled_0 : Sx := loopS 2 3 kX12_settled_0c kX12_settled_0b kX12_settled_0u
noncomputable def bX12_settled : Sx := (seqS (putS 12 0 0 .int (locE 2 0) (numE 0)) (seqS (exS (cvE 12 fX12_copies [(2, (locE 2 0)), (0, (numE 0)), (0, (numE 17))])) (seqS (stS 1 0 (numE (-1))) (seqS (seqS (stS 2 0 (numE 0)) kX12_settled_0) (seqS (exS (cvE 12 fX12_copies [(2, (locE 2 0)), (0, (numE 17)), (0, (numE 0))])) (retS (locE 0 1)))))))
noncomputable def fX12_settled : Fn := runB 5 bX12_settled
theorem sX12_settled (Γ : Cx) : SO (cX12_settled, yX12_settled.cls, 7, 5, (some .int)) Γ 0 0 [] bX12_settled :=
  (S_seq (p1 := 5) (S_putf fp_X12_1 (E_aload_n dX12_settled_0 rfl) (E_iconst dX12_settled_1 (by decide)) dX12_settled_2)
  (S_seq (p1 := 12) (S_callV mX12_copies cv_X12_274 (A_cons2 (E_aload_n dX12_settled_5 rfl) (A_cons0 (E_iconst dX12_settled_6 (by decide)) (A_cons0 (E_bipush dX12_settled_7 (by decide)) A_nil))) dX12_settled_9 (by decide) rfl)
  (S_seq (p1 := 14) (S_istore_n (E_iconst dX12_settled_12 (by decide)) dX12_settled_13 rfl)
  (S_seq (p1 := 127) (S_seq (p1 := 16) (S_istore_n (E_iconst dX12_settled_14 (by decide)) dX12_settled_15 rfl) (S_loop (p1 := 26) (p2 := 127) (p3 := 121) (kb := 2) (kc := 3) (by decide) (by decide) (by decide) (C_and (p1 := 22) (C_icmp_gt_n (E_iload_n dX12_settled_16 rfl) (E_bipush dX12_settled_17 (by decide)) dX12_settled_19 rfl) (C_if_ge_n (E_iload_n dX12_settled_22 rfl) dX12_settled_23 rfl))
  (S_seq (p1 := 28) (S_istore_n (E_iconst dX12_settled_26 (by decide)) dX12_settled_27 rfl)
  (S_seq (p1 := 60) (S_seq (p1 := 31) (S_istore (E_iconst dX12_settled_28 (by decide)) dX12_settled_29) (S_loop (p1 := 38) (p2 := 60) (p3 := 54) (kb := 4) (kc := 5) (by decide) (by decide) (by decide) (C_icmp_ge_n (E_iload dX12_settled_31) (E_bipush dX12_settled_33 (by decide)) dX12_settled_35 rfl)
  (S_iast (E_getf fl_X12_119 (E_aload_n dX12_settled_38 rfl) dX12_settled_39) (E_iload dX12_settled_42) (E_iald (E_getf fl_X12_112 (E_aload_n dX12_settled_44 rfl) dX12_settled_45) (E_iadd (E_iconst dX12_settled_48 (by decide)) (E_iload dX12_settled_49) dX12_settled_51) dX12_settled_52) dX12_settled_53)
  (S_thru (S_iinc dX12_settled_54) dX12_settled_57 rfl)))
  (S_seq (p1 := 64) (S_callV mX12_goesOn cv_X12_326 (A_cons2 (E_aload_n dX12_settled_60 rfl) A_nil) dX12_settled_61 (by decide) rfl)
  (S_seq (p1 := 111) (S_seq (p1 := 67) (S_istore (E_iconst dX12_settled_64 (by decide)) dX12_settled_65) (S_loop (p1 := 76) (p2 := 111) (p3 := 105) (kb := 6) (kc := 7) (by decide) (by decide) (by decide) (C_icmp_ge_n (E_iload dX12_settled_67) (E_callV mX12_beasts cv_X12_277 (A_cons2 (E_aload_n dX12_settled_69 rfl) A_nil) dX12_settled_70 (by decide) ⟨by decide, by decide⟩ rfl (by decide)) dX12_settled_73 rfl)
  (S_istore_n (E_bool (p1 := 99) (p2 := 103) (C_and (p1 := 80) (C_if_eq_n (E_iload_n dX12_settled_76 rfl) dX12_settled_77 rfl) (C_icmp_ne_n (E_iald (E_getf fl_X12_119 (E_aload_n dX12_settled_80 rfl) dX12_settled_81) (E_iload dX12_settled_84) dX12_settled_86) (E_iald (E_getf fl_X12_112 (E_aload_n dX12_settled_87 rfl) dX12_settled_88) (E_iadd (E_iconst dX12_settled_91 (by decide)) (E_iload dX12_settled_92) dX12_settled_94) dX12_settled_95) dX12_settled_96 rfl)) dX12_settled_99 dX12_settled_100 dX12_settled_103 rfl) dX12_settled_104 rfl)
  (S_thru (S_iinc dX12_settled_105) dX12_settled_108 rfl)))
  (S_istore_n (E_cond (p1 := 115) (p2 := 119) (p3 := 120) (C_if_eq_n (E_iload_n dX12_settled_111 rfl) dX12_settled_112 rfl) (E_thru (E_iload_n dX12_settled_115 rfl) dX12_settled_116 rfl) (E_iconst dX12_settled_119 (by decide))) dX12_settled_120 rfl)))))
  (S_thru (S_iinc dX12_settled_121) dX12_settled_124 rfl)))
  (S_seq (p1 := 134) (S_callV mX12_copies cv_X12_274 (A_cons2 (E_aload_n dX12_settled_127 rfl) (A_cons0 (E_bipush dX12_settled_128 (by decide)) (A_cons0 (E_iconst dX12_settled_130 (by decide)) A_nil))) dX12_settled_131 (by decide) rfl)
  (S_reti rfl (E_iload_n dX12_settled_134 rfl) dX12_settled_135))))))
theorem mX12_settled : MO yX12_settled cX12_settled 5 (some .int) 7 fX12_settled := MO_of (by decide) (fun Γ => sX12_settled Γ)
noncomputable def kX12_sure_0c : Cn := (cmpC 2 (locE 0 5) (binE o_ishl (numE 1) (cvE 12 fX12_beasts [(2, (locE 2 0))])))
noncomputable def kX12_sure_0b : Sx := (ifS (zC 1 (cvE 12 fX12_fitsAll [(2, (locE 2 0)), (0, (locE 0 5))])) (seqS (stS 2 0 (binE o_iand (locE 0 2) (locE 0 5))) (seqS (stS 3 0 (binE o_ior (locE 0 3) (locE 0 5))) (incS 4 1))) skipS)
noncomputable def kX12_sure_0u : Sx := (incS 5 1)
noncomputable def kX12_sure_0 : Sx := loopS 2 3 kX12_sure_0c kX12_sure_0b kX12_sure_0u
noncomputable def bX12_sure : Sx := (seqS (putS 12 0 0 .int (locE 2 0) (numE 0)) (seqS (stS 2 0 (cvE 12 fX12_lay_ [(2, (locE 2 0))])) (seqS (stS 3 0 (numE 0)) (seqS (stS 4 0 (numE 0)) (seqS (seqS (stS 5 0 (numE 0)) kX12_sure_0) (retS (condE (zC 0 (locE 0 4)) (numE (-1)) (condE (zC 1 (locE 0 1)) (binE o_iand (cvE 12 fX12_lay_ [(2, (locE 2 0))]) (binE o_ixor (locE 0 3) (numE (-1)))) (locE 0 2)))))))))
noncomputable def fX12_sure : Fn := runB 6 bX12_sure
theorem sX12_sure (Γ : Cx) : SO (cX12_sure, yX12_sure.cls, 7, 6, (some .int)) Γ 0 0 [] bX12_sure :=
  (S_seq (p1 := 5) (S_putf fp_X12_1 (E_aload_n dX12_sure_0 rfl) (E_iconst dX12_sure_1 (by decide)) dX12_sure_2)
  (S_seq (p1 := 10) (S_istore_n (E_callV mX12_lay_ cv_X12_338 (A_cons2 (E_aload_n dX12_sure_5 rfl) A_nil) dX12_sure_6 (by decide) ⟨by decide, by decide⟩ rfl (by decide)) dX12_sure_9 rfl)
  (S_seq (p1 := 12) (S_istore_n (E_iconst dX12_sure_10 (by decide)) dX12_sure_11 rfl)
  (S_seq (p1 := 15) (S_istore (E_iconst dX12_sure_12 (by decide)) dX12_sure_13)
  (S_seq (p1 := 57) (S_seq (p1 := 18) (S_istore (E_iconst dX12_sure_15 (by decide)) dX12_sure_16) (S_loop (p1 := 29) (p2 := 57) (p3 := 51) (kb := 2) (kc := 3) (by decide) (by decide) (by decide) (C_icmp_ge_n (E_iload dX12_sure_18) (E_ishl (E_iconst dX12_sure_20 (by decide)) (E_callV mX12_beasts cv_X12_277 (A_cons2 (E_aload_n dX12_sure_21 rfl) A_nil) dX12_sure_22 (by decide) ⟨by decide, by decide⟩ rfl (by decide)) dX12_sure_25) dX12_sure_26 rfl)
  (S_if (p1 := 38) (p2 := 51) (q := 51) (C_if_eq_n (E_callV mX12_fitsAll cv_X12_344 (A_cons2 (E_aload_n dX12_sure_29 rfl) (A_cons0 (E_iload dX12_sure_30) A_nil)) dX12_sure_32 (by decide) ⟨by decide, by decide⟩ rfl (by decide)) dX12_sure_35 rfl) (S_seq (p1 := 43) (S_istore_n (E_iand (E_iload_n dX12_sure_38 rfl) (E_iload dX12_sure_39) dX12_sure_41) dX12_sure_42 rfl)
  (S_seq (p1 := 48) (S_istore_n (E_ior (E_iload_n dX12_sure_43 rfl) (E_iload dX12_sure_44) dX12_sure_46) dX12_sure_47 rfl)
  (S_iinc dX12_sure_48))) S_skip)
  (S_thru (S_iinc dX12_sure_51) dX12_sure_54 rfl)))
  (S_reti rfl (E_cond (p1 := 62) (p2 := 66) (p3 := 82) (C_if_ne_n (E_iload dX12_sure_57) dX12_sure_59 rfl) (E_thru (E_iconst dX12_sure_62 (by decide)) dX12_sure_63 rfl) (E_cond (p1 := 70) (p2 := 81) (p3 := 82) (C_if_eq_n (E_iload_n dX12_sure_66 rfl) dX12_sure_67 rfl) (E_thru (E_iand (E_callV mX12_lay_ cv_X12_338 (A_cons2 (E_aload_n dX12_sure_70 rfl) A_nil) dX12_sure_71 (by decide) ⟨by decide, by decide⟩ rfl (by decide)) (E_ixor (E_iload_n dX12_sure_74 rfl) (E_iconst dX12_sure_75 (by decide)) dX12_sure_76) dX12_sure_77) dX12_sure_78 rfl) (E_iload_n dX12_sure_81 rfl))) dX12_sure_82))))))
theorem mX12_sure : MO yX12_sure cX12_sure 6 (some .int) 7 fX12_sure := MO_of (by decide) (fun Γ => sX12_sure Γ)
noncomputable def bX12_undo : Sx := (seqS (putS 12 0 0 .int (locE 2 0) (numE 0)) (seqS (ifS (zC 0 (getE 12 24 0 (locE 2 0))) (retZ (numE 0)) skipS) (seqS (fopS 12 24 (fun x y => w32 (x - y)) (locE 2 0) (numE 1)) (seqS (exS (cvE 12 fX12_copies [(2, (locE 2 0)), (0, (binE (fun x y => w32 (x + y)) (numE 5) (getE 12 24 0 (locE 2 0)))), (0, (numE 0))])) (seqS (astS 100 (getE 12 23 2 (locE 2 0)) (numE 182) (numE 0)) (retZ (numE 1)))))))
noncomputable def fX12_undo : Fn := runB 1 bX12_undo
theorem sX12_undo (Γ : Cx) : SO (cX12_undo, yX12_undo.cls, 2, 1, (some .boolean)) Γ 0 0 [] bX12_undo :=
  (S_seq (p1 := 5) (S_putf fp_X12_1 (E_aload_n dX12_undo_0 rfl) (E_iconst dX12_undo_1 (by decide)) dX12_undo_2)
  (S_seq (p1 := 14) (S_if (p1 := 12) (p2 := 14) (q := 14) (C_if_ne_n (E_getf fl_X12_271 (E_aload_n dX12_undo_5 rfl) dX12_undo_6) dX12_undo_9 rfl) (S_retz rfl (E_iconst dX12_undo_12 (by decide)) dX12_undo_13) S_skip)
  (S_seq (p1 := 24) (S_fop_isub fl_X12_271 fp_X12_271 (E_aload_n dX12_undo_14 rfl) dX12_undo_15 dX12_undo_16 (E_iconst dX12_undo_19 (by decide)) dX12_undo_20 dX12_undo_21)
  (S_seq (p1 := 35) (S_callV mX12_copies cv_X12_274 (A_cons2 (E_aload_n dX12_undo_24 rfl) (A_cons0 (E_iadd (E_iconst dX12_undo_25 (by decide)) (E_getf fl_X12_271 (E_aload_n dX12_undo_26 rfl) dX12_undo_27) dX12_undo_30) (A_cons0 (E_iconst dX12_undo_31 (by decide)) A_nil))) dX12_undo_32 (by decide) rfl)
  (S_seq (p1 := 44) (S_iast (E_getf fl_X12_112 (E_aload_n dX12_undo_35 rfl) dX12_undo_36) (E_sipush dX12_undo_39 (by decide)) (E_iconst dX12_undo_42 (by decide)) dX12_undo_43)
  (S_retz rfl (E_iconst dX12_undo_44 (by decide)) dX12_undo_45))))))
theorem mX12_undo : MO yX12_undo cX12_undo 1 (some .boolean) 2 fX12_undo := MO_of (by decide) (fun Γ => sX12_undo Γ)
noncomputable def bX12_uneasy : Sx := (seqS (putS 12 0 0 .int (locE 2 0) (numE 0)) (retS (condE (andC (andC (zC 1 (cvE 12 fX12_isBeast [(2, (locE 2 0)), (0, (locE 0 1))])) (zC 3 (aldE 100 (getE 12 23 2 (locE 2 0)) (binE (fun x y => w32 (x + y)) (numE 14) (locE 0 1))))) (zC 1 (csE fX12_within [(0, (locE 0 2)), (0, (numE 1)), (0, (numE 99))]))) (cvE 12 fX12_tells [(2, (locE 2 0)), (0, (condE (zC 1 (locE 0 3)) (numE 3) (numE 4))), (0, (locE 0 1)), (0, (locE 0 2))]) (numE (-1)))))
noncomputable def fX12_uneasy : Fn := runB 4 bX12_uneasy
theorem sX12_uneasy (Γ : Cx) : SO (cX12_uneasy, yX12_uneasy.cls, 3, 4, (some .int)) Γ 0 0 [] bX12_uneasy :=
  (S_seq (p1 := 5) (S_putf fp_X12_1 (E_aload_n dX12_uneasy_0 rfl) (E_iconst dX12_uneasy_1 (by decide)) dX12_uneasy_2)
  (S_reti rfl (E_cond (p1 := 35) (p2 := 53) (p3 := 54) (C_and (p1 := 25) (C_and (p1 := 13) (C_if_eq_n (E_callV mX12_isBeast cv_X12_316 (A_cons2 (E_aload_n dX12_uneasy_5 rfl) (A_cons0 (E_iload_n dX12_uneasy_6 rfl) A_nil)) dX12_uneasy_7 (by decide) ⟨by decide, by decide⟩ rfl (by decide)) dX12_uneasy_10 rfl) (C_if_lt_n (E_iald (E_getf fl_X12_112 (E_aload_n dX12_uneasy_13 rfl) dX12_uneasy_14) (E_iadd (E_bipush dX12_uneasy_17 (by decide)) (E_iload_n dX12_uneasy_19 rfl) dX12_uneasy_20) dX12_uneasy_21) dX12_uneasy_22 rfl)) (C_if_eq_n (E_callS mX12_within cs_X12_319 (A_cons0 (E_iload_n dX12_uneasy_25 rfl) (A_cons0 (E_iconst dX12_uneasy_26 (by decide)) (A_cons0 (E_bipush dX12_uneasy_27 (by decide)) A_nil))) dX12_uneasy_29 (by decide) ⟨by decide, by decide⟩ rfl (by decide)) dX12_uneasy_32 rfl)) (E_thru (E_callV mX12_tells cv_X12_332 (A_cons2 (E_aload_n dX12_uneasy_35 rfl) (A_cons0 (E_cond (p1 := 40) (p2 := 44) (p3 := 45) (C_if_eq_n (E_iload_n dX12_uneasy_36 rfl) dX12_uneasy_37 rfl) (E_thru (E_iconst dX12_uneasy_40 (by decide)) dX12_uneasy_41 rfl) (E_iconst dX12_uneasy_44 (by decide))) (A_cons0 (E_iload_n dX12_uneasy_45 rfl) (A_cons0 (E_iload_n dX12_uneasy_46 rfl) A_nil)))) dX12_uneasy_47 (by decide) ⟨by decide, by decide⟩ rfl (by decide)) dX12_uneasy_50 rfl) (E_iconst dX12_uneasy_53 (by decide))) dX12_uneasy_54))
theorem mX12_uneasy : MO yX12_uneasy cX12_uneasy 4 (some .int) 3 fX12_uneasy := MO_of (by decide) (fun Γ => sX12_uneasy Γ)
