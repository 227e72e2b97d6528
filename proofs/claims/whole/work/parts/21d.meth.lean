noncomputable def bX11_heard : Sx := (seqS (ifS (orC (orC (orC (cmpC 2 (locE 0 1) (numE 1)) (cmpC 4 (locE 0 1) (numE 9))) (zC 2 (locE 0 2))) (cmpC 4 (locE 0 2) (numE 12))) (retS (numE (-1))) skipS) (retS (cvE 2 fX2_tell [(2, (getE 11 6 2 (locE 2 0))), (0, (numE 2)), (0, (locE 0 1)), (0, (locE 0 2))])))
noncomputable def fX11_heard : Fn := runB 3 bX11_heard
theorem sX11_heard (Γ : Cx) : SO (cX11_heard, yX11_heard.cls, 2, 3, (some .int)) Γ 0 0 [] bX11_heard :=
  (S_seq (p1 := 23) (S_if (p1 := 21) (p2 := 23) (q := 23) (C_or (p1 := 15) (C_or (p1 := 11) (C_or (p1 := 5) (C_icmp_lt (E_iload_n dX11_heard_0 rfl) (E_iconst dX11_heard_1 (by decide)) dX11_heard_2 rfl) (C_icmp_gt (E_iload_n dX11_heard_5 rfl) (E_bipush dX11_heard_6 (by decide)) dX11_heard_8 rfl)) (C_if_lt (E_iload_n dX11_heard_11 rfl) dX11_heard_12 rfl)) (C_icmp_le_n (E_iload_n dX11_heard_15 rfl) (E_bipush dX11_heard_16 (by decide)) dX11_heard_18 rfl)) (S_reti rfl (E_iconst dX11_heard_21 (by decide)) dX11_heard_22) S_skip)
  (S_reti rfl (E_callV mX2_tell cv_X11_171 (A_cons2 (E_getf fl_X11_48 (E_aload_n dX11_heard_23 rfl) dX11_heard_24) (A_cons0 (E_iconst dX11_heard_27 (by decide)) (A_cons0 (E_iload_n dX11_heard_28 rfl) (A_cons0 (E_iload_n dX11_heard_29 rfl) A_nil)))) dX11_heard_30 (by decide) ⟨by decide, by decide⟩ rfl (by decide)) dX11_heard_33))
theorem mX11_heard : MO yX11_heard cX11_heard 3 (some .int) 2 fX11_heard := MO_of (by decide) (fun Γ => sX11_heard Γ)
noncomputable def bX11_isPlace : Sx := (retZ (boolE (andC (zC 3 (locE 0 1)) (cmpC 2 (locE 0 1) (getE 1 0 0 (getE 11 1 2 (locE 2 0)))))))
noncomputable def fX11_isPlace : Fn := runB 2 bX11_isPlace
theorem sX11_isPlace (Γ : Cx) : SO (cX11_isPlace, yX11_isPlace.cls, 1, 2, (some .boolean)) Γ 0 0 [] bX11_isPlace :=
  (S_retz rfl (E_bool (p1 := 15) (p2 := 19) (C_and (p1 := 4) (C_if_lt_n (E_iload_n dX11_isPlace_0 rfl) dX11_isPlace_1 rfl) (C_icmp_ge_n (E_iload_n dX11_isPlace_4 rfl) (E_getf fl_X11_250 (E_getf fl_X11_19 (E_aload_n dX11_isPlace_5 rfl) dX11_isPlace_6) dX11_isPlace_9) dX11_isPlace_12 rfl)) dX11_isPlace_15 dX11_isPlace_16 dX11_isPlace_19 rfl) dX11_isPlace_20)
theorem mX11_isPlace : MO yX11_isPlace cX11_isPlace 2 (some .boolean) 1 fX11_isPlace := MO_of (by decide) (fun Γ => sX11_isPlace Γ)
noncomputable def bX11_liking : Sx := (retS (condE (zC 1 (cvE 11 fX11_isPair [(2, (locE 2 0)), (0, (locE 0 1)), (0, (locE 0 2))])) (cvE 6 fX6_likes [(2, (getE 11 4 2 (locE 2 0))), (2, (getE 11 1 2 (locE 2 0))), (0, (locE 0 1)), (0, (locE 0 2))]) (numE (-1))))
noncomputable def fX11_liking : Fn := runB 3 bX11_liking
theorem sX11_liking (Γ : Cx) : SO (cX11_liking, yX11_liking.cls, 3, 3, (some .int)) Γ 0 0 [] bX11_liking :=
  (S_reti rfl (E_cond (p1 := 9) (p2 := 25) (p3 := 26) (C_if_eq_n (E_callV mX11_isPair cv_X11_137 (A_cons2 (E_aload_n dX11_liking_0 rfl) (A_cons0 (E_iload_n dX11_liking_1 rfl) (A_cons0 (E_iload_n dX11_liking_2 rfl) A_nil))) dX11_liking_3 (by decide) ⟨by decide, by decide⟩ rfl (by decide)) dX11_liking_6 rfl) (E_thru (E_callV mX6_likes cv_X11_141 (A_cons2 (E_getf fl_X11_38 (E_aload_n dX11_liking_9 rfl) dX11_liking_10) (A_cons2 (E_getf fl_X11_19 (E_aload_n dX11_liking_13 rfl) dX11_liking_14) (A_cons0 (E_iload_n dX11_liking_17 rfl) (A_cons0 (E_iload_n dX11_liking_18 rfl) A_nil)))) dX11_liking_19 (by decide) ⟨by decide, by decide⟩ rfl (by decide)) dX11_liking_22 rfl) (E_iconst dX11_liking_25 (by decide))) dX11_liking_26)
theorem mX11_liking : MO yX11_liking cX11_liking 3 (some .int) 3 fX11_liking := MO_of (by decide) (fun Γ => sX11_liking Γ)
noncomputable def bX5_tells : Sx := (retZ (boolE (andC (zC 1 (binE o_iand (locE 0 2) (aldE 100 (getE 5 1 2 (locE 2 0)) (locE 0 1)))) (zC 1 (binE o_iand (locE 0 2) (binE o_ixor (aldE 100 (getE 5 1 2 (locE 2 0)) (locE 0 1)) (numE (-1))))))))
noncomputable def fX5_tells : Fn := runB 3 bX5_tells
theorem sX5_tells (Γ : Cx) : SO (cX5_tells, yX5_tells.cls, 1, 3, (some .boolean)) Γ 0 0 [] bX5_tells :=
  (S_retz rfl (E_bool (p1 := 24) (p2 := 28) (C_and (p1 := 11) (C_if_eq_n (E_iand (E_iload_n dX5_tells_0 rfl) (E_iald (E_getf fl_X5_9 (E_aload_n dX5_tells_1 rfl) dX5_tells_2) (E_iload_n dX5_tells_5 rfl) dX5_tells_6) dX5_tells_7) dX5_tells_8 rfl) (C_if_eq_n (E_iand (E_iload_n dX5_tells_11 rfl) (E_ixor (E_iald (E_getf fl_X5_9 (E_aload_n dX5_tells_12 rfl) dX5_tells_13) (E_iload_n dX5_tells_16 rfl) dX5_tells_17) (E_iconst dX5_tells_18 (by decide)) dX5_tells_19) dX5_tells_20) dX5_tells_21 rfl)) dX5_tells_24 dX5_tells_25 dX5_tells_28 rfl) dX5_tells_29)
theorem mX5_tells : MO yX5_tells cX5_tells 3 (some .boolean) 1 fX5_tells := MO_of (by decide) (fun Γ => sX5_tells Γ)
noncomputable def bX5_afterLook (g : Nat → Fn) : Sx := (seqS (stS 4 0 (cvE 5 (g 1) [(2, (locE 2 0)), (0, (binE o_iand (locE 0 2) (aldE 100 (getE 5 1 2 (locE 2 0)) (locE 0 1)))), (0, (binE (fun x y => w32 (x + y)) (locE 0 3) (numE 1)))])) (seqS (stS 5 0 (cvE 5 (g 1) [(2, (locE 2 0)), (0, (binE o_iand (locE 0 2) (binE o_ixor (aldE 100 (getE 5 1 2 (locE 2 0)) (locE 0 1)) (numE (-1))))), (0, (binE (fun x y => w32 (x + y)) (locE 0 3) (numE 1)))])) (retS (binE (fun x y => w32 (x + y)) (numE 1) (binE (fun x y => if x < y then y else x) (locE 0 4) (locE 0 5))))))
noncomputable def kX5_fewest_0c (g : Nat → Fn) : Cn := (cmpC 2 (locE 0 6) (numE 16))
noncomputable def kX5_fewest_0b (g : Nat → Fn) : Sx := (ifS (zC 1 (cvE 5 fX5_tells [(2, (locE 2 0)), (0, (locE 0 6)), (0, (locE 0 1))])) (stS 5 0 (binE (fun x y => if y < x then y else x) (locE 0 5) (cvE 5 (g 0) [(2, (locE 2 0)), (0, (locE 0 6)), (0, (locE 0 1)), (0, (locE 0 2))]))) skipS)
noncomputable def kX5_fewest_0u (g : Nat → Fn) : Sx := (incS 6 1)
noncomputable def kX5_fewest_0 (g : Nat → Fn) : Sx := loopS 2 3 (kX5_fewest_0c g) (kX5_fewest_0b g) (kX5_fewest_0u g)
noncomputable def bX5_fewest (g : Nat → Fn) : Sx := (seqS (ifS (orC (cmpC 2 (csE fJ6_bitCount_0f7a4 [(0, (locE 0 1))]) (numE 2)) (cmpC 3 (locE 0 2) (numE 16))) (retS (numE 0)) skipS) (seqS (stS 3 0 (binE (fun x y => w32 (x * y)) (binE o_iand (locE 0 1) (numE 15)) (numE 4))) (seqS (stS 4 0 (binE o_iand (unE w32 (binE o_lushr (aldE 101 (getE 5 2 2 (locE 2 0)) (binE o_ishr (locE 0 1) (numE 4))) (locE 0 3))) (numE 15))) (seqS (ifS (zC 1 (locE 0 4)) (retS (locE 0 4)) skipS) (seqS (stS 5 0 (numE 16)) (seqS (seqS (stS 6 0 (numE 0)) (kX5_fewest_0 g)) (seqS (aopS 101 o_lor (getE 5 2 2 (locE 2 0)) (binE o_ishr (locE 0 1) (numE 4)) (binE o_lshl (unE (fun x => x) (binE o_iand (locE 0 5) (numE 15))) (locE 0 3))) (retS (locE 0 5)))))))))
noncomputable def gGX5_afterLook : Nat → Nat → Fn
  | 0 => fun _ _ _ _ => none
  | n + 1 => fun i => match i with
    | 0 => runB 6 (bX5_afterLook (gGX5_afterLook n))
    | 1 => runB 7 (bX5_fewest (gGX5_afterLook n))
    | _ => fun _ _ _ => none
def yGX5_afterLook_t : Nat → MethodName := fun i => match i with
  | 0 => yX5_afterLook
  | 1 => yX5_fewest
  | _ => yX5_afterLook
def cGX5_afterLook_t : Nat → ByteArray := fun i => match i with
  | 0 => cX5_afterLook
  | 1 => cX5_fewest
  | _ => cX5_afterLook
def lGX5_afterLook_t : Nat → Nat := fun i => match i with
  | 0 => 6
  | 1 => 7
  | _ => 0
def rGX5_afterLook_t : Nat → Option FieldType := fun i => match i with
  | 0 => (some .int)
  | 1 => (some .int)
  | _ => none
theorem sX5_afterLook (Γ : Cx) (n : Nat) (g : Nat → Fn) (hg : ∀ i : Nat, MO (yGX5_afterLook_t i) (cGX5_afterLook_t i) (lGX5_afterLook_t i) (rGX5_afterLook_t i) (2 + n) (g i)) : SO (cX5_afterLook, yX5_afterLook.cls, (2 + n + 1), 6, (some .int)) Γ 0 0 [] (bX5_afterLook g) :=
  have hdep : (2 + n) + 1 ≤ 2 + n + 1 := Nat.le_refl _
  (S_seq (p1 := 17) (S_istore (E_callV (hg 1) cv_X5_47 (A_cons2 (E_aload_n dX5_afterLook_0 rfl) (A_cons0 (E_iand (E_iload_n dX5_afterLook_1 rfl) (E_iald (E_getf fl_X5_9 (E_aload_n dX5_afterLook_2 rfl) dX5_afterLook_3) (E_iload_n dX5_afterLook_6 rfl) dX5_afterLook_7) dX5_afterLook_8) (A_cons0 (E_iadd (E_iload_n dX5_afterLook_9 rfl) (E_iconst dX5_afterLook_10 (by decide)) dX5_afterLook_11) A_nil))) dX5_afterLook_12 hdep ⟨by decide, by decide⟩ rfl (by decide)) dX5_afterLook_15)
  (S_seq (p1 := 36) (S_istore (E_callV (hg 1) cv_X5_47 (A_cons2 (E_aload_n dX5_afterLook_17 rfl) (A_cons0 (E_iand (E_iload_n dX5_afterLook_18 rfl) (E_ixor (E_iald (E_getf fl_X5_9 (E_aload_n dX5_afterLook_19 rfl) dX5_afterLook_20) (E_iload_n dX5_afterLook_23 rfl) dX5_afterLook_24) (E_iconst dX5_afterLook_25 (by decide)) dX5_afterLook_26) dX5_afterLook_27) (A_cons0 (E_iadd (E_iload_n dX5_afterLook_28 rfl) (E_iconst dX5_afterLook_29 (by decide)) dX5_afterLook_30) A_nil))) dX5_afterLook_31 hdep ⟨by decide, by decide⟩ rfl (by decide)) dX5_afterLook_34)
  (S_reti rfl (E_iadd (E_iconst dX5_afterLook_36 (by decide)) (E_mmax mm_X5_70 (E_iload dX5_afterLook_37) (E_iload dX5_afterLook_39) dX5_afterLook_41 (show 1 ≤ 2 + n + 1 by omega) (by decide)) dX5_afterLook_44) dX5_afterLook_45)))
theorem sX5_fewest (Γ : Cx) (n : Nat) (g : Nat → Fn) (hg : ∀ i : Nat, MO (yGX5_afterLook_t i) (cGX5_afterLook_t i) (lGX5_afterLook_t i) (rGX5_afterLook_t i) (2 + n) (g i)) : SO (cX5_fewest, yX5_fewest.cls, (2 + n + 1), 7, (some .int)) Γ 0 0 [] (bX5_fewest g) :=
  have hdep : (2 + n) + 1 ≤ 2 + n + 1 := Nat.le_refl _
  (S_seq (p1 := 16) (S_if (p1 := 14) (p2 := 16) (q := 16) (C_or (p1 := 8) (C_icmp_lt (E_callS mJ6_bitCount_0f7a4 cs_X5_59 (A_cons0 (E_iload_n dX5_fewest_0 rfl) A_nil) dX5_fewest_1 (show 1 + 1 ≤ 2 + n + 1 by omega) ⟨by decide, by decide⟩ rfl (by decide)) (E_iconst dX5_fewest_4 (by decide)) dX5_fewest_5 rfl) (C_icmp_lt_n (E_iload_n dX5_fewest_8 rfl) (E_bipush dX5_fewest_9 (by decide)) dX5_fewest_11 rfl)) (S_reti rfl (E_iconst dX5_fewest_14 (by decide)) dX5_fewest_15) S_skip)
  (S_seq (p1 := 23) (S_istore_n (E_imul (E_iand (E_iload_n dX5_fewest_16 rfl) (E_bipush dX5_fewest_17 (by decide)) dX5_fewest_19) (E_iconst dX5_fewest_20 (by decide)) dX5_fewest_21) dX5_fewest_22 rfl)
  (S_seq (p1 := 39) (S_istore (E_iand (E_l2i (E_lushr (E_lald (E_getf fl_X5_15 (E_aload_n dX5_fewest_23 rfl) dX5_fewest_24) (E_ishr (E_iload_n dX5_fewest_27 rfl) (E_iconst dX5_fewest_28 (by decide)) dX5_fewest_29) dX5_fewest_30) (E_iload_n dX5_fewest_31 rfl) dX5_fewest_32) dX5_fewest_33) (E_bipush dX5_fewest_34 (by decide)) dX5_fewest_36) dX5_fewest_37)
  (S_seq (p1 := 47) (S_if (p1 := 44) (p2 := 47) (q := 47) (C_if_eq_n (E_iload dX5_fewest_39) dX5_fewest_41 rfl) (S_reti rfl (E_iload dX5_fewest_44) dX5_fewest_46) S_skip)
  (S_seq (p1 := 51) (S_istore (E_bipush dX5_fewest_47 (by decide)) dX5_fewest_49)
  (S_seq (p1 := 92) (S_seq (p1 := 54) (S_istore (E_iconst dX5_fewest_51 (by decide)) dX5_fewest_52) (S_loop (p1 := 61) (p2 := 92) (p3 := 86) (kb := 2) (kc := 3) (by decide) (by decide) (by decide) (C_icmp_ge_n (E_iload dX5_fewest_54) (E_bipush dX5_fewest_56 (by decide)) dX5_fewest_58 rfl)
  (S_if (p1 := 71) (p2 := 86) (q := 86) (C_if_eq_n (E_callV mX5_tells cv_X5_51 (A_cons2 (E_aload_n dX5_fewest_61 rfl) (A_cons0 (E_iload dX5_fewest_62) (A_cons0 (E_iload_n dX5_fewest_64 rfl) A_nil))) dX5_fewest_65 (show 1 + 1 ≤ 2 + n + 1 by omega) ⟨by decide, by decide⟩ rfl (by decide)) dX5_fewest_68 rfl) (S_istore (E_mmin mm_X5_65 (E_iload dX5_fewest_71) (E_callV (hg 0) cv_X5_55 (A_cons2 (E_aload_n dX5_fewest_73 rfl) (A_cons0 (E_iload dX5_fewest_74) (A_cons0 (E_iload_n dX5_fewest_76 rfl) (A_cons0 (E_iload_n dX5_fewest_77 rfl) A_nil)))) dX5_fewest_78 hdep ⟨by decide, by decide⟩ rfl (by decide)) dX5_fewest_81 (show 1 ≤ 2 + n + 1 by omega) (by decide)) dX5_fewest_84) S_skip)
  (S_thru (S_iinc dX5_fewest_86) dX5_fewest_89 rfl)))
  (S_seq (p1 := 111) (S_aopl_lor (E_getf fl_X5_15 (E_aload_n dX5_fewest_92 rfl) dX5_fewest_93) (E_ishr (E_iload_n dX5_fewest_96 rfl) (E_iconst dX5_fewest_97 (by decide)) dX5_fewest_98) dX5_fewest_99 dX5_fewest_100 (E_lshl (E_i2l (E_iand (E_iload dX5_fewest_101) (E_bipush dX5_fewest_103 (by decide)) dX5_fewest_105) dX5_fewest_106) (E_iload_n dX5_fewest_107 rfl) dX5_fewest_108) dX5_fewest_109 dX5_fewest_110)
  (S_reti rfl (E_iload dX5_fewest_111) dX5_fewest_113))))))))
theorem mGX5_afterLook : ∀ n i : Nat, MO (yGX5_afterLook_t i) (cGX5_afterLook_t i) (lGX5_afterLook_t i) (rGX5_afterLook_t i) (2 + n) (gGX5_afterLook n i)
  | 0, _ => fun _ _ _ _ _ _ _ _ h => by cases h
  | n + 1, 0 => MO_of (d := 2 + n + 1) (by decide) (fun Γ => sX5_afterLook Γ n (gGX5_afterLook n) (mGX5_afterLook n))
  | n + 1, 1 => MO_of (d := 2 + n + 1) (by decide) (fun Γ => sX5_fewest Γ n (gGX5_afterLook n) (mGX5_afterLook n))
  | n + 1, k + 2 => fun _ _ _ _ _ _ _ _ h => by cases h
noncomputable def fX5_afterLook : Fn := gGX5_afterLook 40 0
theorem mX5_afterLook : MO yX5_afterLook cX5_afterLook 6 (some .int) 42 fX5_afterLook := mGX5_afterLook 40 0
noncomputable def fX5_fewest : Fn := gGX5_afterLook 40 1
theorem mX5_fewest : MO yX5_fewest cX5_fewest 7 (some .int) 42 fX5_fewest := mGX5_afterLook 40 1
noncomputable def kX5_firstPlace_0c : Cn := (andC (cmpC 2 (locE 0 2) (numE 16)) (zC 4 (locE 0 1)))
noncomputable def kX5_firstPlace_0b : Sx := (ifS (andC (zC 1 (cvE 5 fX5_tells [(2, (locE 2 0)), (0, (locE 0 2)), (0, (getE 5 0 0 (locE 2 0)))])) (cmpC 0 (cvE 5 fX5_afterLook [(2, (locE 2 0)), (0, (locE 0 2)), (0, (getE 5 0 0 (locE 2 0))), (0, (numE 0))]) (locE 0 1))) (retS (locE 0 2)) skipS)
noncomputable def kX5_firstPlace_0u : Sx := (incS 2 1)
noncomputable def kX5_firstPlace_0 : Sx := loopS 2 3 kX5_firstPlace_0c kX5_firstPlace_0b kX5_firstPlace_0u
noncomputable def bX5_firstPlace : Sx := (seqS (stS 1 0 (cvE 5 fX5_fewest [(2, (locE 2 0)), (0, (getE 5 0 0 (locE 2 0))), (0, (numE 0))])) (seqS (seqS (stS 2 0 (numE 0)) kX5_firstPlace_0) (retS (numE (-1)))))
noncomputable def fX5_firstPlace : Fn := runB 3 bX5_firstPlace
theorem sX5_firstPlace (Γ : Cx) : SO (cX5_firstPlace, yX5_firstPlace.cls, 43, 3, (some .int)) Γ 0 0 [] bX5_firstPlace :=
  (S_seq (p1 := 10) (S_istore_n (E_callV mX5_fewest cv_X5_47 (A_cons2 (E_aload_n dX5_firstPlace_0 rfl) (A_cons0 (E_getf fl_X5_25 (E_aload_n dX5_firstPlace_1 rfl) dX5_firstPlace_2) (A_cons0 (E_iconst dX5_firstPlace_5 (by decide)) A_nil))) dX5_firstPlace_6 (by decide) ⟨by decide, by decide⟩ rfl (by decide)) dX5_firstPlace_9 rfl)
  (S_seq (p1 := 56) (S_seq (p1 := 12) (S_istore_n (E_iconst dX5_firstPlace_10 (by decide)) dX5_firstPlace_11 rfl) (S_loop (p1 := 22) (p2 := 56) (p3 := 50) (kb := 2) (kc := 3) (by decide) (by decide) (by decide) (C_and (p1 := 18) (C_icmp_ge_n (E_iload_n dX5_firstPlace_12 rfl) (E_bipush dX5_firstPlace_13 (by decide)) dX5_firstPlace_15 rfl) (C_if_le_n (E_iload_n dX5_firstPlace_18 rfl) dX5_firstPlace_19 rfl))
  (S_if (p1 := 48) (p2 := 50) (q := 50) (C_and (p1 := 34) (C_if_eq_n (E_callV mX5_tells cv_X5_51 (A_cons2 (E_aload_n dX5_firstPlace_22 rfl) (A_cons0 (E_iload_n dX5_firstPlace_23 rfl) (A_cons0 (E_getf fl_X5_25 (E_aload_n dX5_firstPlace_24 rfl) dX5_firstPlace_25) A_nil))) dX5_firstPlace_28 (by decide) ⟨by decide, by decide⟩ rfl (by decide)) dX5_firstPlace_31 rfl) (C_icmp_ne_n (E_callV mX5_afterLook cv_X5_55 (A_cons2 (E_aload_n dX5_firstPlace_34 rfl) (A_cons0 (E_iload_n dX5_firstPlace_35 rfl) (A_cons0 (E_getf fl_X5_25 (E_aload_n dX5_firstPlace_36 rfl) dX5_firstPlace_37) (A_cons0 (E_iconst dX5_firstPlace_40 (by decide)) A_nil)))) dX5_firstPlace_41 (by decide) ⟨by decide, by decide⟩ rfl (by decide)) (E_iload_n dX5_firstPlace_44 rfl) dX5_firstPlace_45 rfl)) (S_reti rfl (E_iload_n dX5_firstPlace_48 rfl) dX5_firstPlace_49) S_skip)
  (S_thru (S_iinc dX5_firstPlace_50) dX5_firstPlace_53 rfl)))
  (S_reti rfl (E_iconst dX5_firstPlace_56 (by decide)) dX5_firstPlace_57)))
theorem mX5_firstPlace : MO yX5_firstPlace cX5_firstPlace 3 (some .int) 43 fX5_firstPlace := MO_of (by decide) (fun Γ => sX5_firstPlace Γ)
noncomputable def bX5_howMany : Sx := (retS (cvE 5 fX5_fewest [(2, (locE 2 0)), (0, (getE 5 0 0 (locE 2 0))), (0, (numE 0))]))
noncomputable def fX5_howMany : Fn := runB 1 bX5_howMany
theorem sX5_howMany (Γ : Cx) : SO (cX5_howMany, yX5_howMany.cls, 43, 1, (some .int)) Γ 0 0 [] bX5_howMany :=
  (S_reti rfl (E_callV mX5_fewest cv_X5_47 (A_cons2 (E_aload_n dX5_howMany_0 rfl) (A_cons0 (E_getf fl_X5_25 (E_aload_n dX5_howMany_1 rfl) dX5_howMany_2) (A_cons0 (E_iconst dX5_howMany_5 (by decide)) A_nil))) dX5_howMany_6 (by decide) ⟨by decide, by decide⟩ rfl (by decide)) dX5_howMany_9)
theorem mX5_howMany : MO yX5_howMany cX5_howMany 1 (some .int) 43 fX5_howMany := MO_of (by decide) (fun Γ => sX5_howMany Γ)
noncomputable def kX5_prepare_0c : Cn := (andC (cmpC 2 (locE 0 4) (lenE (getE 5 2 2 (locE 2 0)))) (cmpC 5 (locE 0 4) (binE o_ishr (getE 5 0 0 (locE 2 0)) (numE 4))))
noncomputable def kX5_prepare_0b : Sx := (astS 101 (getE 5 2 2 (locE 2 0)) (locE 0 4) (numE 0))
noncomputable def kX5_prepare_0u : Sx := (incS 4 1)
noncomputable def kX5_prepare_0 : Sx := loopS 2 3 kX5_prepare_0c kX5_prepare_0b kX5_prepare_0u
noncomputable def kX5_prepare_2c : Cn := (andC (cmpC 2 (locE 0 6) (getE 3 1 0 (locE 2 3))) (cmpC 2 (locE 0 6) (numE 16)))
noncomputable def kX5_prepare_2b : Sx := (aopS 100 o_ior (getE 5 1 2 (locE 2 0)) (locE 0 5) (binE o_ishl (binE o_iand (binE o_ishr (aldE 100 (getE 3 5 2 (locE 2 3)) (locE 0 6)) (locE 0 4)) (numE 1)) (locE 0 6)))
noncomputable def kX5_prepare_2u : Sx := (incS 6 1)
noncomputable def kX5_prepare_2 : Sx := loopS 6 7 kX5_prepare_2c kX5_prepare_2b kX5_prepare_2u
noncomputable def kX5_prepare_1c : Cn := (cmpC 2 (locE 0 4) (getE 1 1 0 (locE 2 1)))
noncomputable def kX5_prepare_1b : Sx := (seqS (stS 5 0 (aldE 100 (getE 6 3 2 (locE 2 2)) (locE 0 4))) (seqS (ifS (orC (zC 2 (locE 0 5)) (cmpC 3 (locE 0 5) (numE 16))) (brkS 5) skipS) (seqS (stS 6 0 (numE 0)) kX5_prepare_2)))
noncomputable def kX5_prepare_1u : Sx := (incS 4 1)
noncomputable def kX5_prepare_1 : Sx := loopS 4 5 kX5_prepare_1c kX5_prepare_1b kX5_prepare_1u
noncomputable def bX5_prepare : Sx := (seqS (seqS (putS 5 0 0 .int (locE 2 0) (binE (fun x y => w32 (x - y)) (binE o_ishl (numE 1) (getE 3 1 0 (locE 2 3))) (numE 1))) (seqS (exS (csE fJ7_fill_53178 [(2, (getE 5 1 2 (locE 2 0))), (0, (numE 0))])) (seqS (seqS (stS 4 0 (numE 0)) kX5_prepare_0) (seqS (stS 4 0 (numE 0)) kX5_prepare_1)))) retV)
noncomputable def fX5_prepare : Fn := runB 7 bX5_prepare
theorem sX5_prepare (Γ : Cx) : SO (cX5_prepare, yX5_prepare.cls, 2, 7, none) Γ 0 0 [] bX5_prepare :=
  (S_seq (p1 := 150) (S_seq (p1 := 12) (S_putf fp_X5_25 (E_aload_n dX5_prepare_0 rfl) (E_isub (E_ishl (E_iconst dX5_prepare_1 (by decide)) (E_getf fl_X5_19 (E_aload_n dX5_prepare_2 rfl) dX5_prepare_3) dX5_prepare_6) (E_iconst dX5_prepare_7 (by decide)) dX5_prepare_8) dX5_prepare_9)
  (S_seq (p1 := 20) (S_callS mJ7_fill_53178 cs_X5_28 (A_cons2 (E_getf fl_X5_9 (E_aload_n dX5_prepare_12 rfl) dX5_prepare_13) (A_cons0 (E_iconst dX5_prepare_16 (by decide)) A_nil)) dX5_prepare_17 (by decide) rfl)
  (S_seq (p1 := 58) (S_seq (p1 := 23) (S_istore (E_iconst dX5_prepare_20 (by decide)) dX5_prepare_21) (S_loop (p1 := 44) (p2 := 58) (p3 := 52) (kb := 2) (kc := 3) (by decide) (by decide) (by decide) (C_and (p1 := 33) (C_icmp_ge_n (E_iload dX5_prepare_23) (E_alen (E_getf fl_X5_15 (E_aload_n dX5_prepare_25 rfl) dX5_prepare_26) dX5_prepare_29) dX5_prepare_30 rfl) (C_icmp_gt_n (E_iload dX5_prepare_33) (E_ishr (E_getf fl_X5_25 (E_aload_n dX5_prepare_35 rfl) dX5_prepare_36) (E_iconst dX5_prepare_39 (by decide)) dX5_prepare_40) dX5_prepare_41 rfl))
  (S_last (E_getf fl_X5_15 (E_aload_n dX5_prepare_44 rfl) dX5_prepare_45) (E_iload dX5_prepare_48) (E_lconst dX5_prepare_50 rfl) dX5_prepare_51)
  (S_thru (S_iinc dX5_prepare_52) dX5_prepare_55 rfl)))
  (S_seq (p1 := 61) (S_istore (E_iconst dX5_prepare_58 (by decide)) dX5_prepare_59) (S_loop (p1 := 70) (p2 := 150) (p3 := 144) (kb := 4) (kc := 5) (by decide) (by decide) (by decide) (C_icmp_ge_n (E_iload dX5_prepare_61) (E_getf fl_X5_34 (E_aload_n dX5_prepare_63 rfl) dX5_prepare_64) dX5_prepare_67 rfl)
  (S_seq (p1 := 79) (S_istore (E_iald (E_getf fl_X5_39 (E_aload_n dX5_prepare_70 rfl) dX5_prepare_71) (E_iload dX5_prepare_74) dX5_prepare_76) dX5_prepare_77)
  (S_seq (p1 := 94) (S_if (p1 := 144) (p2 := 94) (q := 94) (C_or (p1 := 84) (C_if_lt (E_iload dX5_prepare_79) dX5_prepare_81 rfl) (C_thruT (C_icmp_lt_n (E_iload dX5_prepare_84) (E_bipush dX5_prepare_86 (by decide)) dX5_prepare_88 rfl) dX5_prepare_91 rfl)) (S_brk0 (by decide) rfl) S_skip)
  (S_seq (p1 := 97) (S_istore (E_iconst dX5_prepare_94 (by decide)) dX5_prepare_95) (S_loop (p1 := 113) (p2 := 144) (p3 := 138) (kb := 6) (kc := 7) (by decide) (by decide) (by decide) (C_and (p1 := 106) (C_icmp_ge_n (E_iload dX5_prepare_97) (E_getf fl_X5_19 (E_aload_n dX5_prepare_99 rfl) dX5_prepare_100) dX5_prepare_103 rfl) (C_icmp_ge_n (E_iload dX5_prepare_106) (E_bipush dX5_prepare_108 (by decide)) dX5_prepare_110 rfl))
  (S_aop_ior (E_getf fl_X5_9 (E_aload_n dX5_prepare_113 rfl) dX5_prepare_114) (E_iload dX5_prepare_117) dX5_prepare_119 dX5_prepare_120 (E_ishl (E_iand (E_ishr (E_iald (E_getf fl_X5_44 (E_aload_n dX5_prepare_121 rfl) dX5_prepare_122) (E_iload dX5_prepare_125) dX5_prepare_127) (E_iload dX5_prepare_128) dX5_prepare_130) (E_iconst dX5_prepare_131 (by decide)) dX5_prepare_132) (E_iload dX5_prepare_133) dX5_prepare_135) dX5_prepare_136 dX5_prepare_137)
  (S_thru (S_iinc dX5_prepare_138) dX5_prepare_141 rfl)))))
  (S_thru (S_iinc dX5_prepare_144) dX5_prepare_147 rfl)))))) (S_retv rfl dX5_prepare_150))
theorem mX5_prepare : MO yX5_prepare cX5_prepare 7 none 2 fX5_prepare := MO_of (by decide) (fun Γ => sX5_prepare Γ)
noncomputable def bX11_looks : Sx := (seqS (ifS (andC (zC 1 (locE 0 1)) (cmpC 1 (locE 0 1) (numE 1))) (retS (numE (-1))) skipS) (seqS (exS (cvE 3 fX3_ponder [(2, (getE 11 9 2 (locE 2 0))), (2, (getE 11 1 2 (locE 2 0))), (2, (getE 11 4 2 (locE 2 0))), (2, (getE 11 6 2 (locE 2 0))), (0, (numE (-1)))])) (seqS (ifS (orC (cmpC 2 (getE 3 1 0 (getE 11 9 2 (locE 2 0))) (numE 1)) (cmpC 4 (getE 3 1 0 (getE 11 9 2 (locE 2 0))) (numE 16))) (retS (numE (-1))) skipS) (seqS (exS (cvE 5 fX5_prepare [(2, (getE 11 10 2 (locE 2 0))), (2, (getE 11 1 2 (locE 2 0))), (2, (getE 11 4 2 (locE 2 0))), (2, (getE 11 9 2 (locE 2 0)))])) (retS (condE (zC 0 (locE 0 1)) (cvE 5 fX5_howMany [(2, (getE 11 10 2 (locE 2 0)))]) (cvE 5 fX5_firstPlace [(2, (getE 11 10 2 (locE 2 0)))])))))))
noncomputable def fX11_looks : Fn := runB 2 bX11_looks
theorem sX11_looks (Γ : Cx) : SO (cX11_looks, yX11_looks.cls, 44, 2, (some .int)) Γ 0 0 [] bX11_looks :=
  (S_seq (p1 := 11) (S_if (p1 := 9) (p2 := 11) (q := 11) (C_and (p1 := 4) (C_if_eq_n (E_iload_n dX11_looks_0 rfl) dX11_looks_1 rfl) (C_icmp_eq_n (E_iload_n dX11_looks_4 rfl) (E_iconst dX11_looks_5 (by decide)) dX11_looks_6 rfl)) (S_reti rfl (E_iconst dX11_looks_9 (by decide)) dX11_looks_10) S_skip)
  (S_seq (p1 := 31) (S_callV mX3_ponder cv_X11_178 (A_cons2 (E_getf fl_X11_69 (E_aload_n dX11_looks_11 rfl) dX11_looks_12) (A_cons2 (E_getf fl_X11_19 (E_aload_n dX11_looks_15 rfl) dX11_looks_16) (A_cons2 (E_getf fl_X11_38 (E_aload_n dX11_looks_19 rfl) dX11_looks_20) (A_cons2 (E_getf fl_X11_48 (E_aload_n dX11_looks_23 rfl) dX11_looks_24) (A_cons0 (E_iconst dX11_looks_27 (by decide)) A_nil))))) dX11_looks_28 (by decide) rfl)
  (S_seq (p1 := 56) (S_if (p1 := 54) (p2 := 56) (q := 56) (C_or (p1 := 42) (C_icmp_lt (E_getf fl_X11_182 (E_getf fl_X11_69 (E_aload_n dX11_looks_31 rfl) dX11_looks_32) dX11_looks_35) (E_iconst dX11_looks_38 (by decide)) dX11_looks_39 rfl) (C_icmp_le_n (E_getf fl_X11_182 (E_getf fl_X11_69 (E_aload_n dX11_looks_42 rfl) dX11_looks_43) dX11_looks_46) (E_bipush dX11_looks_49 (by decide)) dX11_looks_51 rfl)) (S_reti rfl (E_iconst dX11_looks_54 (by decide)) dX11_looks_55) S_skip)
  (S_seq (p1 := 75) (S_callV mX5_prepare cv_X11_194 (A_cons2 (E_getf fl_X11_76 (E_aload_n dX11_looks_56 rfl) dX11_looks_57) (A_cons2 (E_getf fl_X11_19 (E_aload_n dX11_looks_60 rfl) dX11_looks_61) (A_cons2 (E_getf fl_X11_38 (E_aload_n dX11_looks_64 rfl) dX11_looks_65) (A_cons2 (E_getf fl_X11_69 (E_aload_n dX11_looks_68 rfl) dX11_looks_69) A_nil)))) dX11_looks_72 (by decide) rfl)
  (S_reti rfl (E_cond (p1 := 79) (p2 := 89) (p3 := 96) (C_if_ne_n (E_iload_n dX11_looks_75 rfl) dX11_looks_76 rfl) (E_thru (E_callV mX5_howMany cv_X11_198 (A_cons2 (E_getf fl_X11_76 (E_aload_n dX11_looks_79 rfl) dX11_looks_80) A_nil) dX11_looks_83 (by decide) ⟨by decide, by decide⟩ rfl (by decide)) dX11_looks_86 rfl) (E_callV mX5_firstPlace cv_X11_202 (A_cons2 (E_getf fl_X11_76 (E_aload_n dX11_looks_89 rfl) dX11_looks_90) A_nil) dX11_looks_93 (by decide) ⟨by decide, by decide⟩ rfl (by decide))) dX11_looks_96)))))
theorem mX11_looks : MO yX11_looks cX11_looks 2 (some .int) 44 fX11_looks := MO_of (by decide) (fun Γ => sX11_looks Γ)
noncomputable def kX11_lowest_0c : Cn := (andC (cmpC 2 (locE 0 10) (numE 100)) (cmpC 1 (locE 1 8) (numE 0)))
noncomputable def kX11_lowest_0b : Sx := (seqS (stS 11 1 (divE (fun x y => w64 (Int.tmod x y)) (locE 1 6) (locE 1 8))) (seqS (stS 6 1 (locE 1 8)) (stS 8 1 (locE 1 11))))
noncomputable def kX11_lowest_0u : Sx := (incS 10 1)
noncomputable def kX11_lowest_0 : Sx := loopS 2 3 kX11_lowest_0c kX11_lowest_0b kX11_lowest_0u
noncomputable def bX11_lowest : Sx := (seqS (stS 6 1 (locE 1 2)) (seqS (stS 8 1 (locE 1 4)) (seqS (seqS (stS 10 0 (numE 0)) kX11_lowest_0) (retS (condE (cmpC 0 (locE 1 6) (numE 0)) (locE 1 0) (divE (fun x y => w64 (Int.tdiv x y)) (locE 1 0) (locE 1 6)))))))
noncomputable def fX11_lowest : Fn := runB 13 bX11_lowest
theorem sX11_lowest (Γ : Cx) : SO (cX11_lowest, yX11_lowest.cls, 1, 13, (some .long)) Γ 0 0 [] bX11_lowest :=
  (S_seq (p1 := 3) (S_lstore (E_lload_n dX11_lowest_0 rfl) dX11_lowest_1)
  (S_seq (p1 := 7) (S_lstore (E_lload dX11_lowest_3) dX11_lowest_5)
  (S_seq (p1 := 45) (S_seq (p1 := 10) (S_istore (E_iconst dX11_lowest_7 (by decide)) dX11_lowest_8) (S_loop (p1 := 24) (p2 := 45) (p3 := 39) (kb := 2) (kc := 3) (by decide) (by decide) (by decide) (C_and (p1 := 17) (C_icmp_ge_n (E_iload dX11_lowest_10) (E_bipush dX11_lowest_12 (by decide)) dX11_lowest_14 rfl) (C_lcmp_eq_n (E_lload dX11_lowest_17) (E_lconst dX11_lowest_19 rfl) dX11_lowest_20 dX11_lowest_21 rfl))
  (S_seq (p1 := 31) (S_lstore (E_lrem (E_lload dX11_lowest_24) (E_lload dX11_lowest_26) dX11_lowest_28) dX11_lowest_29)
  (S_seq (p1 := 35) (S_lstore (E_lload dX11_lowest_31) dX11_lowest_33)
  (S_lstore (E_lload dX11_lowest_35) dX11_lowest_37)))
  (S_thru (S_iinc dX11_lowest_39) dX11_lowest_42 rfl)))
  (S_retl rfl (E_cond (p1 := 52) (p2 := 56) (p3 := 60) (C_lcmp_ne_n (E_lload dX11_lowest_45) (E_lconst dX11_lowest_47 rfl) dX11_lowest_48 dX11_lowest_49 rfl) (E_thru (E_lload_n dX11_lowest_52 rfl) dX11_lowest_53 rfl) (E_ldiv (E_lload_n dX11_lowest_56 rfl) (E_lload dX11_lowest_57) dX11_lowest_59)) dX11_lowest_60))))
theorem mX11_lowest : MO yX11_lowest cX11_lowest 13 (some .long) 1 fX11_lowest := MO_of (by decide) (fun Γ => sX11_lowest Γ)
noncomputable def bX2_copy : Sx := (seqS (seqS (putS 2 0 0 .int (locE 2 0) (getE 2 0 0 (locE 2 1))) (seqS (copyS (getE 2 1 2 (locE 2 1)) (numE 0) (getE 2 1 2 (locE 2 0)) (numE 0) (numE 24)) (seqS (copyS (getE 2 2 2 (locE 2 1)) (numE 0) (getE 2 2 2 (locE 2 0)) (numE 0) (numE 24)) (copyS (getE 2 3 2 (locE 2 1)) (numE 0) (getE 2 3 2 (locE 2 0)) (numE 0) (numE 24))))) retV)
noncomputable def fX2_copy : Fn := runB 2 bX2_copy
theorem sX2_copy (Γ : Cx) : SO (cX2_copy, yX2_copy.cls, 1, 2, none) Γ 0 0 [] bX2_copy :=
  (S_seq (p1 := 53) (S_seq (p1 := 8) (S_putf fp_X2_21 (E_aload_n dX2_copy_0 rfl) (E_getf fl_X2_21 (E_aload_n dX2_copy_1 rfl) dX2_copy_2) dX2_copy_5)
  (S_seq (p1 := 23) (S_copy ac_X2_25 (E_getf fl_X2_9 (E_aload_n dX2_copy_8 rfl) dX2_copy_9) (E_iconst dX2_copy_12 (by decide)) (E_getf fl_X2_9 (E_aload_n dX2_copy_13 rfl) dX2_copy_14) (E_iconst dX2_copy_17 (by decide)) (E_bipush dX2_copy_18 (by decide)) dX2_copy_20 (by decide))
  (S_seq (p1 := 38) (S_copy ac_X2_25 (E_getf fl_X2_15 (E_aload_n dX2_copy_23 rfl) dX2_copy_24) (E_iconst dX2_copy_27 (by decide)) (E_getf fl_X2_15 (E_aload_n dX2_copy_28 rfl) dX2_copy_29) (E_iconst dX2_copy_32 (by decide)) (E_bipush dX2_copy_33 (by decide)) dX2_copy_35 (by decide))
  (S_copy ac_X2_25 (E_getf fl_X2_18 (E_aload_n dX2_copy_38 rfl) dX2_copy_39) (E_iconst dX2_copy_42 (by decide)) (E_getf fl_X2_18 (E_aload_n dX2_copy_43 rfl) dX2_copy_44) (E_iconst dX2_copy_47 (by decide)) (E_bipush dX2_copy_48 (by decide)) dX2_copy_50 (by decide))))) (S_retv rfl dX2_copy_53))
theorem mX2_copy : MO yX2_copy cX2_copy 2 none 1 fX2_copy := MO_of (by decide) (fun Γ => sX2_copy Γ)
noncomputable def bX11_mark : Sx := (seqS (ifS (orC (zC 2 (locE 0 1)) (cmpC 3 (locE 0 1) (numE 4))) (retZ (numE 0)) skipS) (seqS (stS 3 2 (aldE 116 (getE 11 12 2 (locE 2 0)) (locE 0 1))) (seqS (stS 4 2 (aldE 112 (getE 11 13 2 (locE 2 0)) (locE 0 1))) (seqS (ifS (orC (constC false (locE 2 3)) (constC false (locE 2 4))) (retZ (numE 0)) skipS) (seqS (ifS (notC (zC 1 (locE 0 2))) (seqS (exS (cvE 6 fX6_copy [(2, (locE 2 3)), (2, (getE 11 4 2 (locE 2 0)))])) (seqS (exS (cvE 2 fX2_copy [(2, (locE 2 4)), (2, (getE 11 6 2 (locE 2 0)))])) (seqS (putS 11 14 0 .int (locE 2 0) (binE o_ior (getE 11 14 0 (locE 2 0)) (binE o_ishl (numE 1) (locE 0 1)))) (retZ (numE 1))))) skipS) (seqS (ifS (zC 0 (binE o_iand (getE 11 14 0 (locE 2 0)) (binE o_ishl (numE 1) (locE 0 1)))) (retZ (numE 0)) skipS) (seqS (exS (cvE 6 fX6_copy [(2, (getE 11 4 2 (locE 2 0))), (2, (locE 2 3))])) (seqS (exS (cvE 2 fX2_copy [(2, (getE 11 6 2 (locE 2 0))), (2, (locE 2 4))])) (seqS (putS 7 1 0 .int (getE 11 7 2 (locE 2 0)) (numE 0)) (retZ (numE 1)))))))))))
noncomputable def fX11_mark : Fn := runB 5 bX11_mark
theorem sX11_mark (Γ : Cx) : SO (cX11_mark, yX11_mark.cls, 2, 5, (some .boolean)) Γ 0 0 [] bX11_mark :=
  (S_seq (p1 := 11) (S_if (p1 := 9) (p2 := 11) (q := 11) (C_or (p1 := 4) (C_if_lt (E_iload_n dX11_mark_0 rfl) dX11_mark_1 rfl) (C_icmp_lt_n (E_iload_n dX11_mark_4 rfl) (E_iconst dX11_mark_5 (by decide)) dX11_mark_6 rfl)) (S_retz rfl (E_iconst dX11_mark_9 (by decide)) dX11_mark_10) S_skip)
  (S_seq (p1 := 18) (S_astore_n (E_aald (ci := 6) (E_getf fl_X11_87 (E_aload_n dX11_mark_11 rfl) dX11_mark_12) (E_iload_n dX11_mark_15 rfl) dX11_mark_16) dX11_mark_17 rfl)
  (S_seq (p1 := 26) (S_astore (E_aald (ci := 2) (E_getf fl_X11_91 (E_aload_n dX11_mark_18 rfl) dX11_mark_19) (E_iload_n dX11_mark_22 rfl) dX11_mark_23) dX11_mark_24)
  (S_seq (p1 := 37) (S_if (p1 := 35) (p2 := 37) (q := 37) (C_or (p1 := 30) (C_ifnull (pt := 35) (E_aload_n dX11_mark_26 rfl) dX11_mark_27) (C_ifnonnull_n (pt := 35) (E_aload dX11_mark_30) dX11_mark_32 rfl)) (S_retz rfl (E_iconst dX11_mark_35 (by decide)) dX11_mark_36) S_skip)
  (S_seq (p1 := 72) (S_if (p1 := 41) (p2 := 72) (q := 72) (C_not (C_if_ne (E_iload_n dX11_mark_37 rfl) dX11_mark_38 rfl)) (S_seq (p1 := 49) (S_callV mX6_copy cv_X11_165 (A_cons2 (E_aload_n dX11_mark_41 rfl) (A_cons2 (E_getf fl_X11_38 (E_aload_n dX11_mark_42 rfl) dX11_mark_43) A_nil)) dX11_mark_46 (by decide) rfl)
  (S_seq (p1 := 58) (S_callV mX2_copy cv_X11_247 (A_cons2 (E_aload dX11_mark_49) (A_cons2 (E_getf fl_X11_48 (E_aload_n dX11_mark_51 rfl) dX11_mark_52) A_nil)) dX11_mark_55 (by decide) rfl)
  (S_seq (p1 := 70) (S_putf fp_X11_114 (E_aload_n dX11_mark_58 rfl) (E_ior (E_getf fl_X11_114 (E_aload_n dX11_mark_59 rfl) dX11_mark_60) (E_ishl (E_iconst dX11_mark_63 (by decide)) (E_iload_n dX11_mark_64 rfl) dX11_mark_65) dX11_mark_66) dX11_mark_67)
  (S_retz rfl (E_iconst dX11_mark_70 (by decide)) dX11_mark_71)))) S_skip)
  (S_seq (p1 := 85) (S_if (p1 := 83) (p2 := 85) (q := 85) (C_if_ne_n (E_iand (E_getf fl_X11_114 (E_aload_n dX11_mark_72 rfl) dX11_mark_73) (E_ishl (E_iconst dX11_mark_76 (by decide)) (E_iload_n dX11_mark_77 rfl) dX11_mark_78) dX11_mark_79) dX11_mark_80 rfl) (S_retz rfl (E_iconst dX11_mark_83 (by decide)) dX11_mark_84) S_skip)
  (S_seq (p1 := 93) (S_callV mX6_copy cv_X11_165 (A_cons2 (E_getf fl_X11_38 (E_aload_n dX11_mark_85 rfl) dX11_mark_86) (A_cons2 (E_aload_n dX11_mark_89 rfl) A_nil)) dX11_mark_90 (by decide) rfl)
  (S_seq (p1 := 102) (S_callV mX2_copy cv_X11_247 (A_cons2 (E_getf fl_X11_48 (E_aload_n dX11_mark_93 rfl) dX11_mark_94) (A_cons2 (E_aload dX11_mark_97) A_nil)) dX11_mark_99 (by decide) rfl)
  (S_seq (p1 := 110) (S_putf fp_X11_113 (E_getf fl_X11_55 (E_aload_n dX11_mark_102 rfl) dX11_mark_103) (E_iconst dX11_mark_106 (by decide)) dX11_mark_107)
  (S_retz rfl (E_iconst dX11_mark_110 (by decide)) dX11_mark_111))))))))))
theorem mX11_mark : MO yX11_mark cX11_mark 5 (some .boolean) 2 fX11_mark := MO_of (by decide) (fun Γ => sX11_mark Γ)
noncomputable def kX9_friendsAway_0c : Cn := (cmpC 2 (locE 0 4) (getE 1 1 0 (locE 2 0)))
noncomputable def kX9_friendsAway_0b : Sx := (ifS (andC (andC (cmpC 1 (locE 0 4) (locE 0 2)) (zC 1 (cvE 6 fX6_isAway [(2, (locE 2 1)), (0, (locE 0 4))]))) (zC 4 (cvE 6 fX6_likes [(2, (locE 2 1)), (2, (locE 2 0)), (0, (locE 0 2)), (0, (locE 0 4))]))) (incS 3 1) skipS)
noncomputable def kX9_friendsAway_0u : Sx := (incS 4 1)
noncomputable def kX9_friendsAway_0 : Sx := loopS 2 3 kX9_friendsAway_0c kX9_friendsAway_0b kX9_friendsAway_0u
noncomputable def bX9_friendsAway : Sx := (seqS (stS 3 0 (numE 0)) (seqS (seqS (stS 4 0 (numE 0)) kX9_friendsAway_0) (retS (locE 0 3))))
noncomputable def fX9_friendsAway : Fn := runB 5 bX9_friendsAway
theorem sX9_friendsAway (Γ : Cx) : SO (cX9_friendsAway, yX9_friendsAway.cls, 3, 5, (some .int)) Γ 0 0 [] bX9_friendsAway :=
  (S_seq (p1 := 2) (S_istore_n (E_iconst dX9_friendsAway_0 (by decide)) dX9_friendsAway_1 rfl)
  (S_seq (p1 := 49) (S_seq (p1 := 5) (S_istore (E_iconst dX9_friendsAway_2 (by decide)) dX9_friendsAway_3) (S_loop (p1 := 14) (p2 := 49) (p3 := 43) (kb := 2) (kc := 3) (by decide) (by decide) (by decide) (C_icmp_ge_n (E_iload dX9_friendsAway_5) (E_getf fl_X9_64 (E_aload_n dX9_friendsAway_7 rfl) dX9_friendsAway_8) dX9_friendsAway_11 rfl)
  (S_if (p1 := 40) (p2 := 43) (q := 43) (C_and (p1 := 29) (C_and (p1 := 20) (C_icmp_eq_n (E_iload dX9_friendsAway_14) (E_iload_n dX9_friendsAway_16 rfl) dX9_friendsAway_17 rfl) (C_if_eq_n (E_callV mX6_isAway cv_X9_67 (A_cons2 (E_aload_n dX9_friendsAway_20 rfl) (A_cons0 (E_iload dX9_friendsAway_21) A_nil)) dX9_friendsAway_23 (by decide) ⟨by decide, by decide⟩ rfl (by decide)) dX9_friendsAway_26 rfl)) (C_if_le_n (E_callV mX6_likes cv_X9_73 (A_cons2 (E_aload_n dX9_friendsAway_29 rfl) (A_cons2 (E_aload_n dX9_friendsAway_30 rfl) (A_cons0 (E_iload_n dX9_friendsAway_31 rfl) (A_cons0 (E_iload dX9_friendsAway_32) A_nil)))) dX9_friendsAway_34 (by decide) ⟨by decide, by decide⟩ rfl (by decide)) dX9_friendsAway_37 rfl)) (S_iinc dX9_friendsAway_40) S_skip)
  (S_thru (S_iinc dX9_friendsAway_43) dX9_friendsAway_46 rfl)))
  (S_reti rfl (E_iload_n dX9_friendsAway_49 rfl) dX9_friendsAway_50)))
theorem mX9_friendsAway : MO yX9_friendsAway cX9_friendsAway 5 (some .int) 3 fX9_friendsAway := MO_of (by decide) (fun Γ => sX9_friendsAway Γ)
noncomputable def kX9_weigh_0c : Cn := (cmpC 2 (locE 0 4) (getE 1 3 0 (locE 2 1)))
noncomputable def kX9_weigh_0b : Sx := (seqS (astS 100 (getE 9 2 2 (locE 2 0)) (numE 6) (aldE 100 (getE 1 7 2 (locE 2 1)) (locE 0 4))) (seqS (astS 100 (getE 9 2 2 (locE 2 0)) (numE 7) (aldE 100 (getE 1 8 2 (locE 2 1)) (locE 0 4))) (seqS (astS 100 (getE 9 0 2 (locE 2 0)) (locE 0 4) (binE (fun x y => if x < y then y else x) (numE 0) (binE (fun x y => if y < x then y else x) (numE 9999) (cvE 4 fX4_worth [(2, (getE 1 10 2 (locE 2 1))), (2, (getE 9 2 2 (locE 2 0)))])))) (fopS 9 3 (fun x y => w32 (x + y)) (locE 2 0) (aldE 100 (getE 9 0 2 (locE 2 0)) (locE 0 4))))))
noncomputable def kX9_weigh_0u : Sx := (incS 4 1)
noncomputable def kX9_weigh_0 : Sx := loopS 2 3 kX9_weigh_0c kX9_weigh_0b kX9_weigh_0u
noncomputable def bX9_weigh : Sx := (seqS (seqS (astS 100 (getE 9 2 2 (locE 2 0)) (numE 2) (aldE 100 (getE 1 5 2 (locE 2 1)) (locE 0 3))) (seqS (astS 100 (getE 9 2 2 (locE 2 0)) (numE 13) (condE (cmpC 0 (aldE 100 (getE 1 4 2 (locE 2 1)) (locE 0 3)) (numE 4)) (numE 1) (numE 0))) (seqS (astS 100 (getE 9 2 2 (locE 2 0)) (numE 12) (condE (cmpC 0 (aldE 100 (getE 1 4 2 (locE 2 1)) (locE 0 3)) (numE 3)) (numE 1) (numE 0))) (seqS (astS 100 (getE 9 2 2 (locE 2 0)) (numE 23) (csE fX9_friendsAway [(2, (locE 2 1)), (2, (locE 2 2)), (0, (locE 0 3))])) (seqS (putS 9 3 0 .int (locE 2 0) (numE 0)) (seqS (stS 4 0 (numE 0)) kX9_weigh_0)))))) retV)
noncomputable def fX9_weigh : Fn := runB 5 bX9_weigh
theorem sX9_weigh (Γ : Cx) : SO (cX9_weigh, yX9_weigh.cls, 4, 5, none) Γ 0 0 [] bX9_weigh :=
  (S_seq (p1 := 164) (S_seq (p1 := 12) (S_iast (E_getf fl_X9_18 (E_aload_n dX9_weigh_0 rfl) dX9_weigh_1) (E_iconst dX9_weigh_4 (by decide)) (E_iald (E_getf fl_X9_21 (E_aload_n dX9_weigh_5 rfl) dX9_weigh_6) (E_iload_n dX9_weigh_9 rfl) dX9_weigh_10) dX9_weigh_11)
  (S_seq (p1 := 34) (S_iast (E_getf fl_X9_18 (E_aload_n dX9_weigh_12 rfl) dX9_weigh_13) (E_bipush dX9_weigh_16 (by decide)) (E_cond (p1 := 28) (p2 := 32) (p3 := 33) (C_icmp_ne_n (E_iald (E_getf fl_X9_26 (E_aload_n dX9_weigh_18 rfl) dX9_weigh_19) (E_iload_n dX9_weigh_22 rfl) dX9_weigh_23) (E_iconst dX9_weigh_24 (by decide)) dX9_weigh_25 rfl) (E_thru (E_iconst dX9_weigh_28 (by decide)) dX9_weigh_29 rfl) (E_iconst dX9_weigh_32 (by decide))) dX9_weigh_33)
  (S_seq (p1 := 56) (S_iast (E_getf fl_X9_18 (E_aload_n dX9_weigh_34 rfl) dX9_weigh_35) (E_bipush dX9_weigh_38 (by decide)) (E_cond (p1 := 50) (p2 := 54) (p3 := 55) (C_icmp_ne_n (E_iald (E_getf fl_X9_26 (E_aload_n dX9_weigh_40 rfl) dX9_weigh_41) (E_iload_n dX9_weigh_44 rfl) dX9_weigh_45) (E_iconst dX9_weigh_46 (by decide)) dX9_weigh_47 rfl) (E_thru (E_iconst dX9_weigh_50 (by decide)) dX9_weigh_51 rfl) (E_iconst dX9_weigh_54 (by decide))) dX9_weigh_55)
  (S_seq (p1 := 69) (S_iast (E_getf fl_X9_18 (E_aload_n dX9_weigh_56 rfl) dX9_weigh_57) (E_bipush dX9_weigh_60 (by decide)) (E_callS mX9_friendsAway cs_X9_29 (A_cons2 (E_aload_n dX9_weigh_62 rfl) (A_cons2 (E_aload_n dX9_weigh_63 rfl) (A_cons0 (E_iload_n dX9_weigh_64 rfl) A_nil))) dX9_weigh_65 (by decide) ⟨by decide, by decide⟩ rfl (by decide)) dX9_weigh_68)
  (S_seq (p1 := 74) (S_putf fp_X9_33 (E_aload_n dX9_weigh_69 rfl) (E_iconst dX9_weigh_70 (by decide)) dX9_weigh_71)
  (S_seq (p1 := 77) (S_istore (E_iconst dX9_weigh_74 (by decide)) dX9_weigh_75) (S_loop (p1 := 86) (p2 := 164) (p3 := 158) (kb := 2) (kc := 3) (by decide) (by decide) (by decide) (C_icmp_ge_n (E_iload dX9_weigh_77) (E_getf fl_X9_37 (E_aload_n dX9_weigh_79 rfl) dX9_weigh_80) dX9_weigh_83 rfl)
  (S_seq (p1 := 100) (S_iast (E_getf fl_X9_18 (E_aload_n dX9_weigh_86 rfl) dX9_weigh_87) (E_bipush dX9_weigh_90 (by decide)) (E_iald (E_getf fl_X9_40 (E_aload_n dX9_weigh_92 rfl) dX9_weigh_93) (E_iload dX9_weigh_96) dX9_weigh_98) dX9_weigh_99)
  (S_seq (p1 := 114) (S_iast (E_getf fl_X9_18 (E_aload_n dX9_weigh_100 rfl) dX9_weigh_101) (E_bipush dX9_weigh_104 (by decide)) (E_iald (E_getf fl_X9_43 (E_aload_n dX9_weigh_106 rfl) dX9_weigh_107) (E_iload dX9_weigh_110) dX9_weigh_112) dX9_weigh_113)
  (S_seq (p1 := 142) (S_iast (E_getf fl_X9_9 (E_aload_n dX9_weigh_114 rfl) dX9_weigh_115) (E_iload dX9_weigh_118) (E_mmax mm_X9_61 (E_iconst dX9_weigh_120 (by decide)) (E_mmin mm_X9_55 (E_sipush dX9_weigh_121 (by decide)) (E_callV mX4_worth cv_X9_50 (A_cons2 (E_getf fl_X9_46 (E_aload_n dX9_weigh_124 rfl) dX9_weigh_125) (A_cons2 (E_getf fl_X9_18 (E_aload_n dX9_weigh_128 rfl) dX9_weigh_129) A_nil)) dX9_weigh_132 (by decide) ⟨by decide, by decide⟩ rfl (by decide)) dX9_weigh_135 (by decide) (by decide)) dX9_weigh_138 (by decide) (by decide)) dX9_weigh_141)
  (S_fop_iadd fl_X9_33 fp_X9_33 (E_aload_n dX9_weigh_142 rfl) dX9_weigh_143 dX9_weigh_144 (E_iald (E_getf fl_X9_9 (E_aload_n dX9_weigh_147 rfl) dX9_weigh_148) (E_iload dX9_weigh_151) dX9_weigh_153) dX9_weigh_154 dX9_weigh_155))))
  (S_thru (S_iinc dX9_weigh_158) dX9_weigh_161 rfl)))))))) (S_retv rfl dX9_weigh_164))
theorem mX9_weigh : MO yX9_weigh cX9_weigh 5 none 4 fX9_weigh := MO_of (by decide) (fun Γ => sX9_weigh Γ)
noncomputable def bX11_weighed : Sx := (seqS (ifS (orC (notC (zC 1 (cvE 11 fX11_isBeast [(2, (locE 2 0)), (0, (locE 0 1))]))) (notC (zC 1 (cvE 6 fX6_isAway [(2, (getE 11 4 2 (locE 2 0))), (0, (locE 0 1))])))) (retZ (numE 0)) skipS) (seqS (exS (cvE 9 fX9_weigh [(2, (getE 11 11 2 (locE 2 0))), (2, (getE 11 1 2 (locE 2 0))), (2, (getE 11 4 2 (locE 2 0))), (0, (locE 0 1))])) (retZ (boolE (zC 4 (getE 9 3 0 (getE 11 11 2 (locE 2 0))))))))
noncomputable def fX11_weighed : Fn := runB 2 bX11_weighed
theorem sX11_weighed (Γ : Cx) : SO (cX11_weighed, yX11_weighed.cls, 5, 2, (some .boolean)) Γ 0 0 [] bX11_weighed :=
  (S_seq (p1 := 21) (S_if (p1 := 19) (p2 := 21) (q := 21) (C_or (p1 := 8) (C_not (C_if_eq_n (E_callV mX11_isBeast cv_X11_117 (A_cons2 (E_aload_n dX11_weighed_0 rfl) (A_cons0 (E_iload_n dX11_weighed_1 rfl) A_nil)) dX11_weighed_2 (by decide) ⟨by decide, by decide⟩ rfl (by decide)) dX11_weighed_5 rfl)) (C_not (C_if_ne (E_callV mX6_isAway cv_X11_131 (A_cons2 (E_getf fl_X11_38 (E_aload_n dX11_weighed_8 rfl) dX11_weighed_9) (A_cons0 (E_iload_n dX11_weighed_12 rfl) A_nil)) dX11_weighed_13 (by decide) ⟨by decide, by decide⟩ rfl (by decide)) dX11_weighed_16 rfl))) (S_retz rfl (E_iconst dX11_weighed_19 (by decide)) dX11_weighed_20) S_skip)
  (S_seq (p1 := 37) (S_callV mX9_weigh cv_X11_256 (A_cons2 (E_getf fl_X11_83 (E_aload_n dX11_weighed_21 rfl) dX11_weighed_22) (A_cons2 (E_getf fl_X11_19 (E_aload_n dX11_weighed_25 rfl) dX11_weighed_26) (A_cons2 (E_getf fl_X11_38 (E_aload_n dX11_weighed_29 rfl) dX11_weighed_30) (A_cons0 (E_iload_n dX11_weighed_33 rfl) A_nil)))) dX11_weighed_34 (by decide) rfl)
  (S_retz rfl (E_bool (p1 := 47) (p2 := 51) (C_if_le_n (E_getf fl_X11_214 (E_getf fl_X11_83 (E_aload_n dX11_weighed_37 rfl) dX11_weighed_38) dX11_weighed_41) dX11_weighed_44 rfl) dX11_weighed_47 dX11_weighed_48 dX11_weighed_51 rfl) dX11_weighed_52)))
theorem mX11_weighed : MO yX11_weighed cX11_weighed 2 (some .boolean) 5 fX11_weighed := MO_of (by decide) (fun Γ => sX11_weighed Γ)
noncomputable def bX11_odds : Sx := (seqS (ifS (orC (orC (orC (orC (zC 2 (locE 0 2)) (cmpC 3 (locE 0 2) (getE 1 3 0 (getE 11 1 2 (locE 2 0))))) (zC 2 (locE 0 3))) (cmpC 4 (locE 0 3) (numE 1))) (notC (zC 1 (cvE 11 fX11_weighed [(2, (locE 2 0)), (0, (locE 0 1))])))) (retS (numE (-1))) skipS) (seqS (stS 4 0 (aldE 100 (getE 9 0 2 (getE 11 11 2 (locE 2 0))) (locE 0 2))) (retS (unE w32 (csE fX11_lowest [(1, (condE (zC 0 (locE 0 3)) (unE (fun x => x) (locE 0 4)) (unE (fun x => x) (getE 9 3 0 (getE 11 11 2 (locE 2 0)))))), (1, (unE (fun x => x) (locE 0 4))), (1, (unE (fun x => x) (getE 9 3 0 (getE 11 11 2 (locE 2 0)))))])))))
noncomputable def fX11_odds : Fn := runB 5 bX11_odds
theorem sX11_odds (Γ : Cx) : SO (cX11_odds, yX11_odds.cls, 6, 5, (some .int)) Γ 0 0 [] bX11_odds :=
  (S_seq (p1 := 34) (S_if (p1 := 32) (p2 := 34) (q := 34) (C_or (p1 := 24) (C_or (p1 := 19) (C_or (p1 := 15) (C_or (p1 := 4) (C_if_lt (E_iload_n dX11_odds_0 rfl) dX11_odds_1 rfl) (C_icmp_ge (E_iload_n dX11_odds_4 rfl) (E_getf fl_X11_205 (E_getf fl_X11_19 (E_aload_n dX11_odds_5 rfl) dX11_odds_6) dX11_odds_9) dX11_odds_12 rfl)) (C_if_lt (E_iload_n dX11_odds_15 rfl) dX11_odds_16 rfl)) (C_icmp_gt (E_iload_n dX11_odds_19 rfl) (E_iconst dX11_odds_20 (by decide)) dX11_odds_21 rfl)) (C_not (C_if_ne (E_callV mX11_weighed cv_X11_208 (A_cons2 (E_aload_n dX11_odds_24 rfl) (A_cons0 (E_iload_n dX11_odds_25 rfl) A_nil)) dX11_odds_26 (by decide) ⟨by decide, by decide⟩ rfl (by decide)) dX11_odds_29 rfl))) (S_reti rfl (E_iconst dX11_odds_32 (by decide)) dX11_odds_33) S_skip)
  (S_seq (p1 := 45) (S_istore (E_iald (E_getf fl_X11_211 (E_getf fl_X11_83 (E_aload_n dX11_odds_34 rfl) dX11_odds_35) dX11_odds_38) (E_iload_n dX11_odds_41 rfl) dX11_odds_42) dX11_odds_43)
  (S_reti rfl (E_l2i (E_callS mX11_lowest cs_X11_217 (A_cons1 (E_cond (p1 := 49) (p2 := 55) (p3 := 63) (C_if_ne_n (E_iload_n dX11_odds_45 rfl) dX11_odds_46 rfl) (E_thru (E_i2l (E_iload dX11_odds_49) dX11_odds_51) dX11_odds_52 rfl) (E_i2l (E_getf fl_X11_214 (E_getf fl_X11_83 (E_aload_n dX11_odds_55 rfl) dX11_odds_56) dX11_odds_59) dX11_odds_62)) (A_cons1 (E_i2l (E_iload dX11_odds_63) dX11_odds_65) (A_cons1 (E_i2l (E_getf fl_X11_214 (E_getf fl_X11_83 (E_aload_n dX11_odds_66 rfl) dX11_odds_67) dX11_odds_70) dX11_odds_73) A_nil))) dX11_odds_74 (by decide) ⟨by decide, by decide⟩ rfl (by decide)) dX11_odds_77) dX11_odds_78)))
theorem mX11_odds : MO yX11_odds cX11_odds 5 (some .int) 6 fX11_odds := MO_of (by decide) (fun Γ => sX11_odds Γ)
noncomputable def kX11_unrestOf_1c : Cn := (cmpC 2 (locE 0 4) (locE 0 3))
noncomputable def kX11_unrestOf_1b : Sx := (ifS (cmpC 1 (binE o_iand (binE o_ishr (locE 0 1) (locE 0 3)) (numE 1)) (binE o_iand (binE o_ishr (locE 0 1) (locE 0 4)) (numE 1))) (stS 2 0 (binE (fun x y => w32 (x + y)) (locE 0 2) (cvE 6 fX6_likes [(2, (getE 11 4 2 (locE 2 0))), (2, (getE 11 1 2 (locE 2 0))), (0, (locE 0 3)), (0, (locE 0 4))]))) skipS)
noncomputable def kX11_unrestOf_1u : Sx := (incS 4 1)
noncomputable def kX11_unrestOf_1 : Sx := loopS 4 5 kX11_unrestOf_1c kX11_unrestOf_1b kX11_unrestOf_1u
noncomputable def kX11_unrestOf_0c : Cn := (cmpC 2 (locE 0 3) (getE 1 1 0 (getE 11 1 2 (locE 2 0))))
noncomputable def kX11_unrestOf_0b : Sx := (seqS (stS 4 0 (numE 0)) kX11_unrestOf_1)
noncomputable def kX11_unrestOf_0u : Sx := (incS 3 1)
noncomputable def kX11_unrestOf_0 : Sx := loopS 2 3 kX11_unrestOf_0c kX11_unrestOf_0b kX11_unrestOf_0u
noncomputable def bX11_unrestOf : Sx := (seqS (stS 2 0 (numE 0)) (seqS (seqS (stS 3 0 (numE 0)) kX11_unrestOf_0) (retS (locE 0 2))))
noncomputable def fX11_unrestOf : Fn := runB 5 bX11_unrestOf
theorem sX11_unrestOf (Γ : Cx) : SO (cX11_unrestOf, yX11_unrestOf.cls, 3, 5, (some .int)) Γ 0 0 [] bX11_unrestOf :=
  (S_seq (p1 := 2) (S_istore_n (E_iconst dX11_unrestOf_0 (by decide)) dX11_unrestOf_1 rfl)
  (S_seq (p1 := 67) (S_seq (p1 := 4) (S_istore_n (E_iconst dX11_unrestOf_2 (by decide)) dX11_unrestOf_3 rfl) (S_loop (p1 := 15) (p2 := 67) (p3 := 61) (kb := 2) (kc := 3) (by decide) (by decide) (by decide) (C_icmp_ge_n (E_iload_n dX11_unrestOf_4 rfl) (E_getf fl_X11_148 (E_getf fl_X11_19 (E_aload_n dX11_unrestOf_5 rfl) dX11_unrestOf_6) dX11_unrestOf_9) dX11_unrestOf_12 rfl)
  (S_seq (p1 := 18) (S_istore (E_iconst dX11_unrestOf_15 (by decide)) dX11_unrestOf_16) (S_loop (p1 := 24) (p2 := 61) (p3 := 55) (kb := 4) (kc := 5) (by decide) (by decide) (by decide) (C_icmp_ge_n (E_iload dX11_unrestOf_18) (E_iload_n dX11_unrestOf_20 rfl) dX11_unrestOf_21 rfl)
  (S_if (p1 := 38) (p2 := 55) (q := 55) (C_icmp_eq_n (E_iand (E_ishr (E_iload_n dX11_unrestOf_24 rfl) (E_iload_n dX11_unrestOf_25 rfl) dX11_unrestOf_26) (E_iconst dX11_unrestOf_27 (by decide)) dX11_unrestOf_28) (E_iand (E_ishr (E_iload_n dX11_unrestOf_29 rfl) (E_iload dX11_unrestOf_30) dX11_unrestOf_32) (E_iconst dX11_unrestOf_33 (by decide)) dX11_unrestOf_34) dX11_unrestOf_35 rfl) (S_istore_n (E_iadd (E_iload_n dX11_unrestOf_38 rfl) (E_callV mX6_likes cv_X11_141 (A_cons2 (E_getf fl_X11_38 (E_aload_n dX11_unrestOf_39 rfl) dX11_unrestOf_40) (A_cons2 (E_getf fl_X11_19 (E_aload_n dX11_unrestOf_43 rfl) dX11_unrestOf_44) (A_cons0 (E_iload_n dX11_unrestOf_47 rfl) (A_cons0 (E_iload dX11_unrestOf_48) A_nil)))) dX11_unrestOf_50 (by decide) ⟨by decide, by decide⟩ rfl (by decide)) dX11_unrestOf_53) dX11_unrestOf_54 rfl) S_skip)
  (S_thru (S_iinc dX11_unrestOf_55) dX11_unrestOf_58 rfl)))
  (S_thru (S_iinc dX11_unrestOf_61) dX11_unrestOf_64 rfl)))
  (S_reti rfl (E_iload_n dX11_unrestOf_67 rfl) dX11_unrestOf_68)))
theorem mX11_unrestOf : MO yX11_unrestOf cX11_unrestOf 5 (some .int) 3 fX11_unrestOf := MO_of (by decide) (fun Γ => sX11_unrestOf Γ)
noncomputable def kX11_parted_0c : Cn := (cmpC 5 (locE 0 8) (locE 0 5))
noncomputable def kX11_parted_0b : Sx := (ifS (andC (andC (cmpC 0 (binE o_iand (locE 0 8) (locE 0 2)) (locE 0 2)) (zC 0 (binE o_iand (locE 0 8) (locE 0 3)))) (cmpC 0 (csE fJ6_bitCount_0f7a4 [(0, (locE 0 8))]) (locE 0 1))) (seqS (stS 9 0 (cvE 11 fX11_unrestOf [(2, (locE 2 0)), (0, (locE 0 8))])) (ifS (orC (cmpC 0 (locE 0 6) (numE (-1))) (cmpC 2 (locE 0 9) (locE 0 7))) (seqS (stS 6 0 (locE 0 8)) (stS 7 0 (locE 0 9))) skipS)) skipS)
noncomputable def kX11_parted_0u : Sx := (incS 8 1)
noncomputable def kX11_parted_0 : Sx := loopS 2 3 kX11_parted_0c kX11_parted_0b kX11_parted_0u
noncomputable def bX11_parted : Sx := (seqS (stS 5 0 (binE (fun x y => w32 (x - y)) (binE o_ishl (numE 1) (getE 1 1 0 (getE 11 1 2 (locE 2 0)))) (numE 1))) (seqS (ifS (orC (orC (orC (zC 2 (locE 0 1)) (cmpC 4 (locE 0 1) (getE 1 1 0 (getE 11 1 2 (locE 2 0))))) (zC 2 (locE 0 4))) (cmpC 4 (locE 0 4) (numE 1))) (retS (numE (-1))) skipS) (seqS (ifS (orC (zC 1 (binE o_iand (binE o_ior (locE 0 2) (locE 0 3)) (binE o_ixor (locE 0 5) (numE (-1))))) (zC 1 (binE o_iand (locE 0 2) (locE 0 3)))) (retS (numE (-1))) skipS) (seqS (stS 6 0 (numE (-1))) (seqS (stS 7 0 (numE (-1))) (seqS (seqS (stS 8 0 (locE 0 2)) kX11_parted_0) (retS (condE (zC 0 (locE 0 4)) (locE 0 7) (locE 0 6)))))))))
noncomputable def fX11_parted : Fn := runB 10 bX11_parted
theorem sX11_parted (Γ : Cx) : SO (cX11_parted, yX11_parted.cls, 4, 10, (some .int)) Γ 0 0 [] bX11_parted :=
  (S_seq (p1 := 13) (S_istore (E_isub (E_ishl (E_iconst dX11_parted_0 (by decide)) (E_getf fl_X11_148 (E_getf fl_X11_19 (E_aload_n dX11_parted_1 rfl) dX11_parted_2) dX11_parted_5) dX11_parted_8) (E_iconst dX11_parted_9 (by decide)) dX11_parted_10) dX11_parted_11)
  (S_seq (p1 := 41) (S_if (p1 := 39) (p2 := 41) (q := 41) (C_or (p1 := 33) (C_or (p1 := 28) (C_or (p1 := 17) (C_if_lt (E_iload_n dX11_parted_13 rfl) dX11_parted_14 rfl) (C_icmp_gt (E_iload_n dX11_parted_17 rfl) (E_getf fl_X11_148 (E_getf fl_X11_19 (E_aload_n dX11_parted_18 rfl) dX11_parted_19) dX11_parted_22) dX11_parted_25 rfl)) (C_if_lt (E_iload dX11_parted_28) dX11_parted_30 rfl)) (C_icmp_le_n (E_iload dX11_parted_33) (E_iconst dX11_parted_35 (by decide)) dX11_parted_36 rfl)) (S_reti rfl (E_iconst dX11_parted_39 (by decide)) dX11_parted_40) S_skip)
  (S_seq (p1 := 60) (S_if (p1 := 58) (p2 := 60) (q := 60) (C_or (p1 := 52) (C_if_ne (E_iand (E_ior (E_iload_n dX11_parted_41 rfl) (E_iload_n dX11_parted_42 rfl) dX11_parted_43) (E_ixor (E_iload dX11_parted_44) (E_iconst dX11_parted_46 (by decide)) dX11_parted_47) dX11_parted_48) dX11_parted_49 rfl) (C_if_eq_n (E_iand (E_iload_n dX11_parted_52 rfl) (E_iload_n dX11_parted_53 rfl) dX11_parted_54) dX11_parted_55 rfl)) (S_reti rfl (E_iconst dX11_parted_58 (by decide)) dX11_parted_59) S_skip)
  (S_seq (p1 := 63) (S_istore (E_iconst dX11_parted_60 (by decide)) dX11_parted_61)
  (S_seq (p1 := 66) (S_istore (E_iconst dX11_parted_63 (by decide)) dX11_parted_64)
  (S_seq (p1 := 135) (S_seq (p1 := 69) (S_istore (E_iload_n dX11_parted_66 rfl) dX11_parted_67) (S_loop (p1 := 76) (p2 := 135) (p3 := 129) (kb := 2) (kc := 3) (by decide) (by decide) (by decide) (C_icmp_gt_n (E_iload dX11_parted_69) (E_iload dX11_parted_71) dX11_parted_73 rfl)
  (S_if (p1 := 100) (p2 := 129) (q := 129) (C_and (p1 := 91) (C_and (p1 := 84) (C_icmp_ne_n (E_iand (E_iload dX11_parted_76) (E_iload_n dX11_parted_78 rfl) dX11_parted_79) (E_iload_n dX11_parted_80 rfl) dX11_parted_81 rfl) (C_if_ne_n (E_iand (E_iload dX11_parted_84) (E_iload_n dX11_parted_86 rfl) dX11_parted_87) dX11_parted_88 rfl)) (C_icmp_ne_n (E_callS mJ6_bitCount_0f7a4 cs_X11_234 (A_cons0 (E_iload dX11_parted_91) A_nil) dX11_parted_93 (by decide) ⟨by decide, by decide⟩ rfl (by decide)) (E_iload_n dX11_parted_96 rfl) dX11_parted_97 rfl)) (S_seq (p1 := 108) (S_istore (E_callV mX11_unrestOf cv_X11_240 (A_cons2 (E_aload_n dX11_parted_100 rfl) (A_cons0 (E_iload dX11_parted_101) A_nil)) dX11_parted_103 (by decide) ⟨by decide, by decide⟩ rfl (by decide)) dX11_parted_106)
  (S_if (p1 := 121) (p2 := 129) (q := 129) (C_or (p1 := 114) (C_icmp_eq (E_iload dX11_parted_108) (E_iconst dX11_parted_110 (by decide)) dX11_parted_111 rfl) (C_icmp_ge_n (E_iload dX11_parted_114) (E_iload dX11_parted_116) dX11_parted_118 rfl)) (S_seq (p1 := 125) (S_istore (E_iload dX11_parted_121) dX11_parted_123)
  (S_istore (E_iload dX11_parted_125) dX11_parted_127)) S_skip)) S_skip)
  (S_thru (S_iinc dX11_parted_129) dX11_parted_132 rfl)))
  (S_reti rfl (E_cond (p1 := 140) (p2 := 145) (p3 := 147) (C_if_ne_n (E_iload dX11_parted_135) dX11_parted_137 rfl) (E_thru (E_iload dX11_parted_140) dX11_parted_142 rfl) (E_iload dX11_parted_145)) dX11_parted_147)))))))
theorem mX11_parted : MO yX11_parted cX11_parted 10 (some .int) 4 fX11_parted := MO_of (by decide) (fun Γ => sX11_parted Γ)
noncomputable def kX11_place_0c : Cn := (cmpC 2 (locE 0 2) (getE 1 1 0 (getE 11 1 2 (locE 2 0))))
noncomputable def kX11_place_0b : Sx := (ifS (cmpC 0 (aldE 100 (getE 6 2 2 (getE 11 4 2 (locE 2 0))) (locE 0 2)) (locE 0 1)) (retS (locE 0 2)) skipS)
noncomputable def kX11_place_0u : Sx := (incS 2 1)
noncomputable def kX11_place_0 : Sx := loopS 2 3 kX11_place_0c kX11_place_0b kX11_place_0u
noncomputable def bX11_place : Sx := (seqS (ifS (notC (zC 1 (cvE 11 fX11_isPlace [(2, (locE 2 0)), (0, (locE 0 1))]))) (retS (numE (-1))) skipS) (seqS (seqS (stS 2 0 (numE 0)) kX11_place_0) (retS (numE (-1)))))
noncomputable def fX11_place : Fn := runB 3 bX11_place
theorem sX11_place (Γ : Cx) : SO (cX11_place, yX11_place.cls, 2, 3, (some .int)) Γ 0 0 [] bX11_place :=
  (S_seq (p1 := 10) (S_if (p1 := 8) (p2 := 10) (q := 10) (C_not (C_if_ne (E_callV mX11_isPlace cv_X11_145 (A_cons2 (E_aload_n dX11_place_0 rfl) (A_cons0 (E_iload_n dX11_place_1 rfl) A_nil)) dX11_place_2 (by decide) ⟨by decide, by decide⟩ rfl (by decide)) dX11_place_5 rfl)) (S_reti rfl (E_iconst dX11_place_8 (by decide)) dX11_place_9) S_skip)
  (S_seq (p1 := 44) (S_seq (p1 := 12) (S_istore_n (E_iconst dX11_place_10 (by decide)) dX11_place_11 rfl) (S_loop (p1 := 23) (p2 := 44) (p3 := 38) (kb := 2) (kc := 3) (by decide) (by decide) (by decide) (C_icmp_ge_n (E_iload_n dX11_place_12 rfl) (E_getf fl_X11_148 (E_getf fl_X11_19 (E_aload_n dX11_place_13 rfl) dX11_place_14) dX11_place_17) dX11_place_20 rfl)
  (S_if (p1 := 36) (p2 := 38) (q := 38) (C_icmp_ne_n (E_iald (E_getf fl_X11_128 (E_getf fl_X11_38 (E_aload_n dX11_place_23 rfl) dX11_place_24) dX11_place_27) (E_iload_n dX11_place_30 rfl) dX11_place_31) (E_iload_n dX11_place_32 rfl) dX11_place_33 rfl) (S_reti rfl (E_iload_n dX11_place_36 rfl) dX11_place_37) S_skip)
  (S_thru (S_iinc dX11_place_38) dX11_place_41 rfl)))
  (S_reti rfl (E_iconst dX11_place_44 (by decide)) dX11_place_45)))
theorem mX11_place : MO yX11_place cX11_place 3 (some .int) 2 fX11_place := MO_of (by decide) (fun Γ => sX11_place Γ)
noncomputable def bX9_isBetter : Sx := (retZ (boolE (cmpC 2 (binE (fun x y => w32 (x * y)) (aldE 100 (getE 1 8 2 (locE 2 1)) (locE 0 2)) (aldE 100 (getE 9 0 2 (locE 2 0)) (locE 0 3))) (binE (fun x y => w32 (x * y)) (aldE 100 (getE 1 8 2 (locE 2 1)) (locE 0 3)) (aldE 100 (getE 9 0 2 (locE 2 0)) (locE 0 2))))))
noncomputable def fX9_isBetter : Fn := runB 4 bX9_isBetter
theorem sX9_isBetter (Γ : Cx) : SO (cX9_isBetter, yX9_isBetter.cls, 1, 4, (some .boolean)) Γ 0 0 [] bX9_isBetter :=
  (S_retz rfl (E_bool (p1 := 29) (p2 := 33) (C_icmp_ge_n (E_imul (E_iald (E_getf fl_X9_43 (E_aload_n dX9_isBetter_0 rfl) dX9_isBetter_1) (E_iload_n dX9_isBetter_4 rfl) dX9_isBetter_5) (E_iald (E_getf fl_X9_9 (E_aload_n dX9_isBetter_6 rfl) dX9_isBetter_7) (E_iload_n dX9_isBetter_10 rfl) dX9_isBetter_11) dX9_isBetter_12) (E_imul (E_iald (E_getf fl_X9_43 (E_aload_n dX9_isBetter_13 rfl) dX9_isBetter_14) (E_iload_n dX9_isBetter_17 rfl) dX9_isBetter_18) (E_iald (E_getf fl_X9_9 (E_aload_n dX9_isBetter_19 rfl) dX9_isBetter_20) (E_iload_n dX9_isBetter_23 rfl) dX9_isBetter_24) dX9_isBetter_25) dX9_isBetter_26 rfl) dX9_isBetter_29 dX9_isBetter_30 dX9_isBetter_33 rfl) dX9_isBetter_34)
theorem mX9_isBetter : MO yX9_isBetter cX9_isBetter 4 (some .boolean) 1 fX9_isBetter := MO_of (by decide) (fun Γ => sX9_isBetter Γ)
noncomputable def kX9_arrange_1c : Cn := (andC (zC 4 (locE 0 3)) (zC 1 (cvE 9 fX9_isBetter [(2, (locE 2 0)), (2, (locE 2 1)), (0, (locE 0 2)), (0, (aldE 100 (getE 9 1 2 (locE 2 0)) (binE (fun x y => w32 (x - y)) (locE 0 3) (numE 1))))])))
noncomputable def kX9_arrange_1b : Sx := (seqS (astS 100 (getE 9 1 2 (locE 2 0)) (locE 0 3) (aldE 100 (getE 9 1 2 (locE 2 0)) (binE (fun x y => w32 (x - y)) (locE 0 3) (numE 1)))) (incS 3 (-1)))
noncomputable def kX9_arrange_1u : Sx := skipS
noncomputable def kX9_arrange_1 : Sx := loopS 4 5 kX9_arrange_1c kX9_arrange_1b kX9_arrange_1u
noncomputable def kX9_arrange_0c : Cn := (cmpC 2 (locE 0 2) (getE 1 3 0 (locE 2 1)))
noncomputable def kX9_arrange_0b : Sx := (seqS (stS 3 0 (locE 0 2)) (seqS kX9_arrange_1 (astS 100 (getE 9 1 2 (locE 2 0)) (locE 0 3) (locE 0 2))))
noncomputable def kX9_arrange_0u : Sx := (incS 2 1)
noncomputable def kX9_arrange_0 : Sx := loopS 2 3 kX9_arrange_0c kX9_arrange_0b kX9_arrange_0u
noncomputable def bX9_arrange : Sx := (seqS (seqS (stS 2 0 (numE 0)) kX9_arrange_0) retV)
noncomputable def fX9_arrange : Fn := runB 4 bX9_arrange
theorem sX9_arrange (Γ : Cx) : SO (cX9_arrange, yX9_arrange.cls, 2, 4, none) Γ 0 0 [] bX9_arrange :=
  (S_seq (p1 := 66) (S_seq (p1 := 2) (S_istore_n (E_iconst dX9_arrange_0 (by decide)) dX9_arrange_1 rfl) (S_loop (p1 := 10) (p2 := 66) (p3 := 60) (kb := 2) (kc := 3) (by decide) (by decide) (by decide) (C_icmp_ge_n (E_iload_n dX9_arrange_2 rfl) (E_getf fl_X9_37 (E_aload_n dX9_arrange_3 rfl) dX9_arrange_4) dX9_arrange_7 rfl)
  (S_seq (p1 := 12) (S_istore_n (E_iload_n dX9_arrange_10 rfl) dX9_arrange_11 rfl)
  (S_seq (p1 := 53) (S_loop (p1 := 33) (p2 := 53) (p3 := 12) (kb := 4) (kc := 5) (by decide) (by decide) (by decide) (C_and (p1 := 16) (C_if_le_n (E_iload_n dX9_arrange_12 rfl) dX9_arrange_13 rfl) (C_if_eq_n (E_callV mX9_isBetter cv_X9_77 (A_cons2 (E_aload_n dX9_arrange_16 rfl) (A_cons2 (E_aload_n dX9_arrange_17 rfl) (A_cons0 (E_iload_n dX9_arrange_18 rfl) (A_cons0 (E_iald (E_getf fl_X9_15 (E_aload_n dX9_arrange_19 rfl) dX9_arrange_20) (E_isub (E_iload_n dX9_arrange_23 rfl) (E_iconst dX9_arrange_24 (by decide)) dX9_arrange_25) dX9_arrange_26) A_nil)))) dX9_arrange_27 (by decide) ⟨by decide, by decide⟩ rfl (by decide)) dX9_arrange_30 rfl))
  (S_thru (S_seq (p1 := 47) (S_iast (E_getf fl_X9_15 (E_aload_n dX9_arrange_33 rfl) dX9_arrange_34) (E_iload_n dX9_arrange_37 rfl) (E_iald (E_getf fl_X9_15 (E_aload_n dX9_arrange_38 rfl) dX9_arrange_39) (E_isub (E_iload_n dX9_arrange_42 rfl) (E_iconst dX9_arrange_43 (by decide)) dX9_arrange_44) dX9_arrange_45) dX9_arrange_46)
  (S_iinc dX9_arrange_47)) dX9_arrange_50 rfl)
  S_skip)
  (S_iast (E_getf fl_X9_15 (E_aload_n dX9_arrange_53 rfl) dX9_arrange_54) (E_iload_n dX9_arrange_57 rfl) (E_iload_n dX9_arrange_58 rfl) dX9_arrange_59)))
  (S_thru (S_iinc dX9_arrange_60) dX9_arrange_63 rfl))) (S_retv rfl dX9_arrange_66))
theorem mX9_arrange : MO yX9_arrange cX9_arrange 4 none 2 fX9_arrange := MO_of (by decide) (fun Γ => sX9_arrange Γ)
noncomputable def kX9_minutes_0c : Cn := (cmpC 2 (locE 0 5) (getE 1 3 0 (locE 2 1)))
noncomputable def kX9_minutes_0b : Sx := (seqS (stS 4 0 (binE (fun x y => w32 (x + y)) (locE 0 4) (aldE 100 (getE 1 8 2 (locE 2 1)) (aldE 100 (getE 9 1 2 (locE 2 0)) (locE 0 5))))) (stS 2 1 (binE (fun x y => w64 (x + y)) (locE 1 2) (binE (fun x y => w64 (x * y)) (unE (fun x => x) (locE 0 4)) (unE (fun x => x) (aldE 100 (getE 9 0 2 (locE 2 0)) (aldE 100 (getE 9 1 2 (locE 2 0)) (locE 0 5))))))))
noncomputable def kX9_minutes_0u : Sx := (incS 5 1)
noncomputable def kX9_minutes_0 : Sx := loopS 2 3 kX9_minutes_0c kX9_minutes_0b kX9_minutes_0u
noncomputable def bX9_minutes : Sx := (seqS (stS 2 1 (numE 0)) (seqS (stS 4 0 (numE 0)) (seqS (seqS (stS 5 0 (numE 0)) kX9_minutes_0) (retS (locE 1 2)))))
noncomputable def fX9_minutes : Fn := runB 6 bX9_minutes
theorem sX9_minutes (Γ : Cx) : SO (cX9_minutes, yX9_minutes.cls, 1, 6, (some .long)) Γ 0 0 [] bX9_minutes :=
  (S_seq (p1 := 2) (S_lstore_n (E_lconst dX9_minutes_0 rfl) dX9_minutes_1 rfl)
  (S_seq (p1 := 5) (S_istore (E_iconst dX9_minutes_2 (by decide)) dX9_minutes_3)
  (S_seq (p1 := 60) (S_seq (p1 := 8) (S_istore (E_iconst dX9_minutes_5 (by decide)) dX9_minutes_6) (S_loop (p1 := 17) (p2 := 60) (p3 := 54) (kb := 2) (kc := 3) (by decide) (by decide) (by decide) (C_icmp_ge_n (E_iload dX9_minutes_8) (E_getf fl_X9_37 (E_aload_n dX9_minutes_10 rfl) dX9_minutes_11) dX9_minutes_14 rfl)
  (S_seq (p1 := 34) (S_istore (E_iadd (E_iload dX9_minutes_17) (E_iald (E_getf fl_X9_43 (E_aload_n dX9_minutes_19 rfl) dX9_minutes_20) (E_iald (E_getf fl_X9_15 (E_aload_n dX9_minutes_23 rfl) dX9_minutes_24) (E_iload dX9_minutes_27) dX9_minutes_29) dX9_minutes_30) dX9_minutes_31) dX9_minutes_32)
  (S_lstore_n (E_ladd (E_lload_n dX9_minutes_34 rfl) (E_lmul (E_i2l (E_iload dX9_minutes_35) dX9_minutes_37) (E_i2l (E_iald (E_getf fl_X9_9 (E_aload_n dX9_minutes_38 rfl) dX9_minutes_39) (E_iald (E_getf fl_X9_15 (E_aload_n dX9_minutes_42 rfl) dX9_minutes_43) (E_iload dX9_minutes_46) dX9_minutes_48) dX9_minutes_49) dX9_minutes_50) dX9_minutes_51) dX9_minutes_52) dX9_minutes_53 rfl))
  (S_thru (S_iinc dX9_minutes_54) dX9_minutes_57 rfl)))
  (S_retl rfl (E_lload_n dX9_minutes_60 rfl) dX9_minutes_61))))
theorem mX9_minutes : MO yX9_minutes cX9_minutes 6 (some .long) 1 fX9_minutes := MO_of (by decide) (fun Γ => sX9_minutes Γ)
