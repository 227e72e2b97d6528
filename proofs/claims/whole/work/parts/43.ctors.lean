/-! the constructors, one by one -/
theorem lk_l {sh L : Shp} {k : Nat} {q : Nat × Nat} (h : sh[k]? = some q) : (sh ++ L)[k]? = some q := by
  rw [List.getElem?_append_left (List.getElem?_eq_some_iff.mp h).1]
  exact h
theorem lk_n {sh : Shp} {q : Nat × Nat} : (sh ++ [q])[sh.length]? = some q := by
  rw [List.getElem?_append_right (Nat.le_refl _), Nat.sub_self]
  rfl
theorem nc_int (N : Nat) : ∀ (ad : Adr) (k : Nat) (cA : ClassId), ∃ a0 : vp_A, cE (ad ++ [(k, cA)]) ad.length (100, N) (dv (100, N)) = .inl (cA, a0) ∧ ∀ cB : ClassId, vp_cell cB a0 = arrV cB N (fun _ => defaultValue (aty 100)) := by
  intro ad k cA
  refine ⟨(N, .inl (fun _ => Int32.ofInt 0)), ?_, fun _ => rfl⟩
  unfold cE
  rw [ad2_new]
  rfl
theorem nc_long (N : Nat) : ∀ (ad : Adr) (k : Nat) (cA : ClassId), ∃ a0 : vp_A, cE (ad ++ [(k, cA)]) ad.length (101, N) (dv (101, N)) = .inl (cA, a0) ∧ ∀ cB : ClassId, vp_cell cB a0 = arrV cB N (fun _ => defaultValue (aty 101)) := by
  intro ad k cA
  refine ⟨(N, .inr (.inl (fun _ => Int64.ofInt 0))), ?_, fun _ => rfl⟩
  unfold cE
  rw [ad2_new]
  rfl
theorem nc_char (N : Nat) : ∀ (ad : Adr) (k : Nat) (cA : ClassId), ∃ a0 : vp_A, cE (ad ++ [(k, cA)]) ad.length (102, N) (dv (102, N)) = .inl (cA, a0) ∧ ∀ cB : ClassId, vp_cell cB a0 = arrV cB N (fun _ => defaultValue (aty 102)) := by
  intro ad k cA
  refine ⟨(N, .inl (fun _ => Int32.ofInt 0)), ?_, fun _ => rfl⟩
  unfold cE
  rw [ad2_new]
  rfl
theorem nc_byte (N : Nat) : ∀ (ad : Adr) (k : Nat) (cA : ClassId), ∃ a0 : vp_A, cE (ad ++ [(k, cA)]) ad.length (103, N) (dv (103, N)) = .inl (cA, a0) ∧ ∀ cB : ClassId, vp_cell cB a0 = arrV cB N (fun _ => defaultValue (aty 103)) := by
  intro ad k cA
  refine ⟨(N, .inl (fun _ => Int32.ofInt 0)), ?_, fun _ => rfl⟩
  unfold cE
  rw [ad2_new]
  rfl
theorem nc_boolean (N : Nat) : ∀ (ad : Adr) (k : Nat) (cA : ClassId), ∃ a0 : vp_A, cE (ad ++ [(k, cA)]) ad.length (104, N) (dv (104, N)) = .inl (cA, a0) ∧ ∀ cB : ClassId, vp_cell cB a0 = arrV cB N (fun _ => defaultValue (aty 104)) := by
  intro ad k cA
  refine ⟨(N, .inl (fun _ => Int32.ofInt 0)), ?_, fun _ => rfl⟩
  unfold cE
  rw [ad2_new]
  rfl
/-- a new object, the last cell, with nothing in it -/
def preO (ci : Nat) : Shp → List Vl → Mem → Prop := fun sh as μ => ∃ k, as = [(2, rf k)] ∧ sh.length = k + 1 ∧ sh[k]? = some (ci, 0) ∧ ∀ j, μ k j = dv (ci, 0) j
/-- what lay there before stays -/
def keepO (sh : Shp) (μ μ' : Mem) : Prop := ∀ a, a + 1 < sh.length → μ' a = μ a
def I_10 (sh : Shp) (as : List Vl) (μ μ' : Mem) : Prop := keepO sh μ μ' ∧ ∃ k, as = [(2, rf k)] ∧ sh.length = k + 1 ∧ μ' k 0 = rf (k + 1) ∧ μ' k 1 = 0 ∧ μ' k 2 = 0 ∧ μ' k 3 = 0 ∧ μ' k 4 = 0 ∧ μ' k 5 = 0 ∧ μ' k 6 = 0
set_option maxRecDepth 10000 in
theorem nX10_init : MN yX10_init cX10_init 1 2 [(102, 1000)] (preO 10) I_10 := by
  refine MN_of (by decide) rfl ?_
  intro p l e s m args below meth c D ad sh μ as hp hs hin hxk hA G
  obtain ⟨k, rfl, hlen, hk, h0⟩ := hp
  have hq1 : ¬ k = k + 1 + 1 := by omega
  have hq2 : ¬ k = k + 1 + 2 := by omega
  have hq3 : ¬ k = k + 1 + 3 := by omega
  have hq4 : ¬ k = k + 1 := by omega
  refine ⟨Nat.le_refl 1, ?_⟩
  refine r_aload_n G dX10_init_0 rfl rfl ?_
  refine a_obj G oj_X10_3 oi_1 oi_2 dX10_init_1 (by decide) (by decide) ?_
  refine r_aload_n G dX10_init_4 rfl rfl ?_
  refine r_sipush G dX10_init_5 (by decide) ?_
  refine a_newa (st := [(2, rf k)]) G hA (kd := 102) (N := 1000) ⟨by decide, by decide⟩ rfl aw_char (nc_char 1000) (by decide) (by decide) (by decide) (by decide) dX10_init_8 (fun x1 G => ?_)
  have hk := lk_l (L := [(102, 1000)]) hk
  refine a_putF (st := []) G hin ff_X10_9 (fun x => ⟨rfl, rfl⟩) dX10_init_10 (by rw [rf_toNat]; exact hk) ?_
  refine a_ret (ad' := [x1]) (L := [(102, 1000)]) G rfl rfl dX10_init_13 ⟨?_, k, rfl, hlen, ?_, ?_, ?_, ?_, ?_, ?_, ?_⟩
  · intro a ha
    funext b
    simp only [ud, nwM, rf_toNat, List.length_append, List.length_cons, List.length_nil]
    rw [if_neg (by omega), if_neg (by omega)]
  · simp [ud, nwM, rf_toNat, hlen, rf, hq1, hq2, hq3, hq4] <;> omega
  · simp [ud, nwM, rf_toNat, hlen, rf, h0, dv, sty, ftab, hq1, hq2, hq3, hq4] <;> omega
  · simp [ud, nwM, rf_toNat, hlen, rf, h0, dv, sty, ftab, hq1, hq2, hq3, hq4] <;> omega
  · simp [ud, nwM, rf_toNat, hlen, rf, h0, dv, sty, ftab, hq1, hq2, hq3, hq4] <;> omega
  · simp [ud, nwM, rf_toNat, hlen, rf, h0, dv, sty, ftab, hq1, hq2, hq3, hq4] <;> omega
  · simp [ud, nwM, rf_toNat, hlen, rf, h0, dv, sty, ftab, hq1, hq2, hq3, hq4] <;> omega
  · simp [ud, nwM, rf_toNat, hlen, rf, h0, dv, sty, ftab, hq1, hq2, hq3, hq4] <;> omega
def I_2 (sh : Shp) (as : List Vl) (μ μ' : Mem) : Prop := keepO sh μ μ' ∧ ∃ k, as = [(2, rf k)] ∧ sh.length = k + 1 ∧ μ' k 1 = rf (k + 1) ∧ μ' k 2 = rf (k + 2) ∧ μ' k 3 = rf (k + 3) ∧ μ' k 0 = 0
set_option maxRecDepth 10000 in
theorem nX2_init : MN yX2_init cX2_init 1 2 [(100, 24), (100, 24), (100, 24)] (preO 2) I_2 := by
  refine MN_of (by decide) rfl ?_
  intro p l e s m args below meth c D ad sh μ as hp hs hin hxk hA G
  obtain ⟨k, rfl, hlen, hk, h0⟩ := hp
  have hq1 : ¬ k = k + 1 + 1 := by omega
  have hq2 : ¬ k = k + 1 + 2 := by omega
  have hq3 : ¬ k = k + 1 + 3 := by omega
  have hq4 : ¬ k = k + 1 := by omega
  refine ⟨Nat.le_refl 1, ?_⟩
  refine r_aload_n G dX2_init_0 rfl rfl ?_
  refine a_obj G oj_X2_3 oi_1 oi_2 dX2_init_1 (by decide) (by decide) ?_
  refine r_aload_n G dX2_init_4 rfl rfl ?_
  refine r_bipush G dX2_init_5 (by decide) ?_
  refine a_newa (st := [(2, rf k)]) G hA (kd := 100) (N := 24) ⟨by decide, by decide⟩ rfl aw_int (nc_int 24) (by decide) (by decide) (by decide) (by decide) dX2_init_7 (fun x1 G => ?_)
  have hk := lk_l (L := [(100, 24)]) hk
  refine a_putF (st := []) G hin ff_X2_9 (fun x => ⟨rfl, rfl⟩) dX2_init_9 (by rw [rf_toNat]; exact hk) ?_
  refine r_aload_n G dX2_init_12 rfl rfl ?_
  refine r_bipush G dX2_init_13 (by decide) ?_
  refine a_newa (st := [(2, rf k)]) G hA (kd := 100) (N := 24) ⟨by decide, by decide⟩ rfl aw_int (nc_int 24) (by decide) (by decide) (by decide) (by decide) dX2_init_15 (fun x2 G => ?_)
  have hk := lk_l (L := [(100, 24)]) hk
  refine a_putF (st := []) G hin ff_X2_15 (fun x => ⟨rfl, rfl⟩) dX2_init_17 (by rw [rf_toNat]; exact hk) ?_
  refine r_aload_n G dX2_init_20 rfl rfl ?_
  refine r_bipush G dX2_init_21 (by decide) ?_
  refine a_newa (st := [(2, rf k)]) G hA (kd := 100) (N := 24) ⟨by decide, by decide⟩ rfl aw_int (nc_int 24) (by decide) (by decide) (by decide) (by decide) dX2_init_23 (fun x3 G => ?_)
  have hk := lk_l (L := [(100, 24)]) hk
  refine a_putF (st := []) G hin ff_X2_18 (fun x => ⟨rfl, rfl⟩) dX2_init_25 (by rw [rf_toNat]; exact hk) ?_
  simp only [List.append_assoc, List.cons_append, List.nil_append] at G ⊢
  refine a_ret (ad' := [x1, x2, x3]) (L := [(100, 24), (100, 24), (100, 24)]) G rfl rfl dX2_init_28 ⟨?_, k, rfl, hlen, ?_, ?_, ?_, ?_⟩
  · intro a ha
    funext b
    simp only [ud, nwM, rf_toNat, List.length_append, List.length_cons, List.length_nil]
    rw [if_neg (by omega), if_neg (by omega), if_neg (by omega), if_neg (by omega), if_neg (by omega), if_neg (by omega)]
  · simp [ud, nwM, rf_toNat, hlen, rf, hq1, hq2, hq3, hq4] <;> omega
  · simp [ud, nwM, rf_toNat, hlen, rf, hq1, hq2, hq3, hq4] <;> omega
  · simp [ud, nwM, rf_toNat, hlen, rf, hq1, hq2, hq3, hq4] <;> omega
  · simp [ud, nwM, rf_toNat, hlen, rf, h0, dv, sty, ftab, hq1, hq2, hq3, hq4] <;> omega
def I_4 (sh : Shp) (as : List Vl) (μ μ' : Mem) : Prop := keepO sh μ μ' ∧ ∃ k, as = [(2, rf k)] ∧ sh.length = k + 1 ∧ μ' k 0 = rf (k + 1) ∧ μ' k 1 = rf (k + 2) ∧ μ' k 2 = 0 ∧ μ' k 3 = 0
set_option maxRecDepth 10000 in
theorem nX4_init : MN yX4_init cX4_init 1 2 [(100, 1000), (100, 32)] (preO 4) I_4 := by
  refine MN_of (by decide) rfl ?_
  intro p l e s m args below meth c D ad sh μ as hp hs hin hxk hA G
  obtain ⟨k, rfl, hlen, hk, h0⟩ := hp
  have hq1 : ¬ k = k + 1 + 1 := by omega
  have hq2 : ¬ k = k + 1 + 2 := by omega
  have hq3 : ¬ k = k + 1 + 3 := by omega
  have hq4 : ¬ k = k + 1 := by omega
  refine ⟨Nat.le_refl 1, ?_⟩
  refine r_aload_n G dX4_init_0 rfl rfl ?_
  refine a_obj G oj_X4_3 oi_1 oi_2 dX4_init_1 (by decide) (by decide) ?_
  refine r_aload_n G dX4_init_4 rfl rfl ?_
  refine r_sipush G dX4_init_5 (by decide) ?_
  refine a_newa (st := [(2, rf k)]) G hA (kd := 100) (N := 1000) ⟨by decide, by decide⟩ rfl aw_int (nc_int 1000) (by decide) (by decide) (by decide) (by decide) dX4_init_8 (fun x1 G => ?_)
  have hk := lk_l (L := [(100, 1000)]) hk
  refine a_putF (st := []) G hin ff_X4_9 (fun x => ⟨rfl, rfl⟩) dX4_init_10 (by rw [rf_toNat]; exact hk) ?_
  refine r_aload_n G dX4_init_13 rfl rfl ?_
  refine r_bipush G dX4_init_14 (by decide) ?_
  refine a_newa (st := [(2, rf k)]) G hA (kd := 100) (N := 32) ⟨by decide, by decide⟩ rfl aw_int (nc_int 32) (by decide) (by decide) (by decide) (by decide) dX4_init_16 (fun x2 G => ?_)
  have hk := lk_l (L := [(100, 32)]) hk
  refine a_putF (st := []) G hin ff_X4_15 (fun x => ⟨rfl, rfl⟩) dX4_init_18 (by rw [rf_toNat]; exact hk) ?_
  simp only [List.append_assoc, List.cons_append, List.nil_append] at G ⊢
  refine a_ret (ad' := [x1, x2]) (L := [(100, 1000), (100, 32)]) G rfl rfl dX4_init_21 ⟨?_, k, rfl, hlen, ?_, ?_, ?_, ?_⟩
  · intro a ha
    funext b
    simp only [ud, nwM, rf_toNat, List.length_append, List.length_cons, List.length_nil]
    rw [if_neg (by omega), if_neg (by omega), if_neg (by omega), if_neg (by omega)]
  · simp [ud, nwM, rf_toNat, hlen, rf, hq1, hq2, hq3, hq4] <;> omega
  · simp [ud, nwM, rf_toNat, hlen, rf, hq1, hq2, hq3, hq4] <;> omega
  · simp [ud, nwM, rf_toNat, hlen, rf, h0, dv, sty, ftab, hq1, hq2, hq3, hq4] <;> omega
  · simp [ud, nwM, rf_toNat, hlen, rf, h0, dv, sty, ftab, hq1, hq2, hq3, hq4] <;> omega
def I_0 (sh : Shp) (as : List Vl) (μ μ' : Mem) : Prop := keepO sh μ μ' ∧ ∃ k, as = [(2, rf k)] ∧ sh.length = k + 1 ∧ μ' k 0 = rf (k + 1) ∧ μ' k 1 = rf (k + 2) ∧ μ' k 2 = rf (k + 3)
set_option maxRecDepth 10000 in
theorem nX0_init : MN yX0_init cX0_init 1 2 [(100, 16), (100, 12), (100, 24)] (preO 0) I_0 := by
  refine MN_of (by decide) rfl ?_
  intro p l e s m args below meth c D ad sh μ as hp hs hin hxk hA G
  obtain ⟨k, rfl, hlen, hk, h0⟩ := hp
  have hq1 : ¬ k = k + 1 + 1 := by omega
  have hq2 : ¬ k = k + 1 + 2 := by omega
  have hq3 : ¬ k = k + 1 + 3 := by omega
  have hq4 : ¬ k = k + 1 := by omega
  refine ⟨Nat.le_refl 1, ?_⟩
  refine r_aload_n G dX0_init_0 rfl rfl ?_
  refine a_obj G oj_X0_3 oi_1 oi_2 dX0_init_1 (by decide) (by decide) ?_
  refine r_aload_n G dX0_init_4 rfl rfl ?_
  refine r_bipush G dX0_init_5 (by decide) ?_
  refine a_newa (st := [(2, rf k)]) G hA (kd := 100) (N := 16) ⟨by decide, by decide⟩ rfl aw_int (nc_int 16) (by decide) (by decide) (by decide) (by decide) dX0_init_7 (fun x1 G => ?_)
  have hk := lk_l (L := [(100, 16)]) hk
  refine a_putF (st := []) G hin ff_X0_9 (fun x => ⟨rfl, rfl⟩) dX0_init_9 (by rw [rf_toNat]; exact hk) ?_
  refine r_aload_n G dX0_init_12 rfl rfl ?_
  refine r_bipush G dX0_init_13 (by decide) ?_
  refine a_newa (st := [(2, rf k)]) G hA (kd := 100) (N := 12) ⟨by decide, by decide⟩ rfl aw_int (nc_int 12) (by decide) (by decide) (by decide) (by decide) dX0_init_15 (fun x2 G => ?_)
  have hk := lk_l (L := [(100, 12)]) hk
  refine a_putF (st := []) G hin ff_X0_15 (fun x => ⟨rfl, rfl⟩) dX0_init_17 (by rw [rf_toNat]; exact hk) ?_
  refine r_aload_n G dX0_init_20 rfl rfl ?_
  refine r_bipush G dX0_init_21 (by decide) ?_
  refine a_newa (st := [(2, rf k)]) G hA (kd := 100) (N := 24) ⟨by decide, by decide⟩ rfl aw_int (nc_int 24) (by decide) (by decide) (by decide) (by decide) dX0_init_23 (fun x3 G => ?_)
  have hk := lk_l (L := [(100, 24)]) hk
  refine a_putF (st := []) G hin ff_X0_18 (fun x => ⟨rfl, rfl⟩) dX0_init_25 (by rw [rf_toNat]; exact hk) ?_
  simp only [List.append_assoc, List.cons_append, List.nil_append] at G ⊢
  refine a_ret (ad' := [x1, x2, x3]) (L := [(100, 16), (100, 12), (100, 24)]) G rfl rfl dX0_init_28 ⟨?_, k, rfl, hlen, ?_, ?_, ?_⟩
  · intro a ha
    funext b
    simp only [ud, nwM, rf_toNat, List.length_append, List.length_cons, List.length_nil]
    rw [if_neg (by omega), if_neg (by omega), if_neg (by omega), if_neg (by omega), if_neg (by omega), if_neg (by omega)]
  · simp [ud, nwM, rf_toNat, hlen, rf, hq1, hq2, hq3, hq4] <;> omega
  · simp [ud, nwM, rf_toNat, hlen, rf, hq1, hq2, hq3, hq4] <;> omega
  · simp [ud, nwM, rf_toNat, hlen, rf, hq1, hq2, hq3, hq4] <;> omega
def I_3 (sh : Shp) (as : List Vl) (μ μ' : Mem) : Prop := keepO sh μ μ' ∧ ∃ k, as = [(2, rf k)] ∧ sh.length = k + 1 ∧ μ' k 5 = rf (k + 1) ∧ μ' k 6 = rf (k + 2) ∧ μ' k 7 = rf (k + 3) ∧ μ' k 0 = 0 ∧ μ' k 1 = 0 ∧ μ' k 2 = 0 ∧ μ' k 3 = 0 ∧ μ' k 4 = 0
set_option maxRecDepth 10000 in
theorem nX3_init : MN yX3_init cX3_init 1 2 [(100, 16), (100, 24), (100, 24)] (preO 3) I_3 := by
  refine MN_of (by decide) rfl ?_
  intro p l e s m args below meth c D ad sh μ as hp hs hin hxk hA G
  obtain ⟨k, rfl, hlen, hk, h0⟩ := hp
  have hq1 : ¬ k = k + 1 + 1 := by omega
  have hq2 : ¬ k = k + 1 + 2 := by omega
  have hq3 : ¬ k = k + 1 + 3 := by omega
  have hq4 : ¬ k = k + 1 := by omega
  refine ⟨Nat.le_refl 1, ?_⟩
  refine r_aload_n G dX3_init_0 rfl rfl ?_
  refine a_obj G oj_X3_3 oi_1 oi_2 dX3_init_1 (by decide) (by decide) ?_
  refine r_aload_n G dX3_init_4 rfl rfl ?_
  refine r_bipush G dX3_init_5 (by decide) ?_
  refine a_newa (st := [(2, rf k)]) G hA (kd := 100) (N := 16) ⟨by decide, by decide⟩ rfl aw_int (nc_int 16) (by decide) (by decide) (by decide) (by decide) dX3_init_7 (fun x1 G => ?_)
  have hk := lk_l (L := [(100, 16)]) hk
  refine a_putF (st := []) G hin ff_X3_9 (fun x => ⟨rfl, rfl⟩) dX3_init_9 (by rw [rf_toNat]; exact hk) ?_
  refine r_aload_n G dX3_init_12 rfl rfl ?_
  refine r_bipush G dX3_init_13 (by decide) ?_
  refine a_newa (st := [(2, rf k)]) G hA (kd := 100) (N := 24) ⟨by decide, by decide⟩ rfl aw_int (nc_int 24) (by decide) (by decide) (by decide) (by decide) dX3_init_15 (fun x2 G => ?_)
  have hk := lk_l (L := [(100, 24)]) hk
  refine a_putF (st := []) G hin ff_X3_15 (fun x => ⟨rfl, rfl⟩) dX3_init_17 (by rw [rf_toNat]; exact hk) ?_
  refine r_aload_n G dX3_init_20 rfl rfl ?_
  refine r_bipush G dX3_init_21 (by decide) ?_
  refine a_newa (st := [(2, rf k)]) G hA (kd := 100) (N := 24) ⟨by decide, by decide⟩ rfl aw_int (nc_int 24) (by decide) (by decide) (by decide) (by decide) dX3_init_23 (fun x3 G => ?_)
  have hk := lk_l (L := [(100, 24)]) hk
  refine a_putF (st := []) G hin ff_X3_18 (fun x => ⟨rfl, rfl⟩) dX3_init_25 (by rw [rf_toNat]; exact hk) ?_
  simp only [List.append_assoc, List.cons_append, List.nil_append] at G ⊢
  refine a_ret (ad' := [x1, x2, x3]) (L := [(100, 16), (100, 24), (100, 24)]) G rfl rfl dX3_init_28 ⟨?_, k, rfl, hlen, ?_, ?_, ?_, ?_, ?_, ?_, ?_, ?_⟩
  · intro a ha
    funext b
    simp only [ud, nwM, rf_toNat, List.length_append, List.length_cons, List.length_nil]
    rw [if_neg (by omega), if_neg (by omega), if_neg (by omega), if_neg (by omega), if_neg (by omega), if_neg (by omega)]
  · simp [ud, nwM, rf_toNat, hlen, rf, hq1, hq2, hq3, hq4] <;> omega
  · simp [ud, nwM, rf_toNat, hlen, rf, hq1, hq2, hq3, hq4] <;> omega
  · simp [ud, nwM, rf_toNat, hlen, rf, hq1, hq2, hq3, hq4] <;> omega
  · simp [ud, nwM, rf_toNat, hlen, rf, h0, dv, sty, ftab, hq1, hq2, hq3, hq4] <;> omega
  · simp [ud, nwM, rf_toNat, hlen, rf, h0, dv, sty, ftab, hq1, hq2, hq3, hq4] <;> omega
  · simp [ud, nwM, rf_toNat, hlen, rf, h0, dv, sty, ftab, hq1, hq2, hq3, hq4] <;> omega
  · simp [ud, nwM, rf_toNat, hlen, rf, h0, dv, sty, ftab, hq1, hq2, hq3, hq4] <;> omega
  · simp [ud, nwM, rf_toNat, hlen, rf, h0, dv, sty, ftab, hq1, hq2, hq3, hq4] <;> omega
def I_5 (sh : Shp) (as : List Vl) (μ μ' : Mem) : Prop := keepO sh μ μ' ∧ ∃ k, as = [(2, rf k)] ∧ sh.length = k + 1 ∧ μ' k 1 = rf (k + 1) ∧ μ' k 2 = rf (k + 2) ∧ μ' k 0 = 0
set_option maxRecDepth 10000 in
theorem nX5_init : MN yX5_init cX5_init 1 2 [(100, 16), (101, 4096)] (preO 5) I_5 := by
  refine MN_of (by decide) rfl ?_
  intro p l e s m args below meth c D ad sh μ as hp hs hin hxk hA G
  obtain ⟨k, rfl, hlen, hk, h0⟩ := hp
  have hq1 : ¬ k = k + 1 + 1 := by omega
  have hq2 : ¬ k = k + 1 + 2 := by omega
  have hq3 : ¬ k = k + 1 + 3 := by omega
  have hq4 : ¬ k = k + 1 := by omega
  refine ⟨Nat.le_refl 1, ?_⟩
  refine r_aload_n G dX5_init_0 rfl rfl ?_
  refine a_obj G oj_X5_3 oi_1 oi_2 dX5_init_1 (by decide) (by decide) ?_
  refine r_aload_n G dX5_init_4 rfl rfl ?_
  refine r_bipush G dX5_init_5 (by decide) ?_
  refine a_newa (st := [(2, rf k)]) G hA (kd := 100) (N := 16) ⟨by decide, by decide⟩ rfl aw_int (nc_int 16) (by decide) (by decide) (by decide) (by decide) dX5_init_7 (fun x1 G => ?_)
  have hk := lk_l (L := [(100, 16)]) hk
  refine a_putF (st := []) G hin ff_X5_9 (fun x => ⟨rfl, rfl⟩) dX5_init_9 (by rw [rf_toNat]; exact hk) ?_
  refine r_aload_n G dX5_init_12 rfl rfl ?_
  refine r_sipush G dX5_init_13 (by decide) ?_
  refine a_newa (st := [(2, rf k)]) G hA (kd := 101) (N := 4096) ⟨by decide, by decide⟩ rfl aw_long (nc_long 4096) (by decide) (by decide) (by decide) (by decide) dX5_init_16 (fun x2 G => ?_)
  have hk := lk_l (L := [(101, 4096)]) hk
  refine a_putF (st := []) G hin ff_X5_15 (fun x => ⟨rfl, rfl⟩) dX5_init_18 (by rw [rf_toNat]; exact hk) ?_
  simp only [List.append_assoc, List.cons_append, List.nil_append] at G ⊢
  refine a_ret (ad' := [x1, x2]) (L := [(100, 16), (101, 4096)]) G rfl rfl dX5_init_21 ⟨?_, k, rfl, hlen, ?_, ?_, ?_⟩
  · intro a ha
    funext b
    simp only [ud, nwM, rf_toNat, List.length_append, List.length_cons, List.length_nil]
    rw [if_neg (by omega), if_neg (by omega), if_neg (by omega), if_neg (by omega)]
  · simp [ud, nwM, rf_toNat, hlen, rf, hq1, hq2, hq3, hq4] <;> omega
  · simp [ud, nwM, rf_toNat, hlen, rf, hq1, hq2, hq3, hq4] <;> omega
  · simp [ud, nwM, rf_toNat, hlen, rf, h0, dv, sty, ftab, hq1, hq2, hq3, hq4] <;> omega
def I_9 (sh : Shp) (as : List Vl) (μ μ' : Mem) : Prop := keepO sh μ μ' ∧ ∃ k, as = [(2, rf k)] ∧ sh.length = k + 1 ∧ μ' k 0 = rf (k + 1) ∧ μ' k 1 = rf (k + 2) ∧ μ' k 2 = rf (k + 3) ∧ μ' k 3 = 0
set_option maxRecDepth 10000 in
theorem nX9_init : MN yX9_init cX9_init 1 2 [(100, 6), (100, 6), (100, 24)] (preO 9) I_9 := by
  refine MN_of (by decide) rfl ?_
  intro p l e s m args below meth c D ad sh μ as hp hs hin hxk hA G
  obtain ⟨k, rfl, hlen, hk, h0⟩ := hp
  have hq1 : ¬ k = k + 1 + 1 := by omega
  have hq2 : ¬ k = k + 1 + 2 := by omega
  have hq3 : ¬ k = k + 1 + 3 := by omega
  have hq4 : ¬ k = k + 1 := by omega
  refine ⟨Nat.le_refl 1, ?_⟩
  refine r_aload_n G dX9_init_0 rfl rfl ?_
  refine a_obj G oj_X9_3 oi_1 oi_2 dX9_init_1 (by decide) (by decide) ?_
  refine r_aload_n G dX9_init_4 rfl rfl ?_
  refine r_bipush G dX9_init_5 (by decide) ?_
  refine a_newa (st := [(2, rf k)]) G hA (kd := 100) (N := 6) ⟨by decide, by decide⟩ rfl aw_int (nc_int 6) (by decide) (by decide) (by decide) (by decide) dX9_init_7 (fun x1 G => ?_)
  have hk := lk_l (L := [(100, 6)]) hk
  refine a_putF (st := []) G hin ff_X9_9 (fun x => ⟨rfl, rfl⟩) dX9_init_9 (by rw [rf_toNat]; exact hk) ?_
  refine r_aload_n G dX9_init_12 rfl rfl ?_
  refine r_bipush G dX9_init_13 (by decide) ?_
  refine a_newa (st := [(2, rf k)]) G hA (kd := 100) (N := 6) ⟨by decide, by decide⟩ rfl aw_int (nc_int 6) (by decide) (by decide) (by decide) (by decide) dX9_init_15 (fun x2 G => ?_)
  have hk := lk_l (L := [(100, 6)]) hk
  refine a_putF (st := []) G hin ff_X9_15 (fun x => ⟨rfl, rfl⟩) dX9_init_17 (by rw [rf_toNat]; exact hk) ?_
  refine r_aload_n G dX9_init_20 rfl rfl ?_
  refine r_bipush G dX9_init_21 (by decide) ?_
  refine a_newa (st := [(2, rf k)]) G hA (kd := 100) (N := 24) ⟨by decide, by decide⟩ rfl aw_int (nc_int 24) (by decide) (by decide) (by decide) (by decide) dX9_init_23 (fun x3 G => ?_)
  have hk := lk_l (L := [(100, 24)]) hk
  refine a_putF (st := []) G hin ff_X9_18 (fun x => ⟨rfl, rfl⟩) dX9_init_25 (by rw [rf_toNat]; exact hk) ?_
  simp only [List.append_assoc, List.cons_append, List.nil_append] at G ⊢
  refine a_ret (ad' := [x1, x2, x3]) (L := [(100, 6), (100, 6), (100, 24)]) G rfl rfl dX9_init_28 ⟨?_, k, rfl, hlen, ?_, ?_, ?_, ?_⟩
  · intro a ha
    funext b
    simp only [ud, nwM, rf_toNat, List.length_append, List.length_cons, List.length_nil]
    rw [if_neg (by omega), if_neg (by omega), if_neg (by omega), if_neg (by omega), if_neg (by omega), if_neg (by omega)]
  · simp [ud, nwM, rf_toNat, hlen, rf, hq1, hq2, hq3, hq4] <;> omega
  · simp [ud, nwM, rf_toNat, hlen, rf, hq1, hq2, hq3, hq4] <;> omega
  · simp [ud, nwM, rf_toNat, hlen, rf, hq1, hq2, hq3, hq4] <;> omega
  · simp [ud, nwM, rf_toNat, hlen, rf, h0, dv, sty, ftab, hq1, hq2, hq3, hq4] <;> omega
