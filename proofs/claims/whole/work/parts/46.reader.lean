/-! Reader(tape, first), Past() -/
def pre8 (sh : Shp) (as : List Vl) (μ : Mem) : Prop := ∃ k t f q n1 n2 : Nat, as = [(2, rf k), (2, rf t), (2, rf f)] ∧ sh.length = k + 1 ∧ sh[k]? = some (8, 0) ∧ sh[t]? = some (10, n1) ∧ sh[f]? = some (1, n2) ∧ f < k ∧ μ f 9 = rf q ∧ ∀ j, μ k j = dv (8, 0) j
def I_8 (sh : Shp) (as : List Vl) (μ μ' : Mem) : Prop := keepO sh μ μ' ∧ ∃ k t f : Nat, as = [(2, rf k), (2, rf t), (2, rf f)] ∧ sh.length = k + 1 ∧ μ' k 0 = rf t ∧ μ' k 1 = rf (k + 1) ∧ μ' k 2 = rf (k + 2) ∧ μ' k 3 = rf f ∧ μ' k 4 = μ f 9
set_option maxRecDepth 10000 in
theorem nX8_init : MN yX8_init cX8_init 3 2 [(101, 12), (101, 6)] pre8 I_8 := by
  refine MN_of (by decide) rfl ?_
  intro p l e s m args below meth c D ad sh μ as hp hs hin hxk hA G
  obtain ⟨k, t, f, q, n1, n2, rfl, hlen, hk, ht, hf, hfk, hq, h0⟩ := hp
  refine ⟨Nat.le_refl 3, ?_⟩
  refine r_aload_n G dX8_init_0 rfl rfl ?_
  refine a_obj G oj_X8_3 oi_1 oi_2 dX8_init_1 (by decide) (by decide) ?_
  refine r_aload_n G dX8_init_4 rfl rfl ?_
  refine r_bipush G dX8_init_5 (by decide) ?_
  refine a_newa (st := [(2, rf k)]) G hA (kd := 101) (N := 12) ⟨by decide, by decide⟩ rfl aw_long (nc_long 12) (by decide) (by decide) (by decide) (by decide) dX8_init_7 (fun x1 G => ?_)
  have hk := lk_l (L := [(101, 12)]) hk
  have hf := lk_l (L := [(101, 12)]) hf
  refine a_putF (st := []) G hin ff_X8_9 (fun x => ⟨rfl, rfl⟩) dX8_init_9 (by rw [rf_toNat]; exact hk) ?_
  refine r_aload_n G dX8_init_12 rfl rfl ?_
  refine r_bipush G dX8_init_13 (by decide) ?_
  refine a_newa (st := [(2, rf k)]) G hA (kd := 101) (N := 6) ⟨by decide, by decide⟩ rfl aw_long (nc_long 6) (by decide) (by decide) (by decide) (by decide) dX8_init_15 (fun x2 G => ?_)
  have hk := lk_l (L := [(101, 6)]) hk
  have hf := lk_l (L := [(101, 6)]) hf
  refine a_putF (st := []) G hin ff_X8_15 (fun x => ⟨rfl, rfl⟩) dX8_init_17 (by rw [rf_toNat]; exact hk) ?_
  simp only [List.append_assoc, List.cons_append, List.nil_append] at G hk hf ⊢
  refine wp_mem (fun μ1 => keepO sh μ μ1 ∧ μ1 k 1 = rf (k + 1) ∧ μ1 k 2 = rf (k + 2)) ?_ (fun μ1 hm => ?_)
  · have hq1 : ¬ k = k + 1 + 1 := by omega
    refine ⟨?_, ?_, ?_⟩
    · intro a ha
      funext b
      simp only [ud, nwM, rf_toNat, List.length_append, List.length_cons, List.length_nil]
      rw [if_neg (by omega), if_neg (by omega), if_neg (by omega), if_neg (by omega)]
    · simp [ud, nwM, rf_toNat, hlen, rf, hq1] <;> omega
    · simp [ud, nwM, rf_toNat, hlen, rf, hq1] <;> omega
  obtain ⟨m0, m1, m2⟩ := hm
  refine r_aload_n G dX8_init_20 rfl rfl ?_
  refine r_aload_n G dX8_init_21 rfl rfl ?_
  refine a_putF (st := []) G hin ff_X8_18 (fun x => ⟨rfl, rfl⟩) dX8_init_22 (by rw [rf_toNat]; exact hk) ?_
  refine r_aload_n G dX8_init_25 rfl rfl ?_
  refine r_aload_n G dX8_init_26 rfl rfl ?_
  refine r_putf (st := []) G fp_X8_22 dX8_init_27 (nn := 0) (by show (sh ++ _)[(rf k).toNat]? = _; rw [rf_toNat]; exact hk) ⟨rfl, rf_nn _⟩ ?_
  refine r_aload_n G dX8_init_30 rfl rfl ?_
  refine r_aload_n G dX8_init_31 rfl rfl ?_
  have e1 : ud (ud μ1 (rf k).toNat 0 (rf t)) (rf k).toNat 3 (rf f) (rf f).toNat 9 = μ f 9 := by
    rw [rf_toNat, rf_toNat, ud_o (by omega), ud_o (by omega), m0 f (by omega)]
  refine r_getf G fl_X8_26 dX8_init_32 (nn := n2) (by show (sh ++ _)[(rf f).toNat]? = _; rw [rf_toNat]; exact hf) (fun _ => by rw [e1, hq]; exact rf_nn _) ?_
  rw [e1]
  refine r_putf (st := []) G fp_X8_32 dX8_init_35 (nn := 0) (by show (sh ++ _)[(rf k).toNat]? = _; rw [rf_toNat]; exact hk) ⟨rfl, by rw [hq]; exact rf_nn _⟩ ?_
  refine a_ret (ad' := [x1, x2]) (L := [(101, 12), (101, 6)]) G rfl rfl dX8_init_38 ⟨?_, k, t, f, rfl, hlen, ?_, ?_, ?_, ?_, ?_⟩
  · intro a ha
    rw [rf_toNat, ud_o (by omega), ud_o (by omega), ud_o (by omega)]
    exact m0 a ha
  · simp [ud, rf_toNat]
  · simp [ud, rf_toNat, m1]
  · simp [ud, rf_toNat, m2]
  · simp [ud, rf_toNat]
  · simp [ud, rf_toNat]
