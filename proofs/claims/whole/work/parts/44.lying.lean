/-! Lying(), Flock(), Reader() -/
theorem wp_mem {M : Md} {Γ : Cx} {pc : Nat} {env : Ev} {st : List Vl} {μ : Mem} (P : Mem → Prop) (h : P μ) (k : ∀ μ1, P μ1 → WP M Γ pc env st μ1) : WP M Γ pc env st μ := k μ h
theorem fillM_in {μ : Mem} {a n y : Nat} {v : Int} (h : y < n) : fillM μ a n v a y = v := by simp [fillM, h]
theorem fillM_o {μ : Mem} {a n x : Nat} {v : Int} (h : x ≠ a) : fillM μ a n v x = μ x := by
  funext y
  simp [fillM, h]
def I_6 (sh : Shp) (as : List Vl) (μ μ' : Mem) : Prop := keepO sh μ μ' ∧ ∃ k, as = [(2, rf k)] ∧ sh.length = k + 1 ∧ ObLy (sh ++ [(100, 12), (100, 12), (100, 12), (100, 144)]) μ' k ∧ μ' k 0 = 0 ∧ μ' k 1 = 0 ∧ (∀ b, b < 12 → μ' (k + 1) b = -1) ∧ (∀ b, b < 12 → μ' (k + 2) b = -1) ∧ (∀ b, μ' (k + 3) b = 0) ∧ (∀ b, μ' (k + 4) b = 0)
set_option maxRecDepth 10000 in
theorem nX6_init : MN yX6_init cX6_init 1 2 [(100, 12), (100, 12), (100, 12), (100, 144)] (preO 6) I_6 := by
  refine MN_of (by decide) rfl ?_
  intro p l e s m args below meth c D ad sh μ as hp hs hin hxk hA G
  obtain ⟨k, rfl, hlen, hk, h0⟩ := hp
  have hk0 := hk
  refine ⟨Nat.le_refl 1, ?_⟩
  refine r_aload_n G dX6_init_0 rfl rfl ?_
  refine a_obj G oj_X6_3 oi_1 oi_2 dX6_init_1 (by decide) (by decide) ?_
  refine r_aload_n G dX6_init_4 rfl rfl ?_
  refine r_bipush G dX6_init_5 (by decide) ?_
  refine a_newa (st := [(2, rf k)]) G hA (kd := 100) (N := 12) ⟨by decide, by decide⟩ rfl aw_int (nc_int 12) (by decide) (by decide) (by decide) (by decide) dX6_init_7 (fun x1 G => ?_)
  have hk := lk_l (L := [(100, 12)]) hk
  refine a_putF (st := []) G hin ff_X6_9 (fun x => ⟨rfl, rfl⟩) dX6_init_9 (by rw [rf_toNat]; exact hk) ?_
  refine r_aload_n G dX6_init_12 rfl rfl ?_
  refine r_bipush G dX6_init_13 (by decide) ?_
  refine a_newa (st := [(2, rf k)]) G hA (kd := 100) (N := 12) ⟨by decide, by decide⟩ rfl aw_int (nc_int 12) (by decide) (by decide) (by decide) (by decide) dX6_init_15 (fun x2 G => ?_)
  have hk := lk_l (L := [(100, 12)]) hk
  refine a_putF (st := []) G hin ff_X6_15 (fun x => ⟨rfl, rfl⟩) dX6_init_17 (by rw [rf_toNat]; exact hk) ?_
  refine r_aload_n G dX6_init_20 rfl rfl ?_
  refine r_bipush G dX6_init_21 (by decide) ?_
  refine a_newa (st := [(2, rf k)]) G hA (kd := 100) (N := 12) ⟨by decide, by decide⟩ rfl aw_int (nc_int 12) (by decide) (by decide) (by decide) (by decide) dX6_init_23 (fun x3 G => ?_)
  have hk := lk_l (L := [(100, 12)]) hk
  refine a_putF (st := []) G hin ff_X6_18 (fun x => ⟨rfl, rfl⟩) dX6_init_25 (by rw [rf_toNat]; exact hk) ?_
  refine r_aload_n G dX6_init_28 rfl rfl ?_
  refine r_sipush G dX6_init_29 (by decide) ?_
  refine a_newa (st := [(2, rf k)]) G hA (kd := 100) (N := 144) ⟨by decide, by decide⟩ rfl aw_int (nc_int 144) (by decide) (by decide) (by decide) (by decide) dX6_init_32 (fun x4 G => ?_)
  have hk := lk_l (L := [(100, 144)]) hk
  refine a_putF (st := []) G hin ff_X6_21 (fun x => ⟨rfl, rfl⟩) dX6_init_34 (by rw [rf_toNat]; exact hk) ?_
  simp only [List.append_assoc, List.cons_append, List.nil_append] at G hk ⊢
  have hq1 : ¬ k = k + 1 + 1 := by omega
  have hq2 : ¬ k = k + 1 + 2 := by omega
  have hq3 : ¬ k = k + 1 + 3 := by omega
  have hq4 : ¬ k = k + 1 := by omega
  refine wp_mem (fun μ1 => keepO sh μ μ1 ∧ μ1 k 0 = 0 ∧ μ1 k 1 = 0 ∧ μ1 k 2 = rf (k + 1) ∧ μ1 k 3 = rf (k + 2) ∧ μ1 k 4 = rf (k + 3) ∧ μ1 k 5 = rf (k + 4) ∧ (∀ b, μ1 (k + 3) b = 0) ∧ (∀ b, μ1 (k + 4) b = 0)) ?_ (fun μ1 hm => ?_)
  · refine ⟨?_, ?_, ?_, ?_, ?_, ?_, ?_, ?_, ?_⟩
    · intro a ha
      funext b
      simp only [ud, nwM, rf_toNat, List.length_append, List.length_cons, List.length_nil]
      rw [if_neg (by omega), if_neg (by omega), if_neg (by omega), if_neg (by omega), if_neg (by omega), if_neg (by omega), if_neg (by omega), if_neg (by omega)]
    · simp [ud, nwM, rf_toNat, hlen, rf, h0, dv, sty, ftab, hq1, hq2, hq3, hq4] <;> omega
    · simp [ud, nwM, rf_toNat, hlen, rf, h0, dv, sty, ftab, hq1, hq2, hq3, hq4] <;> omega
    · simp [ud, nwM, rf_toNat, hlen, rf, hq1, hq2, hq3, hq4] <;> omega
    · simp [ud, nwM, rf_toNat, hlen, rf, hq1, hq2, hq3, hq4] <;> omega
    · simp [ud, nwM, rf_toNat, hlen, rf, hq1, hq2, hq3, hq4] <;> omega
    · simp [ud, nwM, rf_toNat, hlen, rf, hq1, hq2, hq3, hq4] <;> omega
    · intro b
      have e1 : ¬ k + 3 = k := by omega
      have e2 : ¬ k + 3 = k + 1 + 3 := by omega
      have e3 : k + 3 = k + 1 + 2 := by omega
      simp [ud, nwM, rf_toNat, hlen, dv, sty, e2]
    · intro b
      simp [ud, nwM, rf_toNat, hlen, dv, sty]
  obtain ⟨m0, m1, m2, m3, m4, m5, m6, m7, m8⟩ := hm
  have l1 : (sh ++ [((100, 12) : Nat × Nat), (100, 12), (100, 12), (100, 144)])[k + 1]? = some (100, 12) := by rw [List.getElem?_append_right (by omega), hlen, Nat.sub_self]; rfl
  have l2 : (sh ++ [((100, 12) : Nat × Nat), (100, 12), (100, 12), (100, 144)])[k + 2]? = some (100, 12) := by rw [List.getElem?_append_right (by omega), hlen, show k + 2 - (k + 1) = 1 by omega]; rfl
  have l3 : (sh ++ [((100, 12) : Nat × Nat), (100, 12), (100, 12), (100, 144)])[k + 3]? = some (100, 12) := by rw [List.getElem?_append_right (by omega), hlen, show k + 3 - (k + 1) = 2 by omega]; rfl
  have l4 : (sh ++ [((100, 12) : Nat × Nat), (100, 12), (100, 12), (100, 144)])[k + 4]? = some (100, 144) := by rw [List.getElem?_append_right (by omega), hlen, show k + 4 - (k + 1) = 3 by omega]; rfl
  refine r_aload_n G dX6_init_37 rfl rfl ?_
  refine r_getf G fl_X6_9 dX6_init_38 (nn := 0) (by show (sh ++ _)[(rf k).toNat]? = _; rw [rf_toNat]; exact hk) (fun _ => by rw [rf_toNat, m3]; exact rf_nn _) ?_
  rw [rf_toNat, m3]
  refine r_iconst G dX6_init_41 (by decide) ?_
  refine r_callS (as := [(2, rf (k + 1)), (0, -1)]) (st := []) G mJ7_fill_53178 cs_X6_24 dX6_init_42 (by decide) (by decide) rfl (f_fill l1 (by decide)) (by decide) ?_
  show WP _ _ 45 _ [] _
  refine r_aload_n G dX6_init_45 rfl rfl ?_
  refine r_getf G fl_X6_15 dX6_init_46 (nn := 0) (by show (sh ++ _)[(rf k).toNat]? = _; rw [rf_toNat]; exact hk) (fun _ => by rw [rf_toNat, fillM_o (by omega), m4]; exact rf_nn _) ?_
  rw [rf_toNat, fillM_o (by omega), m4]
  refine r_iconst G dX6_init_49 (by decide) ?_
  refine r_callS (as := [(2, rf (k + 2)), (0, -1)]) (st := []) G mJ7_fill_53178 cs_X6_24 dX6_init_50 (by decide) (by decide) rfl (f_fill l2 (by decide)) (by decide) ?_
  show WP _ _ 53 _ [] _
  refine a_ret (ad' := [x1, x2, x3, x4]) (L := [(100, 12), (100, 12), (100, 12), (100, 144)]) G rfl rfl dX6_init_53 ⟨?_, k, rfl, hlen, ⟨hk, l1, l2, l3, l4, ?_, ?_, ?_, ?_⟩, ?_, ?_, ?_, ?_, ?_, ?_⟩
  · intro a ha
    rw [fillM_o (by omega), fillM_o (by omega)]
    exact m0 a ha
  · rw [fillM_o (by omega), fillM_o (by omega)]; exact m3
  · rw [fillM_o (by omega), fillM_o (by omega)]; exact m4
  · rw [fillM_o (by omega), fillM_o (by omega)]; exact m5
  · rw [fillM_o (by omega), fillM_o (by omega)]; exact m6
  · rw [fillM_o (by omega), fillM_o (by omega)]; exact m1
  · rw [fillM_o (by omega), fillM_o (by omega)]; exact m2
  · intro b hb
    rw [fillM_o (by omega), fillM_in hb]
  · intro b hb
    rw [fillM_in hb]
  · intro b
    rw [fillM_o (by omega), fillM_o (by omega)]; exact m7 b
  · intro b
    rw [fillM_o (by omega), fillM_o (by omega)]; exact m8 b
