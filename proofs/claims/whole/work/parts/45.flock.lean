/-! Flock() -/
theorem rf_inj {a b : Nat} (h : rf a = rf b) : a = b := by unfold rf at h; omega
theorem pre_k {a b : Nat} (h : ([(2, rf a)] : List Vl) = [(2, rf b)]) : b = a := by
  injection h with h1 h2
  injection h1 with h3 h4
  exact (rf_inj h4).symm
theorem nwM_n {μ : Mem} {n : Nat} {q : Nat × Nat} : nwM μ n q n = dv q := by
  funext b
  simp [nwM]
theorem nwM_o {μ : Mem} {n a : Nat} {q : Nat × Nat} (h : a ≠ n) : nwM μ n q a = μ a := by
  funext b
  simp [nwM, h]
theorem ud_o {μ : Mem} {k j a : Nat} {v : Int} (h : a ≠ k) : ud μ k j v a = μ a := by
  funext b
  simp [ud, h]
def LFl : Shp := [(100, 12), (100, 12), (100, 144), (100, 6), (100, 6), (4, 0), (100, 1000), (100, 32), (4, 0), (100, 1000), (100, 32)]
def I_1 (sh : Shp) (as : List Vl) (μ μ' : Mem) : Prop := keepO sh μ μ' ∧ ∃ k, as = [(2, rf k)] ∧ sh.length = k + 1 ∧ ObFl (sh ++ LFl) μ' k ∧ μ' k 0 = 12 ∧ μ' k 1 = 0 ∧ μ' k 2 = 0 ∧ μ' k 3 = 0 ∧ (∀ b, μ' (k + 3) b = 0) ∧ μ' (k + 6) 2 = 1 ∧ μ' (k + 6) 3 = 0 ∧ μ' (k + 7) 0 = -19 ∧ μ' (k + 9) 2 = 1 ∧ μ' (k + 9) 3 = 0 ∧ μ' (k + 10) 0 = -7
set_option maxRecDepth 10000 in
theorem nX1_init : MN yX1_init cX1_init 1 5 LFl (preO 1) I_1 := by
  refine MN_of (by decide) rfl ?_
  intro p l e s m args below meth c D ad sh μ as hp hs hin hxk hA G
  obtain ⟨k, rfl, hlen, hk, h0⟩ := hp
  refine ⟨Nat.le_refl 1, ?_⟩
  refine r_aload_n G dX1_init_0 rfl rfl ?_
  refine a_obj G oj_X1_3 oi_1 oi_2 dX1_init_1 (by decide) (by decide) ?_
  refine r_aload_n G dX1_init_4 rfl rfl ?_
  refine r_bipush G dX1_init_5 (by decide) ?_
  refine r_putf (st := []) G fp_X1_9 dX1_init_7 (nn := 0) (by show sh[(rf k).toNat]? = _; rw [rf_toNat]; exact hk) rfl ?_
  refine r_aload_n G dX1_init_10 rfl rfl ?_
  refine r_bipush G dX1_init_11 (by decide) ?_
  refine a_newa (st := [(2, rf k)]) G hA (kd := 100) (N := 12) ⟨by decide, by decide⟩ rfl aw_int (nc_int 12) (by decide) (by decide) (by decide) (by decide) dX1_init_13 (fun x1 G => ?_)
  have hk := lk_l (L := [(100, 12)]) hk
  refine a_putF (st := []) G hin ff_X1_15 (fun x => ⟨rfl, rfl⟩) dX1_init_15 (by rw [rf_toNat]; exact hk) ?_
  refine r_aload_n G dX1_init_18 rfl rfl ?_
  refine r_bipush G dX1_init_19 (by decide) ?_
  refine a_newa (st := [(2, rf k)]) G hA (kd := 100) (N := 12) ⟨by decide, by decide⟩ rfl aw_int (nc_int 12) (by decide) (by decide) (by decide) (by decide) dX1_init_21 (fun x2 G => ?_)
  have hk := lk_l (L := [(100, 12)]) hk
  refine a_putF (st := []) G hin ff_X1_19 (fun x => ⟨rfl, rfl⟩) dX1_init_23 (by rw [rf_toNat]; exact hk) ?_
  refine r_aload_n G dX1_init_26 rfl rfl ?_
  refine r_sipush G dX1_init_27 (by decide) ?_
  refine a_newa (st := [(2, rf k)]) G hA (kd := 100) (N := 144) ⟨by decide, by decide⟩ rfl aw_int (nc_int 144) (by decide) (by decide) (by decide) (by decide) dX1_init_30 (fun x3 G => ?_)
  have hk := lk_l (L := [(100, 144)]) hk
  refine a_putF (st := []) G hin ff_X1_22 (fun x => ⟨rfl, rfl⟩) dX1_init_32 (by rw [rf_toNat]; exact hk) ?_
  refine r_aload_n G dX1_init_35 rfl rfl ?_
  refine r_bipush G dX1_init_36 (by decide) ?_
  refine a_newa (st := [(2, rf k)]) G hA (kd := 100) (N := 6) ⟨by decide, by decide⟩ rfl aw_int (nc_int 6) (by decide) (by decide) (by decide) (by decide) dX1_init_38 (fun x4 G => ?_)
  have hk := lk_l (L := [(100, 6)]) hk
  refine a_putF (st := []) G hin ff_X1_25 (fun x => ⟨rfl, rfl⟩) dX1_init_40 (by rw [rf_toNat]; exact hk) ?_
  refine r_aload_n G dX1_init_43 rfl rfl ?_
  refine r_bipush G dX1_init_44 (by decide) ?_
  refine a_newa (st := [(2, rf k)]) G hA (kd := 100) (N := 6) ⟨by decide, by decide⟩ rfl aw_int (nc_int 6) (by decide) (by decide) (by decide) (by decide) dX1_init_46 (fun x5 G => ?_)
  have hk := lk_l (L := [(100, 6)]) hk
  refine a_putF (st := []) G hin ff_X1_28 (fun x => ⟨rfl, rfl⟩) dX1_init_48 (by rw [rf_toNat]; exact hk) ?_
  simp only [List.append_assoc, List.cons_append, List.nil_append] at G hk ⊢
  have hq1 : ¬ k = k + 1 + 1 := by omega
  have hq2 : ¬ k = k + 1 + 2 := by omega
  have hq3 : ¬ k = k + 1 + 3 := by omega
  have hq4 : ¬ k = k + 1 := by omega
  have hq5 : ¬ k = k + 1 + 4 := by omega
  refine wp_mem (fun μ1 => keepO sh μ μ1 ∧ μ1 k 0 = 12 ∧ μ1 k 1 = 0 ∧ μ1 k 2 = 0 ∧ μ1 k 3 = 0 ∧ μ1 k 4 = rf (k + 1) ∧ μ1 k 5 = rf (k + 2) ∧ μ1 k 6 = rf (k + 3) ∧ μ1 k 7 = rf (k + 4) ∧ μ1 k 8 = rf (k + 5) ∧ (∀ b, μ1 (k + 3) b = 0)) ?_ (fun μ1 hm => ?_)
  · refine ⟨?_, ?_, ?_, ?_, ?_, ?_, ?_, ?_, ?_, ?_, ?_⟩
    · intro a ha
      funext b
      simp only [ud, nwM, rf_toNat, List.length_append, List.length_cons, List.length_nil]
      rw [if_neg (by omega), if_neg (by omega), if_neg (by omega), if_neg (by omega), if_neg (by omega), if_neg (by omega), if_neg (by omega), if_neg (by omega), if_neg (by omega), if_neg (by omega), if_neg (by omega)]
    · simp [ud, nwM, rf_toNat, hlen, rf, h0, dv, sty, ftab, hq1, hq2, hq3, hq4, hq5] <;> omega
    · simp [ud, nwM, rf_toNat, hlen, rf, h0, dv, sty, ftab, hq1, hq2, hq3, hq4, hq5] <;> omega
    · simp [ud, nwM, rf_toNat, hlen, rf, h0, dv, sty, ftab, hq1, hq2, hq3, hq4, hq5] <;> omega
    · simp [ud, nwM, rf_toNat, hlen, rf, h0, dv, sty, ftab, hq1, hq2, hq3, hq4, hq5] <;> omega
    · simp [ud, nwM, rf_toNat, hlen, rf, h0, dv, sty, ftab, hq1, hq2, hq3, hq4, hq5] <;> omega
    · simp [ud, nwM, rf_toNat, hlen, rf, h0, dv, sty, ftab, hq1, hq2, hq3, hq4, hq5] <;> omega
    · simp [ud, nwM, rf_toNat, hlen, rf, h0, dv, sty, ftab, hq1, hq2, hq3, hq4, hq5] <;> omega
    · simp [ud, nwM, rf_toNat, hlen, rf, h0, dv, sty, ftab, hq1, hq2, hq3, hq4, hq5] <;> omega
    · simp [ud, nwM, rf_toNat, hlen, rf, h0, dv, sty, ftab, hq1, hq2, hq3, hq4, hq5] <;> omega
    · intro b
      have e2 : ¬ k + 3 = k + 1 + 3 := by omega
      have e3 : ¬ k + 3 = k + 1 + 4 := by omega
      have e4 : k + 3 = k + 1 + 2 := by omega
      have e5 : ¬ k + 3 = k := by omega
      simp [ud, nwM, rf_toNat, hlen, dv, sty, e2, e3, e4, e5]
  obtain ⟨m0, m1, m2, m3, m4, m5, m6, m7, m8, m9, m10⟩ := hm
  obtain ⟨sh1, hsh1⟩ : ∃ z, z = sh ++ [((100, 12) : Nat × Nat), (100, 12), (100, 144), (100, 6), (100, 6)] := ⟨_, rfl⟩
  have hl1 : sh1.length = k + 6 := by rw [hsh1]; simp [hlen]
  rw [← hsh1] at G hk ⊢
  refine r_aload_n G dX1_init_51 rfl rfl ?_
  refine a_new G hA (ci := 4) (T := TX4) (N := 4) (ty := tyX4) rfl (by decide) inT4 tyX4_ok nw_X1_31 oo_4.1 oo_4.2 dfs_4 (by decide) (by decide) dX1_init_52 (fun y1 G => ?_)
  have hk := lk_l (L := [(4, 0)]) hk
  refine r_dup G dX1_init_55 (by decide) ?_
  refine a_callN (as := []) G hA hxk nX4_init oo_4.2 ow_4.2 (by decide +kernel) (by decide) hxk.2.2.2.1 rfl ow_4.1 dX1_init_56 (by decide) rfl ⟨k + 6, by rw [hl1]; rfl, by simp [hl1], by rw [← hl1]; exact lk_n, fun j => by rw [← hl1, nwM_n]⟩ (by simp [wd]) (by decide) (by decide) (fun z1 μ2 hpo hz1 G => ?_)
  have hk := lk_l (L := [(100, 1000), (100, 32)]) hk
  obtain ⟨kp, kk, hkk, hkl, ke⟩ := hpo
  have hkk : kk = k + 6 := by simp [hl1] at hkl; omega
  subst hkk
  refine a_putF (st := []) G hin ff_X1_34 (fun x => ⟨rfl, rfl⟩) dX1_init_59 (by rw [rf_toNat]; exact hk) ?_
  simp only [List.append_assoc, List.cons_append, List.nil_append] at G hk ⊢
  have e9 : ((sh1.length : Nat) : Int) = rf (k + 6) := by rw [hl1]; rfl
  refine wp_mem (fun μ3 => keepO sh μ μ3 ∧ (∀ j, j < 9 → μ3 k j = μ1 k j) ∧ (∀ a, k < a → a < k + 6 → μ3 a = μ1 a) ∧ μ3 k 9 = rf (k + 6) ∧ μ3 (k + 6) 0 = rf (k + 7) ∧ μ3 (k + 6) 1 = rf (k + 8)) ?_ (fun μ3 hm3 => ?_)
  · have hkp : ∀ a, a < k + 6 → μ2 a = μ1 a := by
      intro a ha
      rw [kp a (by simp [hl1]; omega), nwM_o (by omega)]
    refine ⟨?_, ?_, ?_, ?_, ?_, ?_⟩
    · intro a ha
      rw [rf_toNat, ud_o (by omega), hkp a (by omega)]
      exact m0 a ha
    · intro j hj
      rw [rf_toNat, ud_j (by omega), hkp k (by omega)]
    · intro a h1 h2
      rw [rf_toNat, ud_o (by omega), hkp a h2]
    · rw [rf_toNat, ud_s, e9]
    · rw [rf_toNat, ud_o (by omega)]; exact ke.1
    · rw [rf_toNat, ud_o (by omega)]; exact ke.2.1
  clear kp ke
  obtain ⟨t0, t1, t2, t3, t4, t5⟩ := hm3
  obtain ⟨sh2, hsh2⟩ : ∃ z, z = sh1 ++ [((4, 0) : Nat × Nat), (100, 1000), (100, 32)] := ⟨_, rfl⟩
  have hl2 : sh2.length = k + 9 := by rw [hsh2]; simp [hl1]
  rw [← hsh2] at G hk ⊢
  refine r_aload_n G dX1_init_62 rfl rfl ?_
  refine a_new G hA (ci := 4) (T := TX4) (N := 4) (ty := tyX4) rfl (by decide) inT4 tyX4_ok nw_X1_31 oo_4.1 oo_4.2 dfs_4 (by decide) (by decide) dX1_init_63 (fun y2 G => ?_)
  have hk := lk_l (L := [(4, 0)]) hk
  refine r_dup G dX1_init_66 (by decide) ?_
  refine a_callN (as := []) G hA hxk nX4_init oo_4.2 ow_4.2 (by decide +kernel) (by decide) hxk.2.2.2.1 rfl ow_4.1 dX1_init_67 (by decide) rfl ⟨k + 9, by rw [hl2]; rfl, by simp [hl2], by rw [← hl2]; exact lk_n, fun j => by rw [← hl2, nwM_n]⟩ (by simp [wd]) (by decide) (by decide) (fun z2 μ4 hpo hz2 G => ?_)
  have hk := lk_l (L := [(100, 1000), (100, 32)]) hk
  obtain ⟨kp, kk, hkk, hkl, ke⟩ := hpo
  have hkk : kk = k + 9 := by simp [hl2] at hkl; omega
  subst hkk
  refine a_putF (st := []) G hin ff_X1_38 (fun x => ⟨rfl, rfl⟩) dX1_init_70 (by rw [rf_toNat]; exact hk) ?_
  have e8 : ((sh2.length : Nat) : Int) = rf (k + 9) := by rw [hl2]; rfl
  refine wp_mem (fun μ5 => keepO sh μ μ5 ∧ μ5 k 0 = 12 ∧ μ5 k 1 = 0 ∧ μ5 k 2 = 0 ∧ μ5 k 3 = 0 ∧ μ5 k 4 = rf (k + 1) ∧ μ5 k 5 = rf (k + 2) ∧ μ5 k 6 = rf (k + 3) ∧ μ5 k 7 = rf (k + 4) ∧ μ5 k 8 = rf (k + 5) ∧ μ5 k 9 = rf (k + 6) ∧ μ5 k 10 = rf (k + 9) ∧ (∀ b, μ5 (k + 3) b = 0) ∧ μ5 (k + 6) 0 = rf (k + 7) ∧ μ5 (k + 6) 1 = rf (k + 8) ∧ μ5 (k + 9) 0 = rf (k + 10) ∧ μ5 (k + 9) 1 = rf (k + 11)) ?_ (fun μ5 hm5 => ?_)
  · have hkp : ∀ a, a < k + 9 → μ4 a = μ3 a := by
      intro a ha
      rw [kp a (by simp [hl2]; omega), nwM_o (by omega)]
    have g1 : ∀ j, j < 9 → ud μ4 (rf k).toNat 10 ((sh2.length : Nat) : Int) k j = μ1 k j := by
      intro j hj
      rw [rf_toNat, ud_j (by omega), hkp k (by omega)]
      exact t1 j hj
    refine ⟨?_, (g1 0 (by omega)).trans m1, (g1 1 (by omega)).trans m2, (g1 2 (by omega)).trans m3, (g1 3 (by omega)).trans m4, (g1 4 (by omega)).trans m5, (g1 5 (by omega)).trans m6, (g1 6 (by omega)).trans m7, (g1 7 (by omega)).trans m8, (g1 8 (by omega)).trans m9, ?_, ?_, ?_, ?_, ?_, ?_, ?_⟩
    · intro a ha
      rw [rf_toNat, ud_o (by omega), hkp a (by omega)]
      exact t0 a ha
    · rw [rf_toNat, ud_j (by omega), hkp k (by omega)]; exact t3
    · rw [rf_toNat, ud_s, e8]
    · intro b
      rw [rf_toNat, ud_o (by omega), hkp _ (by omega), t2 (k + 3) (by omega) (by omega)]
      exact m10 b
    · rw [rf_toNat, ud_o (by omega), hkp _ (by omega)]; exact t4
    · rw [rf_toNat, ud_o (by omega), hkp _ (by omega)]; exact t5
    · rw [rf_toNat, ud_o (by omega)]; exact ke.1
    · rw [rf_toNat, ud_o (by omega)]; exact ke.2.1
  clear kp ke t0 t1 t2 t3 t4 t5 m0 m1 m2 m3 m4 m5 m6 m7 m8 m9 m10
  rw [hsh2, hsh1] at G hk ⊢
  simp only [List.append_assoc, List.cons_append, List.nil_append] at G hk ⊢
  obtain ⟨v0, v1, v2, v3, v4, v5, v6, v7, v8, v9, v10, v11, v12, v13, v14, v15, v16⟩ := hm5
  have look : ∀ i q, LFl[i]? = some q → (sh ++ LFl)[k + 1 + i]? = some q := by
    intro i q hi
    rw [List.getElem?_append_right (by omega), hlen, Nat.add_sub_cancel_left]
    exact hi
  have hfl : ∀ μ9 : Mem, (∀ j, 4 ≤ j → j < 11 → μ9 k j = μ5 k j) → (∀ j, j < 2 → μ9 (k + 6) j = μ5 (k + 6) j) → (∀ j, j < 2 → μ9 (k + 9) j = μ5 (k + 9) j) → ObFl (sh ++ LFl) μ9 k := by
    intro μ9 w1 w2 w3
    refine ⟨hk, look 0 _ rfl, look 1 _ rfl, look 2 _ rfl, look 3 _ rfl, look 4 _ rfl, look 5 _ rfl, look 6 _ rfl, look 7 _ rfl, look 8 _ rfl, look 9 _ rfl, look 10 _ rfl, (w1 4 (by omega) (by omega)).trans v5, (w1 5 (by omega) (by omega)).trans v6, (w1 6 (by omega) (by omega)).trans v7, (w1 7 (by omega) (by omega)).trans v8, (w1 8 (by omega) (by omega)).trans v9, (w1 9 (by omega) (by omega)).trans v10, (w1 10 (by omega) (by omega)).trans v11, (w2 0 (by omega)).trans v13, (w2 1 (by omega)).trans v14, (w3 0 (by omega)).trans v15, (w3 1 (by omega)).trans v16⟩
  refine r_aload_n G dX1_init_73 rfl rfl ?_
  refine r_getf G fl_X1_34 dX1_init_74 (nn := 0) (by show (sh ++ _)[(rf k).toNat]? = _; rw [rf_toNat]; exact hk) (fun _ => by rw [rf_toNat, v10]; exact rf_nn _) ?_
  rw [rf_toNat, v10]
  refine r_bipush G dX1_init_77 (by decide) ?_
  refine r_callV (as := [(0, 18)]) (st := []) (a := rf (k + 6)) (nn := 0) G mX4_beFact cv_X1_41 dX1_init_79 (by decide) (by decide) rfl (by show (sh ++ LFl)[(rf (k + 6)).toNat]? = _; rw [rf_toNat]; exact look 5 _ rfl) (f_beFact (w := 18) ⟨look 5 _ rfl, look 6 _ rfl, look 7 _ rfl, v13, v14⟩ (by decide)) (by decide) ?_
  show WP _ _ 82 _ [] _
  refine r_aload_n G dX1_init_82 rfl rfl ?_
  refine r_getf G fl_X1_38 dX1_init_83 (nn := 0) (by show (sh ++ _)[(rf k).toNat]? = _; rw [rf_toNat]; exact hk) (fun _ => by rw [rf_toNat, beM_o (by omega) (by omega), v11]; exact rf_nn _) ?_
  rw [rf_toNat, beM_o (by omega) (by omega), v11]
  refine r_bipush G dX1_init_86 (by decide) ?_
  refine r_callV (as := [(0, 6)]) (st := []) (a := rf (k + 9)) (nn := 0) G mX4_beFact cv_X1_41 dX1_init_88 (by decide) (by decide) rfl (by show (sh ++ LFl)[(rf (k + 9)).toNat]? = _; rw [rf_toNat]; exact look 8 _ rfl) (f_beFact (w := 6) ⟨look 8 _ rfl, look 9 _ rfl, look 10 _ rfl, by rw [beM_o (by omega) (by omega)]; exact v15, by rw [beM_o (by omega) (by omega)]; exact v16⟩ (by decide)) (by decide) ?_
  show WP _ _ 91 _ [] _
  have hbb : ∀ a, a ≠ k + 6 → a ≠ k + 7 → a ≠ k + 9 → a ≠ k + 10 → beM (beM μ5 (k + 6) 18) (k + 9) 6 a = μ5 a := by
    intro a h1 h2 h3 h4
    rw [beM_o h3 h4, beM_o h1 h2]
  refine a_ret (ad' := x1 :: x2 :: x3 :: x4 :: x5 :: y1 :: (z1 ++ y2 :: z2)) (L := LFl) G ?_ rfl dX1_init_91 ?_
  · simp [hz1, hz2, LFl]
  refine ⟨?_, k, rfl, hlen, hfl _ ?_ ?_ ?_, ?_, ?_, ?_, ?_, ?_, ?_, ?_, ?_, ?_, ?_, ?_⟩
  · intro a ha
    rw [hbb a (by omega) (by omega) (by omega) (by omega)]
    exact v0 a ha
  · intro j h1 h2
    rw [hbb k (by omega) (by omega) (by omega) (by omega)]
  · intro j hj
    rw [beM_o (by omega) (by omega)]
    rcases (by omega : j = 0 ∨ j = 1) with rfl | rfl <;> simp [beM, ud]
  · intro j hj
    rcases (by omega : j = 0 ∨ j = 1) with rfl | rfl <;> simp [beM, ud]
  · rw [hbb k (by omega) (by omega) (by omega) (by omega)]; exact v1
  · rw [hbb k (by omega) (by omega) (by omega) (by omega)]; exact v2
  · rw [hbb k (by omega) (by omega) (by omega) (by omega)]; exact v3
  · rw [hbb k (by omega) (by omega) (by omega) (by omega)]; exact v4
  · intro b
    rw [hbb _ (by omega) (by omega) (by omega) (by omega)]; exact v12 b
  · rw [beM_o (by omega) (by omega)]; simp [beM, ud]
  · rw [beM_o (by omega) (by omega)]; simp [beM, ud]
  · rw [beM_o (by omega) (by omega)]; simp [beM, ud]
  · simp [beM, ud]
  · simp [beM, ud]
  · simp [beM, ud]
