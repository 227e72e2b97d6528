/-! the class's constructor -/
theorem wp_v {M : Md} {Γ : Cx} {pc t : Nat} {env : Ev} {st : List Vl} {μ : Mem} {v v' : Int} (h : v = v') (k : WP M Γ pc env ((t, v') :: st) μ) : WP M Γ pc env ((t, v) :: st) μ := by rw [h]; exact k
theorem le_of_rf {v : Int} {k : Nat} (h : v = rf k) : 0 ≤ v := by rw [h]; exact rf_nn k
def preC (sh : Shp) (as : List Vl) (μ : Mem) : Prop := sh = [(11, 0)] ∧ as = [(2, rf 0)] ∧ ∀ j, μ 0 j = dv (11, 0) j
def LCl : Shp := [(10, 0), (102, 1000), (1, 0), (100, 12), (100, 12), (100, 144), (100, 6), (100, 6), (4, 0), (100, 1000), (100, 32), (4, 0), (100, 1000), (100, 32), (1, 0), (100, 12), (100, 12), (100, 144), (100, 6), (100, 6), (4, 0), (100, 1000), (100, 32), (4, 0), (100, 1000), (100, 32), (8, 0), (101, 12), (101, 6), (6, 0), (100, 12), (100, 12), (100, 12), (100, 144), (6, 0), (100, 12), (100, 12), (100, 12), (100, 144), (2, 0), (100, 24), (100, 24), (100, 24), (7, 0), (116, 12), (6, 0), (100, 12), (100, 12), (100, 12), (100, 144), (6, 0), (100, 12), (100, 12), (100, 12), (100, 144), (6, 0), (100, 12), (100, 12), (100, 12), (100, 144), (6, 0), (100, 12), (100, 12), (100, 12), (100, 144), (6, 0), (100, 12), (100, 12), (100, 12), (100, 144), (6, 0), (100, 12), (100, 12), (100, 12), (100, 144), (6, 0), (100, 12), (100, 12), (100, 12), (100, 144), (6, 0), (100, 12), (100, 12), (100, 12), (100, 144), (6, 0), (100, 12), (100, 12), (100, 12), (100, 144), (6, 0), (100, 12), (100, 12), (100, 12), (100, 144), (6, 0), (100, 12), (100, 12), (100, 12), (100, 144), (6, 0), (100, 12), (100, 12), (100, 12), (100, 144), (0, 0), (100, 16), (100, 12), (100, 24), (3, 0), (100, 16), (100, 24), (100, 24), (5, 0), (100, 16), (101, 4096), (9, 0), (100, 6), (100, 6), (100, 24), (116, 4), (112, 4), (6, 0), (100, 12), (100, 12), (100, 12), (100, 144), (2, 0), (100, 24), (100, 24), (100, 24), (6, 0), (100, 12), (100, 12), (100, 12), (100, 144), (2, 0), (100, 24), (100, 24), (100, 24), (6, 0), (100, 12), (100, 12), (100, 12), (100, 144), (2, 0), (100, 24), (100, 24), (100, 24), (6, 0), (100, 12), (100, 12), (100, 12), (100, 144), (2, 0), (100, 24), (100, 24), (100, 24)]
set_option maxRecDepth 100000 in
set_option maxHeartbeats 8000000 in
theorem nX11_init : MN yX11_init cX11_init 2 6 LCl preC (fun _ _ _ μ' => True) := by
  refine MN_of (by decide) rfl ?_
  intro p l e s m args below meth c D ad sh μ as hp hs hin hxk hA G
  obtain ⟨rfl, rfl, h0⟩ := hp
  have f14 : μ 0 14 = 0 := h0 14
  refine ⟨by simp [enA], ?_⟩
  refine r_aload_n G dX11_init_0 rfl rfl ?_
  refine a_obj G oj_X11_1 oi_1 oi_2 dX11_init_1 (by decide) (by decide) ?_
  refine r_aload_n G dX11_init_4 rfl rfl ?_
  refine a_new G hA (ci := 10) (T := TX10) (N := 7) (ty := tyX10) rfl (by decide) inT10 tyX10_ok nw_X11_7 oo_10.1 oo_10.2 dfs_10 (by decide) (by decide) dX11_init_5 (fun y1 G => ?_)
  refine r_dup G dX11_init_8 (by decide) ?_
  refine a_callN (as := []) G hA hxk nX10_init oo_10.2 ow_10.2 (by decide +kernel) (by decide) hxk.2.2.1 rfl ow_10.1 dX11_init_9 (by decide) rfl ⟨1, rfl, rfl, rfl, fun j => congrFun (nwM_n (μ := μ) (n := 1) (q := (10, 0))) j⟩ (by simp [wd]) (by decide) (by decide) (fun z1 μc1 hpo1 hz1 G => ?_)
  refine a_putF (st := []) G hin ff_X11_10 (fun x => ⟨rfl, rfl⟩) dX11_init_12 rfl ?_
  have kp1 : ∀ a, a < 1 → μc1 a = μ a := by
    intro a ha
    rw [hpo1.1 a (by show a + 1 < 2; omega), nwM_o (by show a ≠ 1; omega)]
  refine wp_mem (fun z => z = ud μc1 0 0 (rf 1)) rfl (fun μd1 hd1 => ?_)
  have H1 : ∀ a, 1 ≤ a → a < 1 → μd1 a = μ a := by
    intro a h1 h2
    rw [hd1, ud_o (by omega), kp1 a h2]
  have Kn1 : ∀ a, 1 ≤ a → a < 3 → μd1 a = μc1 a := by
    intro a h1 h2
    rw [hd1, ud_o (by omega)]
  have K1 := Kn1
  have f0 : μd1 0 0 = rf 1 := by rw [hd1, ud_s]
  have f14 : μd1 0 14 = 0 := by rw [hd1, ud_j (by decide), kp1 0 (by decide)]; exact f14
  clear H1 kp1 hd1 Kn1
  refine r_aload_n G dX11_init_15 rfl rfl ?_
  refine a_new G hA (ci := 1) (T := TX1) (N := 11) (ty := tyX1) rfl (by decide) inT1 tyX1_ok nw_X11_16 oo_1.1 oo_1.2 dfs_1 (by decide) (by decide) dX11_init_16 (fun y2 G => ?_)
  refine r_dup G dX11_init_19 (by decide) ?_
  refine a_callI (as := []) G hA hxk nX1_init ci_X11_18 rfl ow_1.1 dX11_init_20 (by decide) rfl ⟨3, rfl, rfl, rfl, fun j => congrFun (nwM_n (μ := μd1) (n := 3) (q := (1, 0))) j⟩ (by simp [wd]) (by decide) (by decide) (fun z2 μc2 hpo2 hz2 G => ?_)
  refine r_putf (st := []) G fp_X11_19 dX11_init_23 (nn := 0) rfl ⟨rfl, rf_nn 3⟩ ?_
  have kp2 : ∀ a, a < 3 → μc2 a = μd1 a := by
    intro a ha
    rw [hpo2.1 a (by show a + 1 < 4; omega), nwM_o (by show a ≠ 3; omega)]
  refine wp_mem (fun z => z = ud μc2 0 1 (rf 3)) rfl (fun μd2 hd2 => ?_)
  have H2 : ∀ a, 1 ≤ a → a < 3 → μd2 a = μd1 a := by
    intro a h1 h2
    rw [hd2, ud_o (by omega), kp2 a h2]
  have Kn2 : ∀ a, 3 ≤ a → a < 15 → μd2 a = μc2 a := by
    intro a h1 h2
    rw [hd2, ud_o (by omega)]
  have K1 : ∀ a, 1 ≤ a → a < 3 → μd2 a = μc1 a := fun a h1 h2 => (H2 a (by omega) (by omega)).trans (K1 a h1 h2)
  have K2 := Kn2
  have f0 : μd2 0 0 = rf 1 := by rw [hd2, ud_j (by decide), kp2 0 (by decide)]; exact f0
  have f1 : μd2 0 1 = rf 3 := by rw [hd2, ud_s]
  have f14 : μd2 0 14 = 0 := by rw [hd2, ud_j (by decide), kp2 0 (by decide)]; exact f14
  clear H2 kp2 hd2 Kn2
  refine r_aload_n G dX11_init_26 rfl rfl ?_
  refine a_new G hA (ci := 1) (T := TX1) (N := 11) (ty := tyX1) rfl (by decide) inT1 tyX1_ok nw_X11_16 oo_1.1 oo_1.2 dfs_1 (by decide) (by decide) dX11_init_27 (fun y3 G => ?_)
  refine r_dup G dX11_init_30 (by decide) ?_
  refine a_callI (as := []) G hA hxk nX1_init ci_X11_18 rfl ow_1.1 dX11_init_31 (by decide) rfl ⟨15, rfl, rfl, rfl, fun j => congrFun (nwM_n (μ := μd2) (n := 15) (q := (1, 0))) j⟩ (by simp [wd]) (by decide) (by decide) (fun z3 μc3 hpo3 hz3 G => ?_)
  refine r_putf (st := []) G fp_X11_23 dX11_init_34 (nn := 0) rfl ⟨rfl, rf_nn 15⟩ ?_
  have kp3 : ∀ a, a < 15 → μc3 a = μd2 a := by
    intro a ha
    rw [hpo3.1 a (by show a + 1 < 16; omega), nwM_o (by show a ≠ 15; omega)]
  refine wp_mem (fun z => z = ud μc3 0 2 (rf 15)) rfl (fun μd3 hd3 => ?_)
  have H3 : ∀ a, 1 ≤ a → a < 15 → μd3 a = μd2 a := by
    intro a h1 h2
    rw [hd3, ud_o (by omega), kp3 a h2]
  have Kn3 : ∀ a, 15 ≤ a → a < 27 → μd3 a = μc3 a := by
    intro a h1 h2
    rw [hd3, ud_o (by omega)]
  have K1 : ∀ a, 1 ≤ a → a < 3 → μd3 a = μc1 a := fun a h1 h2 => (H3 a (by omega) (by omega)).trans (K1 a h1 h2)
  have K2 : ∀ a, 3 ≤ a → a < 15 → μd3 a = μc2 a := fun a h1 h2 => (H3 a (by omega) (by omega)).trans (K2 a h1 h2)
  have K3 := Kn3
  have f0 : μd3 0 0 = rf 1 := by rw [hd3, ud_j (by decide), kp3 0 (by decide)]; exact f0
  have f1 : μd3 0 1 = rf 3 := by rw [hd3, ud_j (by decide), kp3 0 (by decide)]; exact f1
  have f2 : μd3 0 2 = rf 15 := by rw [hd3, ud_s]
  have f14 : μd3 0 14 = 0 := by rw [hd3, ud_j (by decide), kp3 0 (by decide)]; exact f14
  have fd9 : μc3 15 9 = rf 21 := by
    obtain ⟨-, kk, hkk, hkl, ke⟩ := hpo3
    have hkk : kk = 15 := by have h9 : 16 = kk + 1 := hkl; omega
    subst hkk
    exact ke.1.2.2.2.2.2.2.2.2.2.2.2.2.2.2.2.2.2.1
  clear H3 kp3 hd3 Kn3
  refine r_aload_n G dX11_init_37 rfl rfl ?_
  refine a_new G hA (ci := 8) (T := TX8) (N := 7) (ty := tyX8) rfl (by decide) inT8 tyX8_ok nw_X11_26 oo_8.1 oo_8.2 dfs_8 (by decide) (by decide) dX11_init_38 (fun y4 G => ?_)
  refine r_dup G dX11_init_41 (by decide) ?_
  refine r_aload_n G dX11_init_42 rfl rfl ?_
  have w1 : nwM μd3 27 (8, 0) 0 0 = rf 1 := by rw [nwM_o (by omega)]; exact f0
  have w2 : nwM μd3 27 (8, 0) 0 2 = rf 15 := by rw [nwM_o (by omega)]; exact f2
  have w3 : nwM μd3 27 (8, 0) 15 9 = rf 21 := by rw [nwM_o (by omega), K3 15 (by omega) (by omega)]; exact fd9
  refine r_getf G fl_X11_10 dX11_init_43 (nn := 0) rfl (fun _ => le_of_rf w1) ?_
  refine wp_v (v' := rf 1) w1 ?_
  refine r_aload_n G dX11_init_46 rfl rfl ?_
  refine r_getf G fl_X11_23 dX11_init_47 (nn := 0) rfl (fun _ => le_of_rf w2) ?_
  refine wp_v (v' := rf 15) w2 ?_
  refine a_callI (as := [(2, rf 1), (2, rf 15)]) G hA hxk nX8_init ci_X11_28 rfl ow_8.1 dX11_init_50 (by decide) rfl ⟨27, 1, 15, 21, 0, 0, rfl, rfl, rfl, rfl, rfl, by decide, w3, fun j => congrFun (nwM_n (μ := μd3) (n := 27) (q := (8, 0))) j⟩ (by simp [wd]) (by decide) (by decide) (fun z4 μc4 hpo4 hz4 G => ?_)
  refine a_putF (st := []) G hin ff_X11_31 (fun x => ⟨rfl, rfl⟩) dX11_init_53 rfl ?_
  have kp4 : ∀ a, a < 27 → μc4 a = μd3 a := by
    intro a ha
    rw [hpo4.1 a (by show a + 1 < 28; omega), nwM_o (by show a ≠ 27; omega)]
  refine wp_mem (fun z => z = ud μc4 0 3 (rf 27)) rfl (fun μd4 hd4 => ?_)
  have H4 : ∀ a, 1 ≤ a → a < 27 → μd4 a = μd3 a := by
    intro a h1 h2
    rw [hd4, ud_o (by omega), kp4 a h2]
  have Kn4 : ∀ a, 27 ≤ a → a < 30 → μd4 a = μc4 a := by
    intro a h1 h2
    rw [hd4, ud_o (by omega)]
  have K1 : ∀ a, 1 ≤ a → a < 3 → μd4 a = μc1 a := fun a h1 h2 => (H4 a (by omega) (by omega)).trans (K1 a h1 h2)
  have K2 : ∀ a, 3 ≤ a → a < 15 → μd4 a = μc2 a := fun a h1 h2 => (H4 a (by omega) (by omega)).trans (K2 a h1 h2)
  have K3 : ∀ a, 15 ≤ a → a < 27 → μd4 a = μc3 a := fun a h1 h2 => (H4 a (by omega) (by omega)).trans (K3 a h1 h2)
  have K4 := Kn4
  have f0 : μd4 0 0 = rf 1 := by rw [hd4, ud_j (by decide), kp4 0 (by decide)]; exact f0
  have f1 : μd4 0 1 = rf 3 := by rw [hd4, ud_j (by decide), kp4 0 (by decide)]; exact f1
  have f2 : μd4 0 2 = rf 15 := by rw [hd4, ud_j (by decide), kp4 0 (by decide)]; exact f2
  have f3 : μd4 0 3 = rf 27 := by rw [hd4, ud_s]
  have f14 : μd4 0 14 = 0 := by rw [hd4, ud_j (by decide), kp4 0 (by decide)]; exact f14
  clear H4 kp4 hd4 Kn4
  refine r_aload_n G dX11_init_56 rfl rfl ?_
  refine a_new G hA (ci := 6) (T := TX6) (N := 6) (ty := tyX6) rfl (by decide) inT6 tyX6_ok nw_X11_35 oo_6.1 oo_6.2 dfs_6 (by decide) (by decide) dX11_init_57 (fun y5 G => ?_)
  refine r_dup G dX11_init_60 (by decide) ?_
  refine a_callI (as := []) G hA hxk nX6_init ci_X11_37 rfl ow_6.1 dX11_init_61 (by decide) rfl ⟨30, rfl, rfl, rfl, fun j => congrFun (nwM_n (μ := μd4) (n := 30) (q := (6, 0))) j⟩ (by simp [wd]) (by decide) (by decide) (fun z5 μc5 hpo5 hz5 G => ?_)
  refine a_putF (st := []) G hin ff_X11_38 (fun x => ⟨rfl, rfl⟩) dX11_init_64 rfl ?_
  have kp5 : ∀ a, a < 30 → μc5 a = μd4 a := by
    intro a ha
    rw [hpo5.1 a (by show a + 1 < 31; omega), nwM_o (by show a ≠ 30; omega)]
  refine wp_mem (fun z => z = ud μc5 0 4 (rf 30)) rfl (fun μd5 hd5 => ?_)
  have H5 : ∀ a, 1 ≤ a → a < 30 → μd5 a = μd4 a := by
    intro a h1 h2
    rw [hd5, ud_o (by omega), kp5 a h2]
  have Kn5 : ∀ a, 30 ≤ a → a < 35 → μd5 a = μc5 a := by
    intro a h1 h2
    rw [hd5, ud_o (by omega)]
  have K1 : ∀ a, 1 ≤ a → a < 3 → μd5 a = μc1 a := fun a h1 h2 => (H5 a (by omega) (by omega)).trans (K1 a h1 h2)
  have K2 : ∀ a, 3 ≤ a → a < 15 → μd5 a = μc2 a := fun a h1 h2 => (H5 a (by omega) (by omega)).trans (K2 a h1 h2)
  have K3 : ∀ a, 15 ≤ a → a < 27 → μd5 a = μc3 a := fun a h1 h2 => (H5 a (by omega) (by omega)).trans (K3 a h1 h2)
  have K4 : ∀ a, 27 ≤ a → a < 30 → μd5 a = μc4 a := fun a h1 h2 => (H5 a (by omega) (by omega)).trans (K4 a h1 h2)
  have K5 := Kn5
  have f0 : μd5 0 0 = rf 1 := by rw [hd5, ud_j (by decide), kp5 0 (by decide)]; exact f0
  have f1 : μd5 0 1 = rf 3 := by rw [hd5, ud_j (by decide), kp5 0 (by decide)]; exact f1
  have f2 : μd5 0 2 = rf 15 := by rw [hd5, ud_j (by decide), kp5 0 (by decide)]; exact f2
  have f3 : μd5 0 3 = rf 27 := by rw [hd5, ud_j (by decide), kp5 0 (by decide)]; exact f3
  have f4 : μd5 0 4 = rf 30 := by rw [hd5, ud_s]
  have f14 : μd5 0 14 = 0 := by rw [hd5, ud_j (by decide), kp5 0 (by decide)]; exact f14
  clear H5 kp5 hd5 Kn5
  refine r_aload_n G dX11_init_67 rfl rfl ?_
  refine a_new G hA (ci := 6) (T := TX6) (N := 6) (ty := tyX6) rfl (by decide) inT6 tyX6_ok nw_X11_35 oo_6.1 oo_6.2 dfs_6 (by decide) (by decide) dX11_init_68 (fun y6 G => ?_)
  refine r_dup G dX11_init_71 (by decide) ?_
  refine a_callI (as := []) G hA hxk nX6_init ci_X11_37 rfl ow_6.1 dX11_init_72 (by decide) rfl ⟨35, rfl, rfl, rfl, fun j => congrFun (nwM_n (μ := μd5) (n := 35) (q := (6, 0))) j⟩ (by simp [wd]) (by decide) (by decide) (fun z6 μc6 hpo6 hz6 G => ?_)
  refine a_putF (st := []) G hin ff_X11_42 (fun x => ⟨rfl, rfl⟩) dX11_init_75 rfl ?_
  have kp6 : ∀ a, a < 35 → μc6 a = μd5 a := by
    intro a ha
    rw [hpo6.1 a (by show a + 1 < 36; omega), nwM_o (by show a ≠ 35; omega)]
  refine wp_mem (fun z => z = ud μc6 0 5 (rf 35)) rfl (fun μd6 hd6 => ?_)
  have H6 : ∀ a, 1 ≤ a → a < 35 → μd6 a = μd5 a := by
    intro a h1 h2
    rw [hd6, ud_o (by omega), kp6 a h2]
  have Kn6 : ∀ a, 35 ≤ a → a < 40 → μd6 a = μc6 a := by
    intro a h1 h2
    rw [hd6, ud_o (by omega)]
  have K1 : ∀ a, 1 ≤ a → a < 3 → μd6 a = μc1 a := fun a h1 h2 => (H6 a (by omega) (by omega)).trans (K1 a h1 h2)
  have K2 : ∀ a, 3 ≤ a → a < 15 → μd6 a = μc2 a := fun a h1 h2 => (H6 a (by omega) (by omega)).trans (K2 a h1 h2)
  have K3 : ∀ a, 15 ≤ a → a < 27 → μd6 a = μc3 a := fun a h1 h2 => (H6 a (by omega) (by omega)).trans (K3 a h1 h2)
  have K4 : ∀ a, 27 ≤ a → a < 30 → μd6 a = μc4 a := fun a h1 h2 => (H6 a (by omega) (by omega)).trans (K4 a h1 h2)
  have K5 : ∀ a, 30 ≤ a → a < 35 → μd6 a = μc5 a := fun a h1 h2 => (H6 a (by omega) (by omega)).trans (K5 a h1 h2)
  have K6 := Kn6
  have f0 : μd6 0 0 = rf 1 := by rw [hd6, ud_j (by decide), kp6 0 (by decide)]; exact f0
  have f1 : μd6 0 1 = rf 3 := by rw [hd6, ud_j (by decide), kp6 0 (by decide)]; exact f1
  have f2 : μd6 0 2 = rf 15 := by rw [hd6, ud_j (by decide), kp6 0 (by decide)]; exact f2
  have f3 : μd6 0 3 = rf 27 := by rw [hd6, ud_j (by decide), kp6 0 (by decide)]; exact f3
  have f4 : μd6 0 4 = rf 30 := by rw [hd6, ud_j (by decide), kp6 0 (by decide)]; exact f4
  have f5 : μd6 0 5 = rf 35 := by rw [hd6, ud_s]
  have f14 : μd6 0 14 = 0 := by rw [hd6, ud_j (by decide), kp6 0 (by decide)]; exact f14
  clear H6 kp6 hd6 Kn6
  refine r_aload_n G dX11_init_78 rfl rfl ?_
  refine a_new G hA (ci := 2) (T := TX2) (N := 4) (ty := tyX2) rfl (by decide) inT2 tyX2_ok nw_X11_45 oo_2.1 oo_2.2 dfs_2 (by decide) (by decide) dX11_init_79 (fun y7 G => ?_)
  refine r_dup G dX11_init_82 (by decide) ?_
  refine a_callN (as := []) G hA hxk nX2_init oo_2.2 ow_2.2 (by decide +kernel) (by decide) hxk.2.2.2.2.1 rfl ow_2.1 dX11_init_83 (by decide) rfl ⟨40, rfl, rfl, rfl, fun j => congrFun (nwM_n (μ := μd6) (n := 40) (q := (2, 0))) j⟩ (by simp [wd]) (by decide) (by decide) (fun z7 μc7 hpo7 hz7 G => ?_)
  refine a_putF (st := []) G hin ff_X11_48 (fun x => ⟨rfl, rfl⟩) dX11_init_86 rfl ?_
  have kp7 : ∀ a, a < 40 → μc7 a = μd6 a := by
    intro a ha
    rw [hpo7.1 a (by show a + 1 < 41; omega), nwM_o (by show a ≠ 40; omega)]
  refine wp_mem (fun z => z = ud μc7 0 6 (rf 40)) rfl (fun μd7 hd7 => ?_)
  have H7 : ∀ a, 1 ≤ a → a < 40 → μd7 a = μd6 a := by
    intro a h1 h2
    rw [hd7, ud_o (by omega), kp7 a h2]
  have Kn7 : ∀ a, 40 ≤ a → a < 44 → μd7 a = μc7 a := by
    intro a h1 h2
    rw [hd7, ud_o (by omega)]
  have K1 : ∀ a, 1 ≤ a → a < 3 → μd7 a = μc1 a := fun a h1 h2 => (H7 a (by omega) (by omega)).trans (K1 a h1 h2)
  have K2 : ∀ a, 3 ≤ a → a < 15 → μd7 a = μc2 a := fun a h1 h2 => (H7 a (by omega) (by omega)).trans (K2 a h1 h2)
  have K3 : ∀ a, 15 ≤ a → a < 27 → μd7 a = μc3 a := fun a h1 h2 => (H7 a (by omega) (by omega)).trans (K3 a h1 h2)
  have K4 : ∀ a, 27 ≤ a → a < 30 → μd7 a = μc4 a := fun a h1 h2 => (H7 a (by omega) (by omega)).trans (K4 a h1 h2)
  have K5 : ∀ a, 30 ≤ a → a < 35 → μd7 a = μc5 a := fun a h1 h2 => (H7 a (by omega) (by omega)).trans (K5 a h1 h2)
  have K6 : ∀ a, 35 ≤ a → a < 40 → μd7 a = μc6 a := fun a h1 h2 => (H7 a (by omega) (by omega)).trans (K6 a h1 h2)
  have K7 := Kn7
  have f0 : μd7 0 0 = rf 1 := by rw [hd7, ud_j (by decide), kp7 0 (by decide)]; exact f0
  have f1 : μd7 0 1 = rf 3 := by rw [hd7, ud_j (by decide), kp7 0 (by decide)]; exact f1
  have f2 : μd7 0 2 = rf 15 := by rw [hd7, ud_j (by decide), kp7 0 (by decide)]; exact f2
  have f3 : μd7 0 3 = rf 27 := by rw [hd7, ud_j (by decide), kp7 0 (by decide)]; exact f3
  have f4 : μd7 0 4 = rf 30 := by rw [hd7, ud_j (by decide), kp7 0 (by decide)]; exact f4
  have f5 : μd7 0 5 = rf 35 := by rw [hd7, ud_j (by decide), kp7 0 (by decide)]; exact f5
  have f6 : μd7 0 6 = rf 40 := by rw [hd7, ud_s]
  have f14 : μd7 0 14 = 0 := by rw [hd7, ud_j (by decide), kp7 0 (by decide)]; exact f14
  clear H7 kp7 hd7 Kn7
  refine r_aload_n G dX11_init_89 rfl rfl ?_
  refine a_new G hA (ci := 7) (T := TX7) (N := 3) (ty := tyX7) rfl (by decide) inT7 tyX7_ok nw_X11_52 oo_7.1 oo_7.2 dfs_7 (by decide) (by decide) dX11_init_90 (fun y8 G => ?_)
  refine r_dup G dX11_init_93 (by decide) ?_
  refine a_callI (as := []) G hA hxk nX7_init ci_X11_54 rfl ow_7.1 dX11_init_94 (by decide) rfl ⟨44, rfl, rfl, rfl, fun j => congrFun (nwM_n (μ := μd7) (n := 44) (q := (7, 0))) j⟩ (by simp [wd]) (by decide) (by decide) (fun z8 μc8 hpo8 hz8 G => ?_)
  refine a_putF (st := []) G hin ff_X11_55 (fun x => ⟨rfl, rfl⟩) dX11_init_97 rfl ?_
  have kp8 : ∀ a, a < 44 → μc8 a = μd7 a := by
    intro a ha
    obtain ⟨kk, hkk, hkl, kq⟩ := hpo8
    rw [kq.1 a (by show a + 1 < 45; omega), nwM_o (by show a ≠ 44; omega)]
  refine wp_mem (fun z => z = ud μc8 0 7 (rf 44)) rfl (fun μd8 hd8 => ?_)
  have H8 : ∀ a, 1 ≤ a → a < 44 → μd8 a = μd7 a := by
    intro a h1 h2
    rw [hd8, ud_o (by omega), kp8 a h2]
  have Kn8 : ∀ a, 44 ≤ a → a < 106 → μd8 a = μc8 a := by
    intro a h1 h2
    rw [hd8, ud_o (by omega)]
  have K1 : ∀ a, 1 ≤ a → a < 3 → μd8 a = μc1 a := fun a h1 h2 => (H8 a (by omega) (by omega)).trans (K1 a h1 h2)
  have K2 : ∀ a, 3 ≤ a → a < 15 → μd8 a = μc2 a := fun a h1 h2 => (H8 a (by omega) (by omega)).trans (K2 a h1 h2)
  have K3 : ∀ a, 15 ≤ a → a < 27 → μd8 a = μc3 a := fun a h1 h2 => (H8 a (by omega) (by omega)).trans (K3 a h1 h2)
  have K4 : ∀ a, 27 ≤ a → a < 30 → μd8 a = μc4 a := fun a h1 h2 => (H8 a (by omega) (by omega)).trans (K4 a h1 h2)
  have K5 : ∀ a, 30 ≤ a → a < 35 → μd8 a = μc5 a := fun a h1 h2 => (H8 a (by omega) (by omega)).trans (K5 a h1 h2)
  have K6 : ∀ a, 35 ≤ a → a < 40 → μd8 a = μc6 a := fun a h1 h2 => (H8 a (by omega) (by omega)).trans (K6 a h1 h2)
  have K7 : ∀ a, 40 ≤ a → a < 44 → μd8 a = μc7 a := fun a h1 h2 => (H8 a (by omega) (by omega)).trans (K7 a h1 h2)
  have K8 := Kn8
  have f0 : μd8 0 0 = rf 1 := by rw [hd8, ud_j (by decide), kp8 0 (by decide)]; exact f0
  have f1 : μd8 0 1 = rf 3 := by rw [hd8, ud_j (by decide), kp8 0 (by decide)]; exact f1
  have f2 : μd8 0 2 = rf 15 := by rw [hd8, ud_j (by decide), kp8 0 (by decide)]; exact f2
  have f3 : μd8 0 3 = rf 27 := by rw [hd8, ud_j (by decide), kp8 0 (by decide)]; exact f3
  have f4 : μd8 0 4 = rf 30 := by rw [hd8, ud_j (by decide), kp8 0 (by decide)]; exact f4
  have f5 : μd8 0 5 = rf 35 := by rw [hd8, ud_j (by decide), kp8 0 (by decide)]; exact f5
  have f6 : μd8 0 6 = rf 40 := by rw [hd8, ud_j (by decide), kp8 0 (by decide)]; exact f6
  have f7 : μd8 0 7 = rf 44 := by rw [hd8, ud_s]
  have f14 : μd8 0 14 = 0 := by rw [hd8, ud_j (by decide), kp8 0 (by decide)]; exact f14
  clear H8 kp8 hd8 Kn8
  refine r_aload_n G dX11_init_100 rfl rfl ?_
  refine a_new G hA (ci := 0) (T := TX0) (N := 3) (ty := tyX0) rfl (by decide) inT0 tyX0_ok nw_X11_59 oo_0.1 oo_0.2 dfs_0 (by decide) (by decide) dX11_init_101 (fun y9 G => ?_)
  refine r_dup G dX11_init_104 (by decide) ?_
  refine a_callN (as := []) G hA hxk nX0_init oo_0.2 ow_0.2 (by decide +kernel) (by decide) hxk.2.2.2.2.2.1 rfl ow_0.1 dX11_init_105 (by decide) rfl ⟨106, rfl, rfl, rfl, fun j => congrFun (nwM_n (μ := μd8) (n := 106) (q := (0, 0))) j⟩ (by simp [wd]) (by decide) (by decide) (fun z9 μc9 hpo9 hz9 G => ?_)
  refine a_putF (st := []) G hin ff_X11_62 (fun x => ⟨rfl, rfl⟩) dX11_init_108 rfl ?_
  have kp9 : ∀ a, a < 106 → μc9 a = μd8 a := by
    intro a ha
    rw [hpo9.1 a (by show a + 1 < 107; omega), nwM_o (by show a ≠ 106; omega)]
  refine wp_mem (fun z => z = ud μc9 0 8 (rf 106)) rfl (fun μd9 hd9 => ?_)
  have H9 : ∀ a, 1 ≤ a → a < 106 → μd9 a = μd8 a := by
    intro a h1 h2
    rw [hd9, ud_o (by omega), kp9 a h2]
  have Kn9 : ∀ a, 106 ≤ a → a < 110 → μd9 a = μc9 a := by
    intro a h1 h2
    rw [hd9, ud_o (by omega)]
  have K1 : ∀ a, 1 ≤ a → a < 3 → μd9 a = μc1 a := fun a h1 h2 => (H9 a (by omega) (by omega)).trans (K1 a h1 h2)
  have K2 : ∀ a, 3 ≤ a → a < 15 → μd9 a = μc2 a := fun a h1 h2 => (H9 a (by omega) (by omega)).trans (K2 a h1 h2)
  have K3 : ∀ a, 15 ≤ a → a < 27 → μd9 a = μc3 a := fun a h1 h2 => (H9 a (by omega) (by omega)).trans (K3 a h1 h2)
  have K4 : ∀ a, 27 ≤ a → a < 30 → μd9 a = μc4 a := fun a h1 h2 => (H9 a (by omega) (by omega)).trans (K4 a h1 h2)
  have K5 : ∀ a, 30 ≤ a → a < 35 → μd9 a = μc5 a := fun a h1 h2 => (H9 a (by omega) (by omega)).trans (K5 a h1 h2)
  have K6 : ∀ a, 35 ≤ a → a < 40 → μd9 a = μc6 a := fun a h1 h2 => (H9 a (by omega) (by omega)).trans (K6 a h1 h2)
  have K7 : ∀ a, 40 ≤ a → a < 44 → μd9 a = μc7 a := fun a h1 h2 => (H9 a (by omega) (by omega)).trans (K7 a h1 h2)
  have K8 : ∀ a, 44 ≤ a → a < 106 → μd9 a = μc8 a := fun a h1 h2 => (H9 a (by omega) (by omega)).trans (K8 a h1 h2)
  have K9 := Kn9
  have f0 : μd9 0 0 = rf 1 := by rw [hd9, ud_j (by decide), kp9 0 (by decide)]; exact f0
  have f1 : μd9 0 1 = rf 3 := by rw [hd9, ud_j (by decide), kp9 0 (by decide)]; exact f1
  have f2 : μd9 0 2 = rf 15 := by rw [hd9, ud_j (by decide), kp9 0 (by decide)]; exact f2
  have f3 : μd9 0 3 = rf 27 := by rw [hd9, ud_j (by decide), kp9 0 (by decide)]; exact f3
  have f4 : μd9 0 4 = rf 30 := by rw [hd9, ud_j (by decide), kp9 0 (by decide)]; exact f4
  have f5 : μd9 0 5 = rf 35 := by rw [hd9, ud_j (by decide), kp9 0 (by decide)]; exact f5
  have f6 : μd9 0 6 = rf 40 := by rw [hd9, ud_j (by decide), kp9 0 (by decide)]; exact f6
  have f7 : μd9 0 7 = rf 44 := by rw [hd9, ud_j (by decide), kp9 0 (by decide)]; exact f7
  have f8 : μd9 0 8 = rf 106 := by rw [hd9, ud_s]
  have f14 : μd9 0 14 = 0 := by rw [hd9, ud_j (by decide), kp9 0 (by decide)]; exact f14
  clear H9 kp9 hd9 Kn9
  refine r_aload_n G dX11_init_111 rfl rfl ?_
  refine a_new G hA (ci := 3) (T := TX3) (N := 8) (ty := tyX3) rfl (by decide) inT3 tyX3_ok nw_X11_66 oo_3.1 oo_3.2 dfs_3 (by decide) (by decide) dX11_init_112 (fun y10 G => ?_)
  refine r_dup G dX11_init_115 (by decide) ?_
  refine a_callN (as := []) G hA hxk nX3_init oo_3.2 ow_3.2 (by decide +kernel) (by decide) hxk.2.2.2.2.2.2.1 rfl ow_3.1 dX11_init_116 (by decide) rfl ⟨110, rfl, rfl, rfl, fun j => congrFun (nwM_n (μ := μd9) (n := 110) (q := (3, 0))) j⟩ (by simp [wd]) (by decide) (by decide) (fun z10 μc10 hpo10 hz10 G => ?_)
  refine a_putF (st := []) G hin ff_X11_69 (fun x => ⟨rfl, rfl⟩) dX11_init_119 rfl ?_
  have kp10 : ∀ a, a < 110 → μc10 a = μd9 a := by
    intro a ha
    rw [hpo10.1 a (by show a + 1 < 111; omega), nwM_o (by show a ≠ 110; omega)]
  refine wp_mem (fun z => z = ud μc10 0 9 (rf 110)) rfl (fun μd10 hd10 => ?_)
  have H10 : ∀ a, 1 ≤ a → a < 110 → μd10 a = μd9 a := by
    intro a h1 h2
    rw [hd10, ud_o (by omega), kp10 a h2]
  have Kn10 : ∀ a, 110 ≤ a → a < 114 → μd10 a = μc10 a := by
    intro a h1 h2
    rw [hd10, ud_o (by omega)]
  have K1 : ∀ a, 1 ≤ a → a < 3 → μd10 a = μc1 a := fun a h1 h2 => (H10 a (by omega) (by omega)).trans (K1 a h1 h2)
  have K2 : ∀ a, 3 ≤ a → a < 15 → μd10 a = μc2 a := fun a h1 h2 => (H10 a (by omega) (by omega)).trans (K2 a h1 h2)
  have K3 : ∀ a, 15 ≤ a → a < 27 → μd10 a = μc3 a := fun a h1 h2 => (H10 a (by omega) (by omega)).trans (K3 a h1 h2)
  have K4 : ∀ a, 27 ≤ a → a < 30 → μd10 a = μc4 a := fun a h1 h2 => (H10 a (by omega) (by omega)).trans (K4 a h1 h2)
  have K5 : ∀ a, 30 ≤ a → a < 35 → μd10 a = μc5 a := fun a h1 h2 => (H10 a (by omega) (by omega)).trans (K5 a h1 h2)
  have K6 : ∀ a, 35 ≤ a → a < 40 → μd10 a = μc6 a := fun a h1 h2 => (H10 a (by omega) (by omega)).trans (K6 a h1 h2)
  have K7 : ∀ a, 40 ≤ a → a < 44 → μd10 a = μc7 a := fun a h1 h2 => (H10 a (by omega) (by omega)).trans (K7 a h1 h2)
  have K8 : ∀ a, 44 ≤ a → a < 106 → μd10 a = μc8 a := fun a h1 h2 => (H10 a (by omega) (by omega)).trans (K8 a h1 h2)
  have K9 : ∀ a, 106 ≤ a → a < 110 → μd10 a = μc9 a := fun a h1 h2 => (H10 a (by omega) (by omega)).trans (K9 a h1 h2)
  have K10 := Kn10
  have f0 : μd10 0 0 = rf 1 := by rw [hd10, ud_j (by decide), kp10 0 (by decide)]; exact f0
  have f1 : μd10 0 1 = rf 3 := by rw [hd10, ud_j (by decide), kp10 0 (by decide)]; exact f1
  have f2 : μd10 0 2 = rf 15 := by rw [hd10, ud_j (by decide), kp10 0 (by decide)]; exact f2
  have f3 : μd10 0 3 = rf 27 := by rw [hd10, ud_j (by decide), kp10 0 (by decide)]; exact f3
  have f4 : μd10 0 4 = rf 30 := by rw [hd10, ud_j (by decide), kp10 0 (by decide)]; exact f4
  have f5 : μd10 0 5 = rf 35 := by rw [hd10, ud_j (by decide), kp10 0 (by decide)]; exact f5
  have f6 : μd10 0 6 = rf 40 := by rw [hd10, ud_j (by decide), kp10 0 (by decide)]; exact f6
  have f7 : μd10 0 7 = rf 44 := by rw [hd10, ud_j (by decide), kp10 0 (by decide)]; exact f7
  have f8 : μd10 0 8 = rf 106 := by rw [hd10, ud_j (by decide), kp10 0 (by decide)]; exact f8
  have f9 : μd10 0 9 = rf 110 := by rw [hd10, ud_s]
  have f14 : μd10 0 14 = 0 := by rw [hd10, ud_j (by decide), kp10 0 (by decide)]; exact f14
  clear H10 kp10 hd10 Kn10
  refine r_aload_n G dX11_init_122 rfl rfl ?_
  refine a_new G hA (ci := 5) (T := TX5) (N := 3) (ty := tyX5) rfl (by decide) inT5 tyX5_ok nw_X11_73 oo_5.1 oo_5.2 dfs_5 (by decide) (by decide) dX11_init_123 (fun y11 G => ?_)
  refine r_dup G dX11_init_126 (by decide) ?_
  refine a_callN (as := []) G hA hxk nX5_init oo_5.2 ow_5.2 (by decide +kernel) (by decide) hxk.2.2.2.2.2.2.2.1 rfl ow_5.1 dX11_init_127 (by decide) rfl ⟨114, rfl, rfl, rfl, fun j => congrFun (nwM_n (μ := μd10) (n := 114) (q := (5, 0))) j⟩ (by simp [wd]) (by decide) (by decide) (fun z11 μc11 hpo11 hz11 G => ?_)
  refine a_putF (st := []) G hin ff_X11_76 (fun x => ⟨rfl, rfl⟩) dX11_init_130 rfl ?_
  have kp11 : ∀ a, a < 114 → μc11 a = μd10 a := by
    intro a ha
    rw [hpo11.1 a (by show a + 1 < 115; omega), nwM_o (by show a ≠ 114; omega)]
  refine wp_mem (fun z => z = ud μc11 0 10 (rf 114)) rfl (fun μd11 hd11 => ?_)
  have H11 : ∀ a, 1 ≤ a → a < 114 → μd11 a = μd10 a := by
    intro a h1 h2
    rw [hd11, ud_o (by omega), kp11 a h2]
  have Kn11 : ∀ a, 114 ≤ a → a < 117 → μd11 a = μc11 a := by
    intro a h1 h2
    rw [hd11, ud_o (by omega)]
  have K1 : ∀ a, 1 ≤ a → a < 3 → μd11 a = μc1 a := fun a h1 h2 => (H11 a (by omega) (by omega)).trans (K1 a h1 h2)
  have K2 : ∀ a, 3 ≤ a → a < 15 → μd11 a = μc2 a := fun a h1 h2 => (H11 a (by omega) (by omega)).trans (K2 a h1 h2)
  have K3 : ∀ a, 15 ≤ a → a < 27 → μd11 a = μc3 a := fun a h1 h2 => (H11 a (by omega) (by omega)).trans (K3 a h1 h2)
  have K4 : ∀ a, 27 ≤ a → a < 30 → μd11 a = μc4 a := fun a h1 h2 => (H11 a (by omega) (by omega)).trans (K4 a h1 h2)
  have K5 : ∀ a, 30 ≤ a → a < 35 → μd11 a = μc5 a := fun a h1 h2 => (H11 a (by omega) (by omega)).trans (K5 a h1 h2)
  have K6 : ∀ a, 35 ≤ a → a < 40 → μd11 a = μc6 a := fun a h1 h2 => (H11 a (by omega) (by omega)).trans (K6 a h1 h2)
  have K7 : ∀ a, 40 ≤ a → a < 44 → μd11 a = μc7 a := fun a h1 h2 => (H11 a (by omega) (by omega)).trans (K7 a h1 h2)
  have K8 : ∀ a, 44 ≤ a → a < 106 → μd11 a = μc8 a := fun a h1 h2 => (H11 a (by omega) (by omega)).trans (K8 a h1 h2)
  have K9 : ∀ a, 106 ≤ a → a < 110 → μd11 a = μc9 a := fun a h1 h2 => (H11 a (by omega) (by omega)).trans (K9 a h1 h2)
  have K10 : ∀ a, 110 ≤ a → a < 114 → μd11 a = μc10 a := fun a h1 h2 => (H11 a (by omega) (by omega)).trans (K10 a h1 h2)
  have K11 := Kn11
  have f0 : μd11 0 0 = rf 1 := by rw [hd11, ud_j (by decide), kp11 0 (by decide)]; exact f0
  have f1 : μd11 0 1 = rf 3 := by rw [hd11, ud_j (by decide), kp11 0 (by decide)]; exact f1
  have f2 : μd11 0 2 = rf 15 := by rw [hd11, ud_j (by decide), kp11 0 (by decide)]; exact f2
  have f3 : μd11 0 3 = rf 27 := by rw [hd11, ud_j (by decide), kp11 0 (by decide)]; exact f3
  have f4 : μd11 0 4 = rf 30 := by rw [hd11, ud_j (by decide), kp11 0 (by decide)]; exact f4
  have f5 : μd11 0 5 = rf 35 := by rw [hd11, ud_j (by decide), kp11 0 (by decide)]; exact f5
  have f6 : μd11 0 6 = rf 40 := by rw [hd11, ud_j (by decide), kp11 0 (by decide)]; exact f6
  have f7 : μd11 0 7 = rf 44 := by rw [hd11, ud_j (by decide), kp11 0 (by decide)]; exact f7
  have f8 : μd11 0 8 = rf 106 := by rw [hd11, ud_j (by decide), kp11 0 (by decide)]; exact f8
  have f9 : μd11 0 9 = rf 110 := by rw [hd11, ud_j (by decide), kp11 0 (by decide)]; exact f9
  have f10 : μd11 0 10 = rf 114 := by rw [hd11, ud_s]
  have f14 : μd11 0 14 = 0 := by rw [hd11, ud_j (by decide), kp11 0 (by decide)]; exact f14
  clear H11 kp11 hd11 Kn11
  refine r_aload_n G dX11_init_133 rfl rfl ?_
  refine a_new G hA (ci := 9) (T := TX9) (N := 4) (ty := tyX9) rfl (by decide) inT9 tyX9_ok nw_X11_80 oo_9.1 oo_9.2 dfs_9 (by decide) (by decide) dX11_init_134 (fun y12 G => ?_)
  refine r_dup G dX11_init_137 (by decide) ?_
  refine a_callN (as := []) G hA hxk nX9_init oo_9.2 ow_9.2 (by decide +kernel) (by decide) hxk.2.2.2.2.2.2.2.2 rfl ow_9.1 dX11_init_138 (by decide) rfl ⟨117, rfl, rfl, rfl, fun j => congrFun (nwM_n (μ := μd11) (n := 117) (q := (9, 0))) j⟩ (by simp [wd]) (by decide) (by decide) (fun z12 μc12 hpo12 hz12 G => ?_)
  refine a_putF (st := []) G hin ff_X11_83 (fun x => ⟨rfl, rfl⟩) dX11_init_141 rfl ?_
  have kp12 : ∀ a, a < 117 → μc12 a = μd11 a := by
    intro a ha
    rw [hpo12.1 a (by show a + 1 < 118; omega), nwM_o (by show a ≠ 117; omega)]
  refine wp_mem (fun z => z = ud μc12 0 11 (rf 117)) rfl (fun μd12 hd12 => ?_)
  have H12 : ∀ a, 1 ≤ a → a < 117 → μd12 a = μd11 a := by
    intro a h1 h2
    rw [hd12, ud_o (by omega), kp12 a h2]
  have Kn12 : ∀ a, 117 ≤ a → a < 121 → μd12 a = μc12 a := by
    intro a h1 h2
    rw [hd12, ud_o (by omega)]
  have K1 : ∀ a, 1 ≤ a → a < 3 → μd12 a = μc1 a := fun a h1 h2 => (H12 a (by omega) (by omega)).trans (K1 a h1 h2)
  have K2 : ∀ a, 3 ≤ a → a < 15 → μd12 a = μc2 a := fun a h1 h2 => (H12 a (by omega) (by omega)).trans (K2 a h1 h2)
  have K3 : ∀ a, 15 ≤ a → a < 27 → μd12 a = μc3 a := fun a h1 h2 => (H12 a (by omega) (by omega)).trans (K3 a h1 h2)
  have K4 : ∀ a, 27 ≤ a → a < 30 → μd12 a = μc4 a := fun a h1 h2 => (H12 a (by omega) (by omega)).trans (K4 a h1 h2)
  have K5 : ∀ a, 30 ≤ a → a < 35 → μd12 a = μc5 a := fun a h1 h2 => (H12 a (by omega) (by omega)).trans (K5 a h1 h2)
  have K6 : ∀ a, 35 ≤ a → a < 40 → μd12 a = μc6 a := fun a h1 h2 => (H12 a (by omega) (by omega)).trans (K6 a h1 h2)
  have K7 : ∀ a, 40 ≤ a → a < 44 → μd12 a = μc7 a := fun a h1 h2 => (H12 a (by omega) (by omega)).trans (K7 a h1 h2)
  have K8 : ∀ a, 44 ≤ a → a < 106 → μd12 a = μc8 a := fun a h1 h2 => (H12 a (by omega) (by omega)).trans (K8 a h1 h2)
  have K9 : ∀ a, 106 ≤ a → a < 110 → μd12 a = μc9 a := fun a h1 h2 => (H12 a (by omega) (by omega)).trans (K9 a h1 h2)
  have K10 : ∀ a, 110 ≤ a → a < 114 → μd12 a = μc10 a := fun a h1 h2 => (H12 a (by omega) (by omega)).trans (K10 a h1 h2)
  have K11 : ∀ a, 114 ≤ a → a < 117 → μd12 a = μc11 a := fun a h1 h2 => (H12 a (by omega) (by omega)).trans (K11 a h1 h2)
  have K12 := Kn12
  have f0 : μd12 0 0 = rf 1 := by rw [hd12, ud_j (by decide), kp12 0 (by decide)]; exact f0
  have f1 : μd12 0 1 = rf 3 := by rw [hd12, ud_j (by decide), kp12 0 (by decide)]; exact f1
  have f2 : μd12 0 2 = rf 15 := by rw [hd12, ud_j (by decide), kp12 0 (by decide)]; exact f2
  have f3 : μd12 0 3 = rf 27 := by rw [hd12, ud_j (by decide), kp12 0 (by decide)]; exact f3
  have f4 : μd12 0 4 = rf 30 := by rw [hd12, ud_j (by decide), kp12 0 (by decide)]; exact f4
  have f5 : μd12 0 5 = rf 35 := by rw [hd12, ud_j (by decide), kp12 0 (by decide)]; exact f5
  have f6 : μd12 0 6 = rf 40 := by rw [hd12, ud_j (by decide), kp12 0 (by decide)]; exact f6
  have f7 : μd12 0 7 = rf 44 := by rw [hd12, ud_j (by decide), kp12 0 (by decide)]; exact f7
  have f8 : μd12 0 8 = rf 106 := by rw [hd12, ud_j (by decide), kp12 0 (by decide)]; exact f8
  have f9 : μd12 0 9 = rf 110 := by rw [hd12, ud_j (by decide), kp12 0 (by decide)]; exact f9
  have f10 : μd12 0 10 = rf 114 := by rw [hd12, ud_j (by decide), kp12 0 (by decide)]; exact f10
  have f11 : μd12 0 11 = rf 117 := by rw [hd12, ud_s]
  have f14 : μd12 0 14 = 0 := by rw [hd12, ud_j (by decide), kp12 0 (by decide)]; exact f14
  clear H12 kp12 hd12 Kn12
  sorry
