/-! the class's constructor -/
theorem wp_v {M : Md} {Γ : Cx} {pc t : Nat} {env : Ev} {st : List Vl} {μ : Mem} {v v' : Int} (h : v = v') (k : WP M Γ pc env ((t, v') :: st) μ) : WP M Γ pc env ((t, v) :: st) μ := by rw [h]; exact k
theorem le_of_rf {v : Int} {k : Nat} (h : v = rf k) : 0 ≤ v := by rw [h]; exact rf_nn k
def preC (sh : Shp) (as : List Vl) (μ : Mem) : Prop := sh = [(11, 0)] ∧ as = [(2, rf 0)] ∧ ∀ j, μ 0 j = dv (11, 0) j
def LCl : Shp := [(10, 0), (102, 1000), (1, 0), (100, 12), (100, 12), (100, 144), (100, 6), (100, 6), (4, 0), (100, 1000), (100, 32), (4, 0), (100, 1000), (100, 32), (1, 0), (100, 12), (100, 12), (100, 144), (100, 6), (100, 6), (4, 0), (100, 1000), (100, 32), (4, 0), (100, 1000), (100, 32), (8, 0), (101, 12), (101, 6), (6, 0), (100, 12), (100, 12), (100, 12), (100, 144), (6, 0), (100, 12), (100, 12), (100, 12), (100, 144), (2, 0), (100, 24), (100, 24), (100, 24), (7, 0), (116, 12), (6, 0), (100, 12), (100, 12), (100, 12), (100, 144), (6, 0), (100, 12), (100, 12), (100, 12), (100, 144), (6, 0), (100, 12), (100, 12), (100, 12), (100, 144), (6, 0), (100, 12), (100, 12), (100, 12), (100, 144), (6, 0), (100, 12), (100, 12), (100, 12), (100, 144), (6, 0), (100, 12), (100, 12), (100, 12), (100, 144), (6, 0), (100, 12), (100, 12), (100, 12), (100, 144), (6, 0), (100, 12), (100, 12), (100, 12), (100, 144), (6, 0), (100, 12), (100, 12), (100, 12), (100, 144), (6, 0), (100, 12), (100, 12), (100, 12), (100, 144), (6, 0), (100, 12), (100, 12), (100, 12), (100, 144), (6, 0), (100, 12), (100, 12), (100, 12), (100, 144), (0, 0), (100, 16), (100, 12), (100, 24), (3, 0), (100, 16), (100, 24), (100, 24), (5, 0), (100, 16), (101, 4096), (9, 0), (100, 6), (100, 6), (100, 24), (116, 4), (112, 4), (6, 0), (100, 12), (100, 12), (100, 12), (100, 144), (2, 0), (100, 24), (100, 24), (100, 24), (6, 0), (100, 12), (100, 12), (100, 12), (100, 144), (2, 0), (100, 24), (100, 24), (100, 24), (6, 0), (100, 12), (100, 12), (100, 12), (100, 144), (2, 0), (100, 24), (100, 24), (100, 24), (6, 0), (100, 12), (100, 12), (100, 12), (100, 144), (2, 0), (100, 24), (100, 24), (100, 24)]
def shC : Shp := (11, 0) :: LCl
def FlIn (μ : Mem) (k : Nat) : Prop := ObFl shC μ k ∧ μ k 0 = 12 ∧ μ k 1 = 0 ∧ μ k 2 = 0 ∧ μ k 3 = 0 ∧ (∀ b, μ (k + 3) b = 0) ∧ μ (k + 6) 2 = 1 ∧ μ (k + 6) 3 = 0 ∧ μ (k + 7) 0 = -19 ∧ μ (k + 9) 2 = 1 ∧ μ (k + 9) 3 = 0 ∧ μ (k + 10) 0 = -7
def LyIn (μ : Mem) (k : Nat) : Prop := ObLy shC μ k ∧ μ k 0 = 0 ∧ μ k 1 = 0 ∧ (∀ b, b < 12 → μ (k + 1) b = -1) ∧ (∀ b, b < 12 → μ (k + 2) b = -1) ∧ (∀ b, μ (k + 3) b = 0) ∧ (∀ b, μ (k + 4) b = 0)
def FgIn (μ : Mem) (k : Nat) : Prop := μ k 1 = rf (k + 1) ∧ μ k 2 = rf (k + 2) ∧ μ k 3 = rf (k + 3) ∧ μ k 0 = 0
def CIn (μ : Mem) : Prop := μ 0 0 = rf 1 ∧ μ 0 1 = rf 3 ∧ μ 0 2 = rf 15 ∧ μ 0 3 = rf 27 ∧ μ 0 4 = rf 30 ∧ μ 0 5 = rf 35 ∧ μ 0 6 = rf 40 ∧ μ 0 7 = rf 44 ∧ μ 0 8 = rf 106 ∧ μ 0 9 = rf 110 ∧ μ 0 10 = rf 114 ∧ μ 0 11 = rf 117 ∧ μ 0 12 = rf 121 ∧ μ 0 13 = rf 122 ∧ μ 0 14 = 0 ∧ (μ 1 0 = rf 2 ∧ μ 1 1 = 0) ∧ FlIn μ 3 ∧ FlIn μ 15 ∧ (μ 27 0 = rf 1 ∧ μ 27 1 = rf 28 ∧ μ 27 2 = rf 29 ∧ μ 27 3 = rf 15 ∧ μ 27 4 = rf 21) ∧ LyIn μ 30 ∧ LyIn μ 35 ∧ FgIn μ 40 ∧ (μ 44 0 = rf 45 ∧ μ 44 1 = 0 ∧ μ 44 2 = 0 ∧ ∀ j, j < 12 → μ 45 j = rf (46 + 5 * j) ∧ ObLy shC μ (46 + 5 * j)) ∧ (μ 106 0 = rf 107 ∧ μ 106 1 = rf 108 ∧ μ 106 2 = rf 109) ∧ (μ 110 5 = rf 111 ∧ μ 110 6 = rf 112 ∧ μ 110 7 = rf 113) ∧ (μ 114 1 = rf 115 ∧ μ 114 2 = rf 116) ∧ (μ 117 0 = rf 118 ∧ μ 117 1 = rf 119 ∧ μ 117 2 = rf 120) ∧ ((μ 121 0 = rf 123 ∧ LyIn μ 123 ∧ μ 122 0 = rf 128 ∧ FgIn μ 128) ∧ (μ 121 1 = rf 132 ∧ LyIn μ 132 ∧ μ 122 1 = rf 137 ∧ FgIn μ 137) ∧ (μ 121 2 = rf 141 ∧ LyIn μ 141 ∧ μ 122 2 = rf 146 ∧ FgIn μ 146) ∧ (μ 121 3 = rf 150 ∧ LyIn μ 150 ∧ μ 122 3 = rf 155 ∧ FgIn μ 155))
theorem fl_tr {sh : Shp} {as : List Vl} {μ0 μ μ' : Mem} {k : Nat} (h : I_1 sh as μ0 μ) (hk : sh.length = k + 1) (hs : ∀ (a : Nat) (q : Nat × Nat), (sh ++ LFl)[a]? = some q → shC[a]? = some q) (hm : ∀ a, k ≤ a → a < k + 12 → μ' a = μ a) : FlIn μ' k := by
  obtain ⟨-, kk, -, hkl, ho, h0, h1, h2, h3, h4, h5, h6, h7, h8, h9, h10⟩ := h
  have : kk = k := by omega
  subst this
  obtain ⟨s0, s1, s2, s3, s4, s5, s6, s7, s8, s9, s10, s11, v1, v2, v3, v4, v5, v6, v7, v8, v9, v10, v11⟩ := ho
  have m0 := hm kk (by omega) (by omega)
  have m3 := hm (kk + 3) (by omega) (by omega)
  have m6 := hm (kk + 6) (by omega) (by omega)
  have m7 := hm (kk + 7) (by omega) (by omega)
  have m9 := hm (kk + 9) (by omega) (by omega)
  have m10 := hm (kk + 10) (by omega) (by omega)
  unfold FlIn ObFl
  rw [m0, m3, m6, m7, m9, m10]
  exact ⟨⟨hs _ _ s0, hs _ _ s1, hs _ _ s2, hs _ _ s3, hs _ _ s4, hs _ _ s5, hs _ _ s6, hs _ _ s7, hs _ _ s8, hs _ _ s9, hs _ _ s10, hs _ _ s11, v1, v2, v3, v4, v5, v6, v7, v8, v9, v10, v11⟩, h0, h1, h2, h3, h4, h5, h6, h7, h8, h9, h10⟩
theorem ly_tr {sh : Shp} {as : List Vl} {μ0 μ μ' : Mem} {k : Nat} (h : I_6 sh as μ0 μ) (hk : sh.length = k + 1) (hs : ∀ (a : Nat) (q : Nat × Nat), (sh ++ [(100, 12), (100, 12), (100, 12), (100, 144)])[a]? = some q → shC[a]? = some q) (hm : ∀ a, k ≤ a → a < k + 5 → μ' a = μ a) : LyIn μ' k := by
  obtain ⟨-, kk, -, hkl, ho, h0, h1, h2, h3, h4, h5⟩ := h
  have : kk = k := by omega
  subst this
  obtain ⟨s0, s1, s2, s3, s4, v1, v2, v3, v4⟩ := ho
  have m0 := hm kk (by omega) (by omega)
  have m1 := hm (kk + 1) (by omega) (by omega)
  have m2 := hm (kk + 2) (by omega) (by omega)
  have m3 := hm (kk + 3) (by omega) (by omega)
  have m4 := hm (kk + 4) (by omega) (by omega)
  unfold LyIn ObLy
  rw [m0, m1, m2, m3, m4]
  exact ⟨⟨hs _ _ s0, hs _ _ s1, hs _ _ s2, hs _ _ s3, hs _ _ s4, v1, v2, v3, v4⟩, h0, h1, h2, h3, h4, h5⟩
theorem fg_tr {sh : Shp} {as : List Vl} {μ0 μ μ' : Mem} {k : Nat} (h : I_2 sh as μ0 μ) (hk : sh.length = k + 1) (hm : ∀ a, k ≤ a → a < k + 4 → μ' a = μ a) : FgIn μ' k := by
  obtain ⟨-, kk, -, hkl, h0⟩ := h
  have : kk = k := by omega
  subst this
  unfold FgIn
  rw [hm kk (by omega) (by omega)]
  exact h0
theorem pre_sh {a b c : Shp} (h : c = a ++ b) (i : Nat) (q : Nat × Nat) (hq : a[i]? = some q) : c[i]? = some q := by
  rw [h]
  exact lk_l hq
set_option maxRecDepth 100000 in
set_option maxHeartbeats 8000000 in
theorem nX11_init : MN yX11_init cX11_init 2 6 LCl preC (fun _ _ _ μ' => CIn μ') := by
  refine MN_of (by decide) rfl ?_
  intro p l e s m args below meth c D ad sh μ as hp hs hin hxk hA G
  obtain ⟨rfl, rfl, h0⟩ := hp
  have f14 : μ 0 14 = 0 := h0 14
  refine ⟨by simp [enA], ?_⟩
  refine r_aload_n G dX11_init_0 rfl rfl ?_
  refine a_obj G oj_X11_1 oi_1 oi_2 dX11_init_1 (by decide) (by decide) ?_
  refine r_aload_n G dX11_init_4 rfl rfl ?_
  refine a_new G hA (ci := 10) (T := TX10) (N := 7) (ty := tyX10) rfl (by decide) inT10 tyX10_ok nw_X11_7 oo_10.1 oo_10.2 dfs_10 (by decide) (by decide) dX11_init_5 (fun y1 G => ?_)
  refine r_dup G dX11_init_8 (by decide) ?_
  refine a_callN (as := []) G hA hxk nX10_init oo_10.2 ow_10.2 (by decide +kernel) (by decide) hxk.2.2.1 rfl ow_10.1 dX11_init_9 (by decide) rfl ⟨1, rfl, rfl, rfl, fun j => congrFun (nwM_n (μ := μ) (n := 1) (q := (10, 0))) j⟩ (by simp [wd]) (by decide) (by decide) (fun z1 μc1 hpo1 hz1 G => ?_)
  refine a_putF (st := []) G hin ff_X11_10 (fun x => ⟨rfl, rfl⟩) dX11_init_12 rfl ?_
  have kp1 : ∀ a, a < 1 → μc1 a = μ a := by
    intro a ha
    rw [hpo1.1 a (by show a + 1 < 2; omega), nwM_o (by show a ≠ 1; omega)]
  refine wp_mem (fun z => z = ud μc1 0 0 (rf 1)) rfl (fun μd1 hd1 => ?_)
  have H1 : ∀ a, 1 ≤ a → a < 1 → μd1 a = μ a := by
    intro a h1 h2
    rw [hd1, ud_o (by omega), kp1 a h2]
  have Kn1 : ∀ a, 1 ≤ a → a < 3 → μd1 a = μc1 a := by
    intro a h1 h2
    rw [hd1, ud_o (by omega)]
  have K1 := Kn1
  have f0 : μd1 0 0 = rf 1 := by rw [hd1, ud_s]
  have f14 : μd1 0 14 = 0 := by rw [hd1, ud_j (by decide), kp1 0 (by decide)]; exact f14
  clear H1 kp1 hd1 Kn1
  refine r_aload_n G dX11_init_15 rfl rfl ?_
  refine a_new G hA (ci := 1) (T := TX1) (N := 11) (ty := tyX1) rfl (by decide) inT1 tyX1_ok nw_X11_16 oo_1.1 oo_1.2 dfs_1 (by decide) (by decide) dX11_init_16 (fun y2 G => ?_)
  refine r_dup G dX11_init_19 (by decide) ?_
  refine a_callI (as := []) G hA hxk nX1_init ci_X11_18 rfl ow_1.1 dX11_init_20 (by decide) rfl ⟨3, rfl, rfl, rfl, fun j => congrFun (nwM_n (μ := μd1) (n := 3) (q := (1, 0))) j⟩ (by simp [wd]) (by decide) (by decide) (fun z2 μc2 hpo2 hz2 G => ?_)
  refine r_putf (st := []) G fp_X11_19 dX11_init_23 (nn := 0) rfl ⟨rfl, rf_nn 3⟩ ?_
  have kp2 : ∀ a, a < 3 → μc2 a = μd1 a := by
    intro a ha
    rw [hpo2.1 a (by show a + 1 < 4; omega), nwM_o (by show a ≠ 3; omega)]
  refine wp_mem (fun z => z = ud μc2 0 1 (rf 3)) rfl (fun μd2 hd2 => ?_)
  have H2 : ∀ a, 1 ≤ a → a < 3 → μd2 a = μd1 a := by
    intro a h1 h2
    rw [hd2, ud_o (by omega), kp2 a h2]
  have Kn2 : ∀ a, 3 ≤ a → a < 15 → μd2 a = μc2 a := by
    intro a h1 h2
    rw [hd2, ud_o (by omega)]
  have K1 : ∀ a, 1 ≤ a → a < 3 → μd2 a = μc1 a := fun a h1 h2 => (H2 a (by omega) (by omega)).trans (K1 a h1 h2)
  have K2 := Kn2
  have f0 : μd2 0 0 = rf 1 := by rw [hd2, ud_j (by decide), kp2 0 (by decide)]; exact f0
  have f1 : μd2 0 1 = rf 3 := by rw [hd2, ud_s]
  have f14 : μd2 0 14 = 0 := by rw [hd2, ud_j (by decide), kp2 0 (by decide)]; exact f14
  clear H2 kp2 hd2 Kn2
  refine r_aload_n G dX11_init_26 rfl rfl ?_
  refine a_new G hA (ci := 1) (T := TX1) (N := 11) (ty := tyX1) rfl (by decide) inT1 tyX1_ok nw_X11_16 oo_1.1 oo_1.2 dfs_1 (by decide) (by decide) dX11_init_27 (fun y3 G => ?_)
  refine r_dup G dX11_init_30 (by decide) ?_
  refine a_callI (as := []) G hA hxk nX1_init ci_X11_18 rfl ow_1.1 dX11_init_31 (by decide) rfl ⟨15, rfl, rfl, rfl, fun j => congrFun (nwM_n (μ := μd2) (n := 15) (q := (1, 0))) j⟩ (by simp [wd]) (by decide) (by decide) (fun z3 μc3 hpo3 hz3 G => ?_)
  refine r_putf (st := []) G fp_X11_23 dX11_init_34 (nn := 0) rfl ⟨rfl, rf_nn 15⟩ ?_
  have kp3 : ∀ a, a < 15 → μc3 a = μd2 a := by
    intro a ha
    rw [hpo3.1 a (by show a + 1 < 16; omega), nwM_o (by show a ≠ 15; omega)]
  refine wp_mem (fun z => z = ud μc3 0 2 (rf 15)) rfl (fun μd3 hd3 => ?_)
  have H3 : ∀ a, 1 ≤ a → a < 15 → μd3 a = μd2 a := by
    intro a h1 h2
    rw [hd3, ud_o (by omega), kp3 a h2]
  have Kn3 : ∀ a, 15 ≤ a → a < 27 → μd3 a = μc3 a := by
    intro a h1 h2
    rw [hd3, ud_o (by omega)]
  have K1 : ∀ a, 1 ≤ a → a < 3 → μd3 a = μc1 a := fun a h1 h2 => (H3 a (by omega) (by omega)).trans (K1 a h1 h2)
  have K2 : ∀ a, 3 ≤ a → a < 15 → μd3 a = μc2 a := fun a h1 h2 => (H3 a (by omega) (by omega)).trans (K2 a h1 h2)
  have K3 := Kn3
  have f0 : μd3 0 0 = rf 1 := by rw [hd3, ud_j (by decide), kp3 0 (by decide)]; exact f0
  have f1 : μd3 0 1 = rf 3 := by rw [hd3, ud_j (by decide), kp3 0 (by decide)]; exact f1
  have f2 : μd3 0 2 = rf 15 := by rw [hd3, ud_s]
  have f14 : μd3 0 14 = 0 := by rw [hd3, ud_j (by decide), kp3 0 (by decide)]; exact f14
  have fd9 : μc3 15 9 = rf 21 := by
    obtain ⟨-, kk, hkk, hkl, ke⟩ := hpo3
    have hkk : kk = 15 := by have h9 : 16 = kk + 1 := hkl; omega
    subst hkk
    exact ke.1.2.2.2.2.2.2.2.2.2.2.2.2.2.2.2.2.2.1
  clear H3 kp3 hd3 Kn3
  refine r_aload_n G dX11_init_37 rfl rfl ?_
  refine a_new G hA (ci := 8) (T := TX8) (N := 7) (ty := tyX8) rfl (by decide) inT8 tyX8_ok nw_X11_26 oo_8.1 oo_8.2 dfs_8 (by decide) (by decide) dX11_init_38 (fun y4 G => ?_)
  refine r_dup G dX11_init_41 (by decide) ?_
  refine r_aload_n G dX11_init_42 rfl rfl ?_
  have w1 : nwM μd3 27 (8, 0) 0 0 = rf 1 := by rw [nwM_o (by omega)]; exact f0
  have w2 : nwM μd3 27 (8, 0) 0 2 = rf 15 := by rw [nwM_o (by omega)]; exact f2
  have w3 : nwM μd3 27 (8, 0) 15 9 = rf 21 := by rw [nwM_o (by omega), K3 15 (by omega) (by omega)]; exact fd9
  refine r_getf G fl_X11_10 dX11_init_43 (nn := 0) rfl (fun _ => le_of_rf w1) ?_
  refine wp_v (v' := rf 1) w1 ?_
  refine r_aload_n G dX11_init_46 rfl rfl ?_
  refine r_getf G fl_X11_23 dX11_init_47 (nn := 0) rfl (fun _ => le_of_rf w2) ?_
  refine wp_v (v' := rf 15) w2 ?_
  refine a_callI (as := [(2, rf 1), (2, rf 15)]) G hA hxk nX8_init ci_X11_28 rfl ow_8.1 dX11_init_50 (by decide) rfl ⟨27, 1, 15, 21, 0, 0, rfl, rfl, rfl, rfl, rfl, by decide, w3, fun j => congrFun (nwM_n (μ := μd3) (n := 27) (q := (8, 0))) j⟩ (by simp [wd]) (by decide) (by decide) (fun z4 μc4 hpo4 hz4 G => ?_)
  refine a_putF (st := []) G hin ff_X11_31 (fun x => ⟨rfl, rfl⟩) dX11_init_53 rfl ?_
  have kp4 : ∀ a, a < 27 → μc4 a = μd3 a := by
    intro a ha
    rw [hpo4.1 a (by show a + 1 < 28; omega), nwM_o (by show a ≠ 27; omega)]
  refine wp_mem (fun z => z = ud μc4 0 3 (rf 27)) rfl (fun μd4 hd4 => ?_)
  have H4 : ∀ a, 1 ≤ a → a < 27 → μd4 a = μd3 a := by
    intro a h1 h2
    rw [hd4, ud_o (by omega), kp4 a h2]
  have Kn4 : ∀ a, 27 ≤ a → a < 30 → μd4 a = μc4 a := by
    intro a h1 h2
    rw [hd4, ud_o (by omega)]
  have K1 : ∀ a, 1 ≤ a → a < 3 → μd4 a = μc1 a := fun a h1 h2 => (H4 a (by omega) (by omega)).trans (K1 a h1 h2)
  have K2 : ∀ a, 3 ≤ a → a < 15 → μd4 a = μc2 a := fun a h1 h2 => (H4 a (by omega) (by omega)).trans (K2 a h1 h2)
  have K3 : ∀ a, 15 ≤ a → a < 27 → μd4 a = μc3 a := fun a h1 h2 => (H4 a (by omega) (by omega)).trans (K3 a h1 h2)
  have K4 := Kn4
  have f0 : μd4 0 0 = rf 1 := by rw [hd4, ud_j (by decide), kp4 0 (by decide)]; exact f0
  have f1 : μd4 0 1 = rf 3 := by rw [hd4, ud_j (by decide), kp4 0 (by decide)]; exact f1
  have f2 : μd4 0 2 = rf 15 := by rw [hd4, ud_j (by decide), kp4 0 (by decide)]; exact f2
  have f3 : μd4 0 3 = rf 27 := by rw [hd4, ud_s]
  have f14 : μd4 0 14 = 0 := by rw [hd4, ud_j (by decide), kp4 0 (by decide)]; exact f14
  clear H4 kp4 hd4 Kn4
  refine r_aload_n G dX11_init_56 rfl rfl ?_
  refine a_new G hA (ci := 6) (T := TX6) (N := 6) (ty := tyX6) rfl (by decide) inT6 tyX6_ok nw_X11_35 oo_6.1 oo_6.2 dfs_6 (by decide) (by decide) dX11_init_57 (fun y5 G => ?_)
  refine r_dup G dX11_init_60 (by decide) ?_
  refine a_callI (as := []) G hA hxk nX6_init ci_X11_37 rfl ow_6.1 dX11_init_61 (by decide) rfl ⟨30, rfl, rfl, rfl, fun j => congrFun (nwM_n (μ := μd4) (n := 30) (q := (6, 0))) j⟩ (by simp [wd]) (by decide) (by decide) (fun z5 μc5 hpo5 hz5 G => ?_)
  refine a_putF (st := []) G hin ff_X11_38 (fun x => ⟨rfl, rfl⟩) dX11_init_64 rfl ?_
  have kp5 : ∀ a, a < 30 → μc5 a = μd4 a := by
    intro a ha
    rw [hpo5.1 a (by show a + 1 < 31; omega), nwM_o (by show a ≠ 30; omega)]
  refine wp_mem (fun z => z = ud μc5 0 4 (rf 30)) rfl (fun μd5 hd5 => ?_)
  have H5 : ∀ a, 1 ≤ a → a < 30 → μd5 a = μd4 a := by
    intro a h1 h2
    rw [hd5, ud_o (by omega), kp5 a h2]
  have Kn5 : ∀ a, 30 ≤ a → a < 35 → μd5 a = μc5 a := by
    intro a h1 h2
    rw [hd5, ud_o (by omega)]
  have K1 : ∀ a, 1 ≤ a → a < 3 → μd5 a = μc1 a := fun a h1 h2 => (H5 a (by omega) (by omega)).trans (K1 a h1 h2)
  have K2 : ∀ a, 3 ≤ a → a < 15 → μd5 a = μc2 a := fun a h1 h2 => (H5 a (by omega) (by omega)).trans (K2 a h1 h2)
  have K3 : ∀ a, 15 ≤ a → a < 27 → μd5 a = μc3 a := fun a h1 h2 => (H5 a (by omega) (by omega)).trans (K3 a h1 h2)
  have K4 : ∀ a, 27 ≤ a → a < 30 → μd5 a = μc4 a := fun a h1 h2 => (H5 a (by omega) (by omega)).trans (K4 a h1 h2)
  have K5 := Kn5
  have f0 : μd5 0 0 = rf 1 := by rw [hd5, ud_j (by decide), kp5 0 (by decide)]; exact f0
  have f1 : μd5 0 1 = rf 3 := by rw [hd5, ud_j (by decide), kp5 0 (by decide)]; exact f1
  have f2 : μd5 0 2 = rf 15 := by rw [hd5, ud_j (by decide), kp5 0 (by decide)]; exact f2
  have f3 : μd5 0 3 = rf 27 := by rw [hd5, ud_j (by decide), kp5 0 (by decide)]; exact f3
  have f4 : μd5 0 4 = rf 30 := by rw [hd5, ud_s]
  have f14 : μd5 0 14 = 0 := by rw [hd5, ud_j (by decide), kp5 0 (by decide)]; exact f14
  clear H5 kp5 hd5 Kn5
  refine r_aload_n G dX11_init_67 rfl rfl ?_
  refine a_new G hA (ci := 6) (T := TX6) (N := 6) (ty := tyX6) rfl (by decide) inT6 tyX6_ok nw_X11_35 oo_6.1 oo_6.2 dfs_6 (by decide) (by decide) dX11_init_68 (fun y6 G => ?_)
  refine r_dup G dX11_init_71 (by decide) ?_
  refine a_callI (as := []) G hA hxk nX6_init ci_X11_37 rfl ow_6.1 dX11_init_72 (by decide) rfl ⟨35, rfl, rfl, rfl, fun j => congrFun (nwM_n (μ := μd5) (n := 35) (q := (6, 0))) j⟩ (by simp [wd]) (by decide) (by decide) (fun z6 μc6 hpo6 hz6 G => ?_)
  refine a_putF (st := []) G hin ff_X11_42 (fun x => ⟨rfl, rfl⟩) dX11_init_75 rfl ?_
  have kp6 : ∀ a, a < 35 → μc6 a = μd5 a := by
    intro a ha
    rw [hpo6.1 a (by show a + 1 < 36; omega), nwM_o (by show a ≠ 35; omega)]
  refine wp_mem (fun z => z = ud μc6 0 5 (rf 35)) rfl (fun μd6 hd6 => ?_)
  have H6 : ∀ a, 1 ≤ a → a < 35 → μd6 a = μd5 a := by
    intro a h1 h2
    rw [hd6, ud_o (by omega), kp6 a h2]
  have Kn6 : ∀ a, 35 ≤ a → a < 40 → μd6 a = μc6 a := by
    intro a h1 h2
    rw [hd6, ud_o (by omega)]
  have K1 : ∀ a, 1 ≤ a → a < 3 → μd6 a = μc1 a := fun a h1 h2 => (H6 a (by omega) (by omega)).trans (K1 a h1 h2)
  have K2 : ∀ a, 3 ≤ a → a < 15 → μd6 a = μc2 a := fun a h1 h2 => (H6 a (by omega) (by omega)).trans (K2 a h1 h2)
  have K3 : ∀ a, 15 ≤ a → a < 27 → μd6 a = μc3 a := fun a h1 h2 => (H6 a (by omega) (by omega)).trans (K3 a h1 h2)
  have K4 : ∀ a, 27 ≤ a → a < 30 → μd6 a = μc4 a := fun a h1 h2 => (H6 a (by omega) (by omega)).trans (K4 a h1 h2)
  have K5 : ∀ a, 30 ≤ a → a < 35 → μd6 a = μc5 a := fun a h1 h2 => (H6 a (by omega) (by omega)).trans (K5 a h1 h2)
  have K6 := Kn6
  have f0 : μd6 0 0 = rf 1 := by rw [hd6, ud_j (by decide), kp6 0 (by decide)]; exact f0
  have f1 : μd6 0 1 = rf 3 := by rw [hd6, ud_j (by decide), kp6 0 (by decide)]; exact f1
  have f2 : μd6 0 2 = rf 15 := by rw [hd6, ud_j (by decide), kp6 0 (by decide)]; exact f2
  have f3 : μd6 0 3 = rf 27 := by rw [hd6, ud_j (by decide), kp6 0 (by decide)]; exact f3
  have f4 : μd6 0 4 = rf 30 := by rw [hd6, ud_j (by decide), kp6 0 (by decide)]; exact f4
  have f5 : μd6 0 5 = rf 35 := by rw [hd6, ud_s]
  have f14 : μd6 0 14 = 0 := by rw [hd6, ud_j (by decide), kp6 0 (by decide)]; exact f14
  clear H6 kp6 hd6 Kn6
  refine r_aload_n G dX11_init_78 rfl rfl ?_
  refine a_new G hA (ci := 2) (T := TX2) (N := 4) (ty := tyX2) rfl (by decide) inT2 tyX2_ok nw_X11_45 oo_2.1 oo_2.2 dfs_2 (by decide) (by decide) dX11_init_79 (fun y7 G => ?_)
  refine r_dup G dX11_init_82 (by decide) ?_
  refine a_callN (as := []) G hA hxk nX2_init oo_2.2 ow_2.2 (by decide +kernel) (by decide) hxk.2.2.2.2.1 rfl ow_2.1 dX11_init_83 (by decide) rfl ⟨40, rfl, rfl, rfl, fun j => congrFun (nwM_n (μ := μd6) (n := 40) (q := (2, 0))) j⟩ (by simp [wd]) (by decide) (by decide) (fun z7 μc7 hpo7 hz7 G => ?_)
  refine a_putF (st := []) G hin ff_X11_48 (fun x => ⟨rfl, rfl⟩) dX11_init_86 rfl ?_
  have kp7 : ∀ a, a < 40 → μc7 a = μd6 a := by
    intro a ha
    rw [hpo7.1 a (by show a + 1 < 41; omega), nwM_o (by show a ≠ 40; omega)]
  refine wp_mem (fun z => z = ud μc7 0 6 (rf 40)) rfl (fun μd7 hd7 => ?_)
  have H7 : ∀ a, 1 ≤ a → a < 40 → μd7 a = μd6 a := by
    intro a h1 h2
    rw [hd7, ud_o (by omega), kp7 a h2]
  have Kn7 : ∀ a, 40 ≤ a → a < 44 → μd7 a = μc7 a := by
    intro a h1 h2
    rw [hd7, ud_o (by omega)]
  have K1 : ∀ a, 1 ≤ a → a < 3 → μd7 a = μc1 a := fun a h1 h2 => (H7 a (by omega) (by omega)).trans (K1 a h1 h2)
  have K2 : ∀ a, 3 ≤ a → a < 15 → μd7 a = μc2 a := fun a h1 h2 => (H7 a (by omega) (by omega)).trans (K2 a h1 h2)
  have K3 : ∀ a, 15 ≤ a → a < 27 → μd7 a = μc3 a := fun a h1 h2 => (H7 a (by omega) (by omega)).trans (K3 a h1 h2)
  have K4 : ∀ a, 27 ≤ a → a < 30 → μd7 a = μc4 a := fun a h1 h2 => (H7 a (by omega) (by omega)).trans (K4 a h1 h2)
  have K5 : ∀ a, 30 ≤ a → a < 35 → μd7 a = μc5 a := fun a h1 h2 => (H7 a (by omega) (by omega)).trans (K5 a h1 h2)
  have K6 : ∀ a, 35 ≤ a → a < 40 → μd7 a = μc6 a := fun a h1 h2 => (H7 a (by omega) (by omega)).trans (K6 a h1 h2)
  have K7 := Kn7
  have f0 : μd7 0 0 = rf 1 := by rw [hd7, ud_j (by decide), kp7 0 (by decide)]; exact f0
  have f1 : μd7 0 1 = rf 3 := by rw [hd7, ud_j (by decide), kp7 0 (by decide)]; exact f1
  have f2 : μd7 0 2 = rf 15 := by rw [hd7, ud_j (by decide), kp7 0 (by decide)]; exact f2
  have f3 : μd7 0 3 = rf 27 := by rw [hd7, ud_j (by decide), kp7 0 (by decide)]; exact f3
  have f4 : μd7 0 4 = rf 30 := by rw [hd7, ud_j (by decide), kp7 0 (by decide)]; exact f4
  have f5 : μd7 0 5 = rf 35 := by rw [hd7, ud_j (by decide), kp7 0 (by decide)]; exact f5
  have f6 : μd7 0 6 = rf 40 := by rw [hd7, ud_s]
  have f14 : μd7 0 14 = 0 := by rw [hd7, ud_j (by decide), kp7 0 (by decide)]; exact f14
  clear H7 kp7 hd7 Kn7
  refine r_aload_n G dX11_init_89 rfl rfl ?_
  refine a_new G hA (ci := 7) (T := TX7) (N := 3) (ty := tyX7) rfl (by decide) inT7 tyX7_ok nw_X11_52 oo_7.1 oo_7.2 dfs_7 (by decide) (by decide) dX11_init_90 (fun y8 G => ?_)
  refine r_dup G dX11_init_93 (by decide) ?_
  refine a_callI (as := []) G hA hxk nX7_init ci_X11_54 rfl ow_7.1 dX11_init_94 (by decide) rfl ⟨44, rfl, rfl, rfl, fun j => congrFun (nwM_n (μ := μd7) (n := 44) (q := (7, 0))) j⟩ (by simp [wd]) (by decide) (by decide) (fun z8 μc8 hpo8 hz8 G => ?_)
  refine a_putF (st := []) G hin ff_X11_55 (fun x => ⟨rfl, rfl⟩) dX11_init_97 rfl ?_
  have kp8 : ∀ a, a < 44 → μc8 a = μd7 a := by
    intro a ha
    obtain ⟨kk, hkk, hkl, kq⟩ := hpo8
    rw [kq.1 a (by show a + 1 < 45; omega), nwM_o (by show a ≠ 44; omega)]
  refine wp_mem (fun z => z = ud μc8 0 7 (rf 44)) rfl (fun μd8 hd8 => ?_)
  have H8 : ∀ a, 1 ≤ a → a < 44 → μd8 a = μd7 a := by
    intro a h1 h2
    rw [hd8, ud_o (by omega), kp8 a h2]
  have Kn8 : ∀ a, 44 ≤ a → a < 106 → μd8 a = μc8 a := by
    intro a h1 h2
    rw [hd8, ud_o (by omega)]
  have K1 : ∀ a, 1 ≤ a → a < 3 → μd8 a = μc1 a := fun a h1 h2 => (H8 a (by omega) (by omega)).trans (K1 a h1 h2)
  have K2 : ∀ a, 3 ≤ a → a < 15 → μd8 a = μc2 a := fun a h1 h2 => (H8 a (by omega) (by omega)).trans (K2 a h1 h2)
  have K3 : ∀ a, 15 ≤ a → a < 27 → μd8 a = μc3 a := fun a h1 h2 => (H8 a (by omega) (by omega)).trans (K3 a h1 h2)
  have K4 : ∀ a, 27 ≤ a → a < 30 → μd8 a = μc4 a := fun a h1 h2 => (H8 a (by omega) (by omega)).trans (K4 a h1 h2)
  have K5 : ∀ a, 30 ≤ a → a < 35 → μd8 a = μc5 a := fun a h1 h2 => (H8 a (by omega) (by omega)).trans (K5 a h1 h2)
  have K6 : ∀ a, 35 ≤ a → a < 40 → μd8 a = μc6 a := fun a h1 h2 => (H8 a (by omega) (by omega)).trans (K6 a h1 h2)
  have K7 : ∀ a, 40 ≤ a → a < 44 → μd8 a = μc7 a := fun a h1 h2 => (H8 a (by omega) (by omega)).trans (K7 a h1 h2)
  have K8 := Kn8
  have f0 : μd8 0 0 = rf 1 := by rw [hd8, ud_j (by decide), kp8 0 (by decide)]; exact f0
  have f1 : μd8 0 1 = rf 3 := by rw [hd8, ud_j (by decide), kp8 0 (by decide)]; exact f1
  have f2 : μd8 0 2 = rf 15 := by rw [hd8, ud_j (by decide), kp8 0 (by decide)]; exact f2
  have f3 : μd8 0 3 = rf 27 := by rw [hd8, ud_j (by decide), kp8 0 (by decide)]; exact f3
  have f4 : μd8 0 4 = rf 30 := by rw [hd8, ud_j (by decide), kp8 0 (by decide)]; exact f4
  have f5 : μd8 0 5 = rf 35 := by rw [hd8, ud_j (by decide), kp8 0 (by decide)]; exact f5
  have f6 : μd8 0 6 = rf 40 := by rw [hd8, ud_j (by decide), kp8 0 (by decide)]; exact f6
  have f7 : μd8 0 7 = rf 44 := by rw [hd8, ud_s]
  have f14 : μd8 0 14 = 0 := by rw [hd8, ud_j (by decide), kp8 0 (by decide)]; exact f14
  clear H8 kp8 hd8 Kn8
  refine r_aload_n G dX11_init_100 rfl rfl ?_
  refine a_new G hA (ci := 0) (T := TX0) (N := 3) (ty := tyX0) rfl (by decide) inT0 tyX0_ok nw_X11_59 oo_0.1 oo_0.2 dfs_0 (by decide) (by decide) dX11_init_101 (fun y9 G => ?_)
  refine r_dup G dX11_init_104 (by decide) ?_
  refine a_callN (as := []) G hA hxk nX0_init oo_0.2 ow_0.2 (by decide +kernel) (by decide) hxk.2.2.2.2.2.1 rfl ow_0.1 dX11_init_105 (by decide) rfl ⟨106, rfl, rfl, rfl, fun j => congrFun (nwM_n (μ := μd8) (n := 106) (q := (0, 0))) j⟩ (by simp [wd]) (by decide) (by decide) (fun z9 μc9 hpo9 hz9 G => ?_)
  refine a_putF (st := []) G hin ff_X11_62 (fun x => ⟨rfl, rfl⟩) dX11_init_108 rfl ?_
  have kp9 : ∀ a, a < 106 → μc9 a = μd8 a := by
    intro a ha
    rw [hpo9.1 a (by show a + 1 < 107; omega), nwM_o (by show a ≠ 106; omega)]
  refine wp_mem (fun z => z = ud μc9 0 8 (rf 106)) rfl (fun μd9 hd9 => ?_)
  have H9 : ∀ a, 1 ≤ a → a < 106 → μd9 a = μd8 a := by
    intro a h1 h2
    rw [hd9, ud_o (by omega), kp9 a h2]
  have Kn9 : ∀ a, 106 ≤ a → a < 110 → μd9 a = μc9 a := by
    intro a h1 h2
    rw [hd9, ud_o (by omega)]
  have K1 : ∀ a, 1 ≤ a → a < 3 → μd9 a = μc1 a := fun a h1 h2 => (H9 a (by omega) (by omega)).trans (K1 a h1 h2)
  have K2 : ∀ a, 3 ≤ a → a < 15 → μd9 a = μc2 a := fun a h1 h2 => (H9 a (by omega) (by omega)).trans (K2 a h1 h2)
  have K3 : ∀ a, 15 ≤ a → a < 27 → μd9 a = μc3 a := fun a h1 h2 => (H9 a (by omega) (by omega)).trans (K3 a h1 h2)
  have K4 : ∀ a, 27 ≤ a → a < 30 → μd9 a = μc4 a := fun a h1 h2 => (H9 a (by omega) (by omega)).trans (K4 a h1 h2)
  have K5 : ∀ a, 30 ≤ a → a < 35 → μd9 a = μc5 a := fun a h1 h2 => (H9 a (by omega) (by omega)).trans (K5 a h1 h2)
  have K6 : ∀ a, 35 ≤ a → a < 40 → μd9 a = μc6 a := fun a h1 h2 => (H9 a (by omega) (by omega)).trans (K6 a h1 h2)
  have K7 : ∀ a, 40 ≤ a → a < 44 → μd9 a = μc7 a := fun a h1 h2 => (H9 a (by omega) (by omega)).trans (K7 a h1 h2)
  have K8 : ∀ a, 44 ≤ a → a < 106 → μd9 a = μc8 a := fun a h1 h2 => (H9 a (by omega) (by omega)).trans (K8 a h1 h2)
  have K9 := Kn9
  have f0 : μd9 0 0 = rf 1 := by rw [hd9, ud_j (by decide), kp9 0 (by decide)]; exact f0
  have f1 : μd9 0 1 = rf 3 := by rw [hd9, ud_j (by decide), kp9 0 (by decide)]; exact f1
  have f2 : μd9 0 2 = rf 15 := by rw [hd9, ud_j (by decide), kp9 0 (by decide)]; exact f2
  have f3 : μd9 0 3 = rf 27 := by rw [hd9, ud_j (by decide), kp9 0 (by decide)]; exact f3
  have f4 : μd9 0 4 = rf 30 := by rw [hd9, ud_j (by decide), kp9 0 (by decide)]; exact f4
  have f5 : μd9 0 5 = rf 35 := by rw [hd9, ud_j (by decide), kp9 0 (by decide)]; exact f5
  have f6 : μd9 0 6 = rf 40 := by rw [hd9, ud_j (by decide), kp9 0 (by decide)]; exact f6
  have f7 : μd9 0 7 = rf 44 := by rw [hd9, ud_j (by decide), kp9 0 (by decide)]; exact f7
  have f8 : μd9 0 8 = rf 106 := by rw [hd9, ud_s]
  have f14 : μd9 0 14 = 0 := by rw [hd9, ud_j (by decide), kp9 0 (by decide)]; exact f14
  clear H9 kp9 hd9 Kn9
  refine r_aload_n G dX11_init_111 rfl rfl ?_
  refine a_new G hA (ci := 3) (T := TX3) (N := 8) (ty := tyX3) rfl (by decide) inT3 tyX3_ok nw_X11_66 oo_3.1 oo_3.2 dfs_3 (by decide) (by decide) dX11_init_112 (fun y10 G => ?_)
  refine r_dup G dX11_init_115 (by decide) ?_
  refine a_callN (as := []) G hA hxk nX3_init oo_3.2 ow_3.2 (by decide +kernel) (by decide) hxk.2.2.2.2.2.2.1 rfl ow_3.1 dX11_init_116 (by decide) rfl ⟨110, rfl, rfl, rfl, fun j => congrFun (nwM_n (μ := μd9) (n := 110) (q := (3, 0))) j⟩ (by simp [wd]) (by decide) (by decide) (fun z10 μc10 hpo10 hz10 G => ?_)
  refine a_putF (st := []) G hin ff_X11_69 (fun x => ⟨rfl, rfl⟩) dX11_init_119 rfl ?_
  have kp10 : ∀ a, a < 110 → μc10 a = μd9 a := by
    intro a ha
    rw [hpo10.1 a (by show a + 1 < 111; omega), nwM_o (by show a ≠ 110; omega)]
  refine wp_mem (fun z => z = ud μc10 0 9 (rf 110)) rfl (fun μd10 hd10 => ?_)
  have H10 : ∀ a, 1 ≤ a → a < 110 → μd10 a = μd9 a := by
    intro a h1 h2
    rw [hd10, ud_o (by omega), kp10 a h2]
  have Kn10 : ∀ a, 110 ≤ a → a < 114 → μd10 a = μc10 a := by
    intro a h1 h2
    rw [hd10, ud_o (by omega)]
  have K1 : ∀ a, 1 ≤ a → a < 3 → μd10 a = μc1 a := fun a h1 h2 => (H10 a (by omega) (by omega)).trans (K1 a h1 h2)
  have K2 : ∀ a, 3 ≤ a → a < 15 → μd10 a = μc2 a := fun a h1 h2 => (H10 a (by omega) (by omega)).trans (K2 a h1 h2)
  have K3 : ∀ a, 15 ≤ a → a < 27 → μd10 a = μc3 a := fun a h1 h2 => (H10 a (by omega) (by omega)).trans (K3 a h1 h2)
  have K4 : ∀ a, 27 ≤ a → a < 30 → μd10 a = μc4 a := fun a h1 h2 => (H10 a (by omega) (by omega)).trans (K4 a h1 h2)
  have K5 : ∀ a, 30 ≤ a → a < 35 → μd10 a = μc5 a := fun a h1 h2 => (H10 a (by omega) (by omega)).trans (K5 a h1 h2)
  have K6 : ∀ a, 35 ≤ a → a < 40 → μd10 a = μc6 a := fun a h1 h2 => (H10 a (by omega) (by omega)).trans (K6 a h1 h2)
  have K7 : ∀ a, 40 ≤ a → a < 44 → μd10 a = μc7 a := fun a h1 h2 => (H10 a (by omega) (by omega)).trans (K7 a h1 h2)
  have K8 : ∀ a, 44 ≤ a → a < 106 → μd10 a = μc8 a := fun a h1 h2 => (H10 a (by omega) (by omega)).trans (K8 a h1 h2)
  have K9 : ∀ a, 106 ≤ a → a < 110 → μd10 a = μc9 a := fun a h1 h2 => (H10 a (by omega) (by omega)).trans (K9 a h1 h2)
  have K10 := Kn10
  have f0 : μd10 0 0 = rf 1 := by rw [hd10, ud_j (by decide), kp10 0 (by decide)]; exact f0
  have f1 : μd10 0 1 = rf 3 := by rw [hd10, ud_j (by decide), kp10 0 (by decide)]; exact f1
  have f2 : μd10 0 2 = rf 15 := by rw [hd10, ud_j (by decide), kp10 0 (by decide)]; exact f2
  have f3 : μd10 0 3 = rf 27 := by rw [hd10, ud_j (by decide), kp10 0 (by decide)]; exact f3
  have f4 : μd10 0 4 = rf 30 := by rw [hd10, ud_j (by decide), kp10 0 (by decide)]; exact f4
  have f5 : μd10 0 5 = rf 35 := by rw [hd10, ud_j (by decide), kp10 0 (by decide)]; exact f5
  have f6 : μd10 0 6 = rf 40 := by rw [hd10, ud_j (by decide), kp10 0 (by decide)]; exact f6
  have f7 : μd10 0 7 = rf 44 := by rw [hd10, ud_j (by decide), kp10 0 (by decide)]; exact f7
  have f8 : μd10 0 8 = rf 106 := by rw [hd10, ud_j (by decide), kp10 0 (by decide)]; exact f8
  have f9 : μd10 0 9 = rf 110 := by rw [hd10, ud_s]
  have f14 : μd10 0 14 = 0 := by rw [hd10, ud_j (by decide), kp10 0 (by decide)]; exact f14
  clear H10 kp10 hd10 Kn10
  refine r_aload_n G dX11_init_122 rfl rfl ?_
  refine a_new G hA (ci := 5) (T := TX5) (N := 3) (ty := tyX5) rfl (by decide) inT5 tyX5_ok nw_X11_73 oo_5.1 oo_5.2 dfs_5 (by decide) (by decide) dX11_init_123 (fun y11 G => ?_)
  refine r_dup G dX11_init_126 (by decide) ?_
  refine a_callN (as := []) G hA hxk nX5_init oo_5.2 ow_5.2 (by decide +kernel) (by decide) hxk.2.2.2.2.2.2.2.1 rfl ow_5.1 dX11_init_127 (by decide) rfl ⟨114, rfl, rfl, rfl, fun j => congrFun (nwM_n (μ := μd10) (n := 114) (q := (5, 0))) j⟩ (by simp [wd]) (by decide) (by decide) (fun z11 μc11 hpo11 hz11 G => ?_)
  refine a_putF (st := []) G hin ff_X11_76 (fun x => ⟨rfl, rfl⟩) dX11_init_130 rfl ?_
  have kp11 : ∀ a, a < 114 → μc11 a = μd10 a := by
    intro a ha
    rw [hpo11.1 a (by show a + 1 < 115; omega), nwM_o (by show a ≠ 114; omega)]
  refine wp_mem (fun z => z = ud μc11 0 10 (rf 114)) rfl (fun μd11 hd11 => ?_)
  have H11 : ∀ a, 1 ≤ a → a < 114 → μd11 a = μd10 a := by
    intro a h1 h2
    rw [hd11, ud_o (by omega), kp11 a h2]
  have Kn11 : ∀ a, 114 ≤ a → a < 117 → μd11 a = μc11 a := by
    intro a h1 h2
    rw [hd11, ud_o (by omega)]
  have K1 : ∀ a, 1 ≤ a → a < 3 → μd11 a = μc1 a := fun a h1 h2 => (H11 a (by omega) (by omega)).trans (K1 a h1 h2)
  have K2 : ∀ a, 3 ≤ a → a < 15 → μd11 a = μc2 a := fun a h1 h2 => (H11 a (by omega) (by omega)).trans (K2 a h1 h2)
  have K3 : ∀ a, 15 ≤ a → a < 27 → μd11 a = μc3 a := fun a h1 h2 => (H11 a (by omega) (by omega)).trans (K3 a h1 h2)
  have K4 : ∀ a, 27 ≤ a → a < 30 → μd11 a = μc4 a := fun a h1 h2 => (H11 a (by omega) (by omega)).trans (K4 a h1 h2)
  have K5 : ∀ a, 30 ≤ a → a < 35 → μd11 a = μc5 a := fun a h1 h2 => (H11 a (by omega) (by omega)).trans (K5 a h1 h2)
  have K6 : ∀ a, 35 ≤ a → a < 40 → μd11 a = μc6 a := fun a h1 h2 => (H11 a (by omega) (by omega)).trans (K6 a h1 h2)
  have K7 : ∀ a, 40 ≤ a → a < 44 → μd11 a = μc7 a := fun a h1 h2 => (H11 a (by omega) (by omega)).trans (K7 a h1 h2)
  have K8 : ∀ a, 44 ≤ a → a < 106 → μd11 a = μc8 a := fun a h1 h2 => (H11 a (by omega) (by omega)).trans (K8 a h1 h2)
  have K9 : ∀ a, 106 ≤ a → a < 110 → μd11 a = μc9 a := fun a h1 h2 => (H11 a (by omega) (by omega)).trans (K9 a h1 h2)
  have K10 : ∀ a, 110 ≤ a → a < 114 → μd11 a = μc10 a := fun a h1 h2 => (H11 a (by omega) (by omega)).trans (K10 a h1 h2)
  have K11 := Kn11
  have f0 : μd11 0 0 = rf 1 := by rw [hd11, ud_j (by decide), kp11 0 (by decide)]; exact f0
  have f1 : μd11 0 1 = rf 3 := by rw [hd11, ud_j (by decide), kp11 0 (by decide)]; exact f1
  have f2 : μd11 0 2 = rf 15 := by rw [hd11, ud_j (by decide), kp11 0 (by decide)]; exact f2
  have f3 : μd11 0 3 = rf 27 := by rw [hd11, ud_j (by decide), kp11 0 (by decide)]; exact f3
  have f4 : μd11 0 4 = rf 30 := by rw [hd11, ud_j (by decide), kp11 0 (by decide)]; exact f4
  have f5 : μd11 0 5 = rf 35 := by rw [hd11, ud_j (by decide), kp11 0 (by decide)]; exact f5
  have f6 : μd11 0 6 = rf 40 := by rw [hd11, ud_j (by decide), kp11 0 (by decide)]; exact f6
  have f7 : μd11 0 7 = rf 44 := by rw [hd11, ud_j (by decide), kp11 0 (by decide)]; exact f7
  have f8 : μd11 0 8 = rf 106 := by rw [hd11, ud_j (by decide), kp11 0 (by decide)]; exact f8
  have f9 : μd11 0 9 = rf 110 := by rw [hd11, ud_j (by decide), kp11 0 (by decide)]; exact f9
  have f10 : μd11 0 10 = rf 114 := by rw [hd11, ud_s]
  have f14 : μd11 0 14 = 0 := by rw [hd11, ud_j (by decide), kp11 0 (by decide)]; exact f14
  clear H11 kp11 hd11 Kn11
  refine r_aload_n G dX11_init_133 rfl rfl ?_
  refine a_new G hA (ci := 9) (T := TX9) (N := 4) (ty := tyX9) rfl (by decide) inT9 tyX9_ok nw_X11_80 oo_9.1 oo_9.2 dfs_9 (by decide) (by decide) dX11_init_134 (fun y12 G => ?_)
  refine r_dup G dX11_init_137 (by decide) ?_
  refine a_callN (as := []) G hA hxk nX9_init oo_9.2 ow_9.2 (by decide +kernel) (by decide) hxk.2.2.2.2.2.2.2.2 rfl ow_9.1 dX11_init_138 (by decide) rfl ⟨117, rfl, rfl, rfl, fun j => congrFun (nwM_n (μ := μd11) (n := 117) (q := (9, 0))) j⟩ (by simp [wd]) (by decide) (by decide) (fun z12 μc12 hpo12 hz12 G => ?_)
  refine a_putF (st := []) G hin ff_X11_83 (fun x => ⟨rfl, rfl⟩) dX11_init_141 rfl ?_
  have kp12 : ∀ a, a < 117 → μc12 a = μd11 a := by
    intro a ha
    rw [hpo12.1 a (by show a + 1 < 118; omega), nwM_o (by show a ≠ 117; omega)]
  refine wp_mem (fun z => z = ud μc12 0 11 (rf 117)) rfl (fun μd12 hd12 => ?_)
  have H12 : ∀ a, 1 ≤ a → a < 117 → μd12 a = μd11 a := by
    intro a h1 h2
    rw [hd12, ud_o (by omega), kp12 a h2]
  have Kn12 : ∀ a, 117 ≤ a → a < 121 → μd12 a = μc12 a := by
    intro a h1 h2
    rw [hd12, ud_o (by omega)]
  have K1 : ∀ a, 1 ≤ a → a < 3 → μd12 a = μc1 a := fun a h1 h2 => (H12 a (by omega) (by omega)).trans (K1 a h1 h2)
  have K2 : ∀ a, 3 ≤ a → a < 15 → μd12 a = μc2 a := fun a h1 h2 => (H12 a (by omega) (by omega)).trans (K2 a h1 h2)
  have K3 : ∀ a, 15 ≤ a → a < 27 → μd12 a = μc3 a := fun a h1 h2 => (H12 a (by omega) (by omega)).trans (K3 a h1 h2)
  have K4 : ∀ a, 27 ≤ a → a < 30 → μd12 a = μc4 a := fun a h1 h2 => (H12 a (by omega) (by omega)).trans (K4 a h1 h2)
  have K5 : ∀ a, 30 ≤ a → a < 35 → μd12 a = μc5 a := fun a h1 h2 => (H12 a (by omega) (by omega)).trans (K5 a h1 h2)
  have K6 : ∀ a, 35 ≤ a → a < 40 → μd12 a = μc6 a := fun a h1 h2 => (H12 a (by omega) (by omega)).trans (K6 a h1 h2)
  have K7 : ∀ a, 40 ≤ a → a < 44 → μd12 a = μc7 a := fun a h1 h2 => (H12 a (by omega) (by omega)).trans (K7 a h1 h2)
  have K8 : ∀ a, 44 ≤ a → a < 106 → μd12 a = μc8 a := fun a h1 h2 => (H12 a (by omega) (by omega)).trans (K8 a h1 h2)
  have K9 : ∀ a, 106 ≤ a → a < 110 → μd12 a = μc9 a := fun a h1 h2 => (H12 a (by omega) (by omega)).trans (K9 a h1 h2)
  have K10 : ∀ a, 110 ≤ a → a < 114 → μd12 a = μc10 a := fun a h1 h2 => (H12 a (by omega) (by omega)).trans (K10 a h1 h2)
  have K11 : ∀ a, 114 ≤ a → a < 117 → μd12 a = μc11 a := fun a h1 h2 => (H12 a (by omega) (by omega)).trans (K11 a h1 h2)
  have K12 := Kn12
  have f0 : μd12 0 0 = rf 1 := by rw [hd12, ud_j (by decide), kp12 0 (by decide)]; exact f0
  have f1 : μd12 0 1 = rf 3 := by rw [hd12, ud_j (by decide), kp12 0 (by decide)]; exact f1
  have f2 : μd12 0 2 = rf 15 := by rw [hd12, ud_j (by decide), kp12 0 (by decide)]; exact f2
  have f3 : μd12 0 3 = rf 27 := by rw [hd12, ud_j (by decide), kp12 0 (by decide)]; exact f3
  have f4 : μd12 0 4 = rf 30 := by rw [hd12, ud_j (by decide), kp12 0 (by decide)]; exact f4
  have f5 : μd12 0 5 = rf 35 := by rw [hd12, ud_j (by decide), kp12 0 (by decide)]; exact f5
  have f6 : μd12 0 6 = rf 40 := by rw [hd12, ud_j (by decide), kp12 0 (by decide)]; exact f6
  have f7 : μd12 0 7 = rf 44 := by rw [hd12, ud_j (by decide), kp12 0 (by decide)]; exact f7
  have f8 : μd12 0 8 = rf 106 := by rw [hd12, ud_j (by decide), kp12 0 (by decide)]; exact f8
  have f9 : μd12 0 9 = rf 110 := by rw [hd12, ud_j (by decide), kp12 0 (by decide)]; exact f9
  have f10 : μd12 0 10 = rf 114 := by rw [hd12, ud_j (by decide), kp12 0 (by decide)]; exact f10
  have f11 : μd12 0 11 = rf 117 := by rw [hd12, ud_s]
  have f14 : μd12 0 14 = 0 := by rw [hd12, ud_j (by decide), kp12 0 (by decide)]; exact f14
  clear H12 kp12 hd12 Kn12
  refine r_aload_n G dX11_init_144 rfl rfl ?_
  refine r_iconst G dX11_init_145 (by decide) ?_
  refine a_anew (st := [(2, rf 0)]) G hA (ci := 6) (N := 4) (C := RX6) (T := TX6) (nf := 6) rfl (by decide) na_X11_35 hxk.1 (by decide) (by decide) (by decide) dX11_init_146 (fun y13 G => ?_)
  refine a_putF (st := []) G hin ff_X11_87 (fun x => ⟨rfl, rfl⟩) dX11_init_149 rfl ?_
  refine wp_mem (fun z => z = ud (nwM μd12 121 (116, 4)) 0 12 (rf 121)) rfl (fun μd13 hd13 => ?_)
  have H13 : ∀ a, 1 ≤ a → a < 121 → μd13 a = μd12 a := by
    intro a h1 h2
    rw [hd13, ud_o (by omega), nwM_o (by omega)]
  have K1 : ∀ a, 1 ≤ a → a < 3 → μd13 a = μc1 a := fun a h1 h2 => (H13 a (by omega) (by omega)).trans (K1 a h1 h2)
  have K2 : ∀ a, 3 ≤ a → a < 15 → μd13 a = μc2 a := fun a h1 h2 => (H13 a (by omega) (by omega)).trans (K2 a h1 h2)
  have K3 : ∀ a, 15 ≤ a → a < 27 → μd13 a = μc3 a := fun a h1 h2 => (H13 a (by omega) (by omega)).trans (K3 a h1 h2)
  have K4 : ∀ a, 27 ≤ a → a < 30 → μd13 a = μc4 a := fun a h1 h2 => (H13 a (by omega) (by omega)).trans (K4 a h1 h2)
  have K5 : ∀ a, 30 ≤ a → a < 35 → μd13 a = μc5 a := fun a h1 h2 => (H13 a (by omega) (by omega)).trans (K5 a h1 h2)
  have K6 : ∀ a, 35 ≤ a → a < 40 → μd13 a = μc6 a := fun a h1 h2 => (H13 a (by omega) (by omega)).trans (K6 a h1 h2)
  have K7 : ∀ a, 40 ≤ a → a < 44 → μd13 a = μc7 a := fun a h1 h2 => (H13 a (by omega) (by omega)).trans (K7 a h1 h2)
  have K8 : ∀ a, 44 ≤ a → a < 106 → μd13 a = μc8 a := fun a h1 h2 => (H13 a (by omega) (by omega)).trans (K8 a h1 h2)
  have K9 : ∀ a, 106 ≤ a → a < 110 → μd13 a = μc9 a := fun a h1 h2 => (H13 a (by omega) (by omega)).trans (K9 a h1 h2)
  have K10 : ∀ a, 110 ≤ a → a < 114 → μd13 a = μc10 a := fun a h1 h2 => (H13 a (by omega) (by omega)).trans (K10 a h1 h2)
  have K11 : ∀ a, 114 ≤ a → a < 117 → μd13 a = μc11 a := fun a h1 h2 => (H13 a (by omega) (by omega)).trans (K11 a h1 h2)
  have K12 : ∀ a, 117 ≤ a → a < 121 → μd13 a = μc12 a := fun a h1 h2 => (H13 a (by omega) (by omega)).trans (K12 a h1 h2)
  have f0 : μd13 0 0 = rf 1 := by rw [hd13, ud_j (by decide), nwM_o (by decide)]; exact f0
  have f1 : μd13 0 1 = rf 3 := by rw [hd13, ud_j (by decide), nwM_o (by decide)]; exact f1
  have f2 : μd13 0 2 = rf 15 := by rw [hd13, ud_j (by decide), nwM_o (by decide)]; exact f2
  have f3 : μd13 0 3 = rf 27 := by rw [hd13, ud_j (by decide), nwM_o (by decide)]; exact f3
  have f4 : μd13 0 4 = rf 30 := by rw [hd13, ud_j (by decide), nwM_o (by decide)]; exact f4
  have f5 : μd13 0 5 = rf 35 := by rw [hd13, ud_j (by decide), nwM_o (by decide)]; exact f5
  have f6 : μd13 0 6 = rf 40 := by rw [hd13, ud_j (by decide), nwM_o (by decide)]; exact f6
  have f7 : μd13 0 7 = rf 44 := by rw [hd13, ud_j (by decide), nwM_o (by decide)]; exact f7
  have f8 : μd13 0 8 = rf 106 := by rw [hd13, ud_j (by decide), nwM_o (by decide)]; exact f8
  have f9 : μd13 0 9 = rf 110 := by rw [hd13, ud_j (by decide), nwM_o (by decide)]; exact f9
  have f10 : μd13 0 10 = rf 114 := by rw [hd13, ud_j (by decide), nwM_o (by decide)]; exact f10
  have f11 : μd13 0 11 = rf 117 := by rw [hd13, ud_j (by decide), nwM_o (by decide)]; exact f11
  have f12 : μd13 0 12 = rf 121 := by rw [hd13, ud_s]
  have f14 : μd13 0 14 = 0 := by rw [hd13, ud_j (by decide), nwM_o (by decide)]; exact f14
  clear H13 hd13
  refine r_aload_n G dX11_init_152 rfl rfl ?_
  refine r_iconst G dX11_init_153 (by decide) ?_
  refine a_anew (st := [(2, rf 0)]) G hA (ci := 2) (N := 4) (C := RX2) (T := TX2) (nf := 4) rfl (by decide) na_X11_45 hxk.2.1 (by decide) (by decide) (by decide) dX11_init_154 (fun y14 G => ?_)
  refine a_putF (st := []) G hin ff_X11_91 (fun x => ⟨rfl, rfl⟩) dX11_init_157 rfl ?_
  refine wp_mem (fun z => z = ud (nwM μd13 122 (112, 4)) 0 13 (rf 122)) rfl (fun μd14 hd14 => ?_)
  have H14 : ∀ a, 1 ≤ a → a < 122 → μd14 a = μd13 a := by
    intro a h1 h2
    rw [hd14, ud_o (by omega), nwM_o (by omega)]
  have K1 : ∀ a, 1 ≤ a → a < 3 → μd14 a = μc1 a := fun a h1 h2 => (H14 a (by omega) (by omega)).trans (K1 a h1 h2)
  have K2 : ∀ a, 3 ≤ a → a < 15 → μd14 a = μc2 a := fun a h1 h2 => (H14 a (by omega) (by omega)).trans (K2 a h1 h2)
  have K3 : ∀ a, 15 ≤ a → a < 27 → μd14 a = μc3 a := fun a h1 h2 => (H14 a (by omega) (by omega)).trans (K3 a h1 h2)
  have K4 : ∀ a, 27 ≤ a → a < 30 → μd14 a = μc4 a := fun a h1 h2 => (H14 a (by omega) (by omega)).trans (K4 a h1 h2)
  have K5 : ∀ a, 30 ≤ a → a < 35 → μd14 a = μc5 a := fun a h1 h2 => (H14 a (by omega) (by omega)).trans (K5 a h1 h2)
  have K6 : ∀ a, 35 ≤ a → a < 40 → μd14 a = μc6 a := fun a h1 h2 => (H14 a (by omega) (by omega)).trans (K6 a h1 h2)
  have K7 : ∀ a, 40 ≤ a → a < 44 → μd14 a = μc7 a := fun a h1 h2 => (H14 a (by omega) (by omega)).trans (K7 a h1 h2)
  have K8 : ∀ a, 44 ≤ a → a < 106 → μd14 a = μc8 a := fun a h1 h2 => (H14 a (by omega) (by omega)).trans (K8 a h1 h2)
  have K9 : ∀ a, 106 ≤ a → a < 110 → μd14 a = μc9 a := fun a h1 h2 => (H14 a (by omega) (by omega)).trans (K9 a h1 h2)
  have K10 : ∀ a, 110 ≤ a → a < 114 → μd14 a = μc10 a := fun a h1 h2 => (H14 a (by omega) (by omega)).trans (K10 a h1 h2)
  have K11 : ∀ a, 114 ≤ a → a < 117 → μd14 a = μc11 a := fun a h1 h2 => (H14 a (by omega) (by omega)).trans (K11 a h1 h2)
  have K12 : ∀ a, 117 ≤ a → a < 121 → μd14 a = μc12 a := fun a h1 h2 => (H14 a (by omega) (by omega)).trans (K12 a h1 h2)
  have f0 : μd14 0 0 = rf 1 := by rw [hd14, ud_j (by decide), nwM_o (by decide)]; exact f0
  have f1 : μd14 0 1 = rf 3 := by rw [hd14, ud_j (by decide), nwM_o (by decide)]; exact f1
  have f2 : μd14 0 2 = rf 15 := by rw [hd14, ud_j (by decide), nwM_o (by decide)]; exact f2
  have f3 : μd14 0 3 = rf 27 := by rw [hd14, ud_j (by decide), nwM_o (by decide)]; exact f3
  have f4 : μd14 0 4 = rf 30 := by rw [hd14, ud_j (by decide), nwM_o (by decide)]; exact f4
  have f5 : μd14 0 5 = rf 35 := by rw [hd14, ud_j (by decide), nwM_o (by decide)]; exact f5
  have f6 : μd14 0 6 = rf 40 := by rw [hd14, ud_j (by decide), nwM_o (by decide)]; exact f6
  have f7 : μd14 0 7 = rf 44 := by rw [hd14, ud_j (by decide), nwM_o (by decide)]; exact f7
  have f8 : μd14 0 8 = rf 106 := by rw [hd14, ud_j (by decide), nwM_o (by decide)]; exact f8
  have f9 : μd14 0 9 = rf 110 := by rw [hd14, ud_j (by decide), nwM_o (by decide)]; exact f9
  have f10 : μd14 0 10 = rf 114 := by rw [hd14, ud_j (by decide), nwM_o (by decide)]; exact f10
  have f11 : μd14 0 11 = rf 117 := by rw [hd14, ud_j (by decide), nwM_o (by decide)]; exact f11
  have f12 : μd14 0 12 = rf 121 := by rw [hd14, ud_j (by decide), nwM_o (by decide)]; exact f12
  have f13 : μd14 0 13 = rf 122 := by rw [hd14, ud_s]
  have f14 : μd14 0 14 = 0 := by rw [hd14, ud_j (by decide), nwM_o (by decide)]; exact f14
  clear H14 hd14
  refine r_iconst G dX11_init_160 (by decide) ?_
  refine r_istore_n G dX11_init_161 rfl (Nat.le_refl 2) ?_
  refine r_iload_n G dX11_init_162 rfl rfl ?_
  refine r_iconst G dX11_init_163 (by decide) ?_
  refine r_icmp_ge G (tgt := 199) dX11_init_164 rfl (fun h => absurd h (by decide)) (fun _ => ?_)
  refine r_aload_n G dX11_init_167 rfl rfl ?_
  refine r_getf G fl_X11_87 dX11_init_168 (nn := 0) rfl (fun _ => le_of_rf f12) ?_
  refine wp_v (v' := rf 121) f12 ?_
  refine r_iload_n G dX11_init_171 rfl rfl ?_
  refine a_new G hA (ci := 6) (T := TX6) (N := 6) (ty := tyX6) rfl (by decide) inT6 tyX6_ok nw_X11_35 oo_6.1 oo_6.2 dfs_6 (by decide) (by decide) dX11_init_172 (fun y15 G => ?_)
  refine r_dup G dX11_init_175 (by decide) ?_
  refine a_callI (as := []) G hA hxk nX6_init ci_X11_37 rfl ow_6.1 dX11_init_176 (by decide) rfl ⟨123, rfl, rfl, rfl, fun j => congrFun (nwM_n (μ := μd14) (n := 123) (q := (6, 0))) j⟩ (by simp [wd]) (by decide) (by decide) (fun z15 μc15 hpo15 hz15 G => ?_)
  refine a_aast (st := []) (nn := 0) (n := 4) (ci := 6) (C := RX6) (T := TX6) (nf := 6) G dX11_init_179 rfl (by decide) rfl rfl (by decide) (by decide) ?_
  refine wp_mem (fun z => z = ud μc15 121 0 (rf 123)) rfl (fun μd15 hd15 => ?_)
  have kp15 : ∀ a, a < 123 → μc15 a = μd14 a := by
    intro a ha
    rw [hpo15.1 a (by show a + 1 < 124; omega), nwM_o (by show a ≠ 123; omega)]
  have H15 : ∀ a, a < 123 → a ≠ 121 → a ≠ 122 → μd15 a = μd14 a := by
    intro a h1 h2 h3
    rw [hd15, ud_o (by omega), kp15 a h1]
  have K1 : ∀ a, 1 ≤ a → a < 3 → μd15 a = μc1 a := fun a h1 h2 => (H15 a (by omega) (by omega) (by omega)).trans (K1 a h1 h2)
  have K2 : ∀ a, 3 ≤ a → a < 15 → μd15 a = μc2 a := fun a h1 h2 => (H15 a (by omega) (by omega) (by omega)).trans (K2 a h1 h2)
  have K3 : ∀ a, 15 ≤ a → a < 27 → μd15 a = μc3 a := fun a h1 h2 => (H15 a (by omega) (by omega) (by omega)).trans (K3 a h1 h2)
  have K4 : ∀ a, 27 ≤ a → a < 30 → μd15 a = μc4 a := fun a h1 h2 => (H15 a (by omega) (by omega) (by omega)).trans (K4 a h1 h2)
  have K5 : ∀ a, 30 ≤ a → a < 35 → μd15 a = μc5 a := fun a h1 h2 => (H15 a (by omega) (by omega) (by omega)).trans (K5 a h1 h2)
  have K6 : ∀ a, 35 ≤ a → a < 40 → μd15 a = μc6 a := fun a h1 h2 => (H15 a (by omega) (by omega) (by omega)).trans (K6 a h1 h2)
  have K7 : ∀ a, 40 ≤ a → a < 44 → μd15 a = μc7 a := fun a h1 h2 => (H15 a (by omega) (by omega) (by omega)).trans (K7 a h1 h2)
  have K8 : ∀ a, 44 ≤ a → a < 106 → μd15 a = μc8 a := fun a h1 h2 => (H15 a (by omega) (by omega) (by omega)).trans (K8 a h1 h2)
  have K9 : ∀ a, 106 ≤ a → a < 110 → μd15 a = μc9 a := fun a h1 h2 => (H15 a (by omega) (by omega) (by omega)).trans (K9 a h1 h2)
  have K10 : ∀ a, 110 ≤ a → a < 114 → μd15 a = μc10 a := fun a h1 h2 => (H15 a (by omega) (by omega) (by omega)).trans (K10 a h1 h2)
  have K11 : ∀ a, 114 ≤ a → a < 117 → μd15 a = μc11 a := fun a h1 h2 => (H15 a (by omega) (by omega) (by omega)).trans (K11 a h1 h2)
  have K12 : ∀ a, 117 ≤ a → a < 121 → μd15 a = μc12 a := fun a h1 h2 => (H15 a (by omega) (by omega) (by omega)).trans (K12 a h1 h2)
  have f0 : μd15 0 0 = rf 1 := by rw [H15 0 (by omega) (by omega) (by omega)]; exact f0
  have f1 : μd15 0 1 = rf 3 := by rw [H15 0 (by omega) (by omega) (by omega)]; exact f1
  have f2 : μd15 0 2 = rf 15 := by rw [H15 0 (by omega) (by omega) (by omega)]; exact f2
  have f3 : μd15 0 3 = rf 27 := by rw [H15 0 (by omega) (by omega) (by omega)]; exact f3
  have f4 : μd15 0 4 = rf 30 := by rw [H15 0 (by omega) (by omega) (by omega)]; exact f4
  have f5 : μd15 0 5 = rf 35 := by rw [H15 0 (by omega) (by omega) (by omega)]; exact f5
  have f6 : μd15 0 6 = rf 40 := by rw [H15 0 (by omega) (by omega) (by omega)]; exact f6
  have f7 : μd15 0 7 = rf 44 := by rw [H15 0 (by omega) (by omega) (by omega)]; exact f7
  have f8 : μd15 0 8 = rf 106 := by rw [H15 0 (by omega) (by omega) (by omega)]; exact f8
  have f9 : μd15 0 9 = rf 110 := by rw [H15 0 (by omega) (by omega) (by omega)]; exact f9
  have f10 : μd15 0 10 = rf 114 := by rw [H15 0 (by omega) (by omega) (by omega)]; exact f10
  have f11 : μd15 0 11 = rf 117 := by rw [H15 0 (by omega) (by omega) (by omega)]; exact f11
  have f12 : μd15 0 12 = rf 121 := by rw [H15 0 (by omega) (by omega) (by omega)]; exact f12
  have f13 : μd15 0 13 = rf 122 := by rw [H15 0 (by omega) (by omega) (by omega)]; exact f13
  have f14 : μd15 0 14 = 0 := by rw [H15 0 (by omega) (by omega) (by omega)]; exact f14
  have J15 : ∀ a, 123 ≤ a → a < 128 → μd15 a = μc15 a := by
    intro a h1 h2
    rw [hd15, ud_o (by omega)]
  have g121_0 : μd15 121 0 = rf 123 := by rw [hd15, ud_s]
  clear H15 kp15 hd15
  refine r_aload_n G dX11_init_180 rfl rfl ?_
  refine r_getf G fl_X11_91 dX11_init_181 (nn := 0) rfl (fun _ => le_of_rf f13) ?_
  refine wp_v (v' := rf 122) f13 ?_
  refine r_iload_n G dX11_init_184 rfl rfl ?_
  refine a_new G hA (ci := 2) (T := TX2) (N := 4) (ty := tyX2) rfl (by decide) inT2 tyX2_ok nw_X11_45 oo_2.1 oo_2.2 dfs_2 (by decide) (by decide) dX11_init_185 (fun y16 G => ?_)
  refine r_dup G dX11_init_188 (by decide) ?_
  refine a_callN (as := []) G hA hxk nX2_init oo_2.2 ow_2.2 (by decide +kernel) (by decide) hxk.2.2.2.2.1 rfl ow_2.1 dX11_init_189 (by decide) rfl ⟨128, rfl, rfl, rfl, fun j => congrFun (nwM_n (μ := μd15) (n := 128) (q := (2, 0))) j⟩ (by simp [wd]) (by decide) (by decide) (fun z16 μc16 hpo16 hz16 G => ?_)
  refine a_aast (st := []) (nn := 0) (n := 4) (ci := 2) (C := RX2) (T := TX2) (nf := 4) G dX11_init_192 rfl (by decide) rfl rfl (by decide) (by decide) ?_
  refine wp_mem (fun z => z = ud μc16 122 0 (rf 128)) rfl (fun μd16 hd16 => ?_)
  have kp16 : ∀ a, a < 128 → μc16 a = μd15 a := by
    intro a ha
    rw [hpo16.1 a (by show a + 1 < 129; omega), nwM_o (by show a ≠ 128; omega)]
  have H16 : ∀ a, a < 128 → a ≠ 121 → a ≠ 122 → μd16 a = μd15 a := by
    intro a h1 h2 h3
    rw [hd16, ud_o (by omega), kp16 a h1]
  have K1 : ∀ a, 1 ≤ a → a < 3 → μd16 a = μc1 a := fun a h1 h2 => (H16 a (by omega) (by omega) (by omega)).trans (K1 a h1 h2)
  have K2 : ∀ a, 3 ≤ a → a < 15 → μd16 a = μc2 a := fun a h1 h2 => (H16 a (by omega) (by omega) (by omega)).trans (K2 a h1 h2)
  have K3 : ∀ a, 15 ≤ a → a < 27 → μd16 a = μc3 a := fun a h1 h2 => (H16 a (by omega) (by omega) (by omega)).trans (K3 a h1 h2)
  have K4 : ∀ a, 27 ≤ a → a < 30 → μd16 a = μc4 a := fun a h1 h2 => (H16 a (by omega) (by omega) (by omega)).trans (K4 a h1 h2)
  have K5 : ∀ a, 30 ≤ a → a < 35 → μd16 a = μc5 a := fun a h1 h2 => (H16 a (by omega) (by omega) (by omega)).trans (K5 a h1 h2)
  have K6 : ∀ a, 35 ≤ a → a < 40 → μd16 a = μc6 a := fun a h1 h2 => (H16 a (by omega) (by omega) (by omega)).trans (K6 a h1 h2)
  have K7 : ∀ a, 40 ≤ a → a < 44 → μd16 a = μc7 a := fun a h1 h2 => (H16 a (by omega) (by omega) (by omega)).trans (K7 a h1 h2)
  have K8 : ∀ a, 44 ≤ a → a < 106 → μd16 a = μc8 a := fun a h1 h2 => (H16 a (by omega) (by omega) (by omega)).trans (K8 a h1 h2)
  have K9 : ∀ a, 106 ≤ a → a < 110 → μd16 a = μc9 a := fun a h1 h2 => (H16 a (by omega) (by omega) (by omega)).trans (K9 a h1 h2)
  have K10 : ∀ a, 110 ≤ a → a < 114 → μd16 a = μc10 a := fun a h1 h2 => (H16 a (by omega) (by omega) (by omega)).trans (K10 a h1 h2)
  have K11 : ∀ a, 114 ≤ a → a < 117 → μd16 a = μc11 a := fun a h1 h2 => (H16 a (by omega) (by omega) (by omega)).trans (K11 a h1 h2)
  have K12 : ∀ a, 117 ≤ a → a < 121 → μd16 a = μc12 a := fun a h1 h2 => (H16 a (by omega) (by omega) (by omega)).trans (K12 a h1 h2)
  have f0 : μd16 0 0 = rf 1 := by rw [H16 0 (by omega) (by omega) (by omega)]; exact f0
  have f1 : μd16 0 1 = rf 3 := by rw [H16 0 (by omega) (by omega) (by omega)]; exact f1
  have f2 : μd16 0 2 = rf 15 := by rw [H16 0 (by omega) (by omega) (by omega)]; exact f2
  have f3 : μd16 0 3 = rf 27 := by rw [H16 0 (by omega) (by omega) (by omega)]; exact f3
  have f4 : μd16 0 4 = rf 30 := by rw [H16 0 (by omega) (by omega) (by omega)]; exact f4
  have f5 : μd16 0 5 = rf 35 := by rw [H16 0 (by omega) (by omega) (by omega)]; exact f5
  have f6 : μd16 0 6 = rf 40 := by rw [H16 0 (by omega) (by omega) (by omega)]; exact f6
  have f7 : μd16 0 7 = rf 44 := by rw [H16 0 (by omega) (by omega) (by omega)]; exact f7
  have f8 : μd16 0 8 = rf 106 := by rw [H16 0 (by omega) (by omega) (by omega)]; exact f8
  have f9 : μd16 0 9 = rf 110 := by rw [H16 0 (by omega) (by omega) (by omega)]; exact f9
  have f10 : μd16 0 10 = rf 114 := by rw [H16 0 (by omega) (by omega) (by omega)]; exact f10
  have f11 : μd16 0 11 = rf 117 := by rw [H16 0 (by omega) (by omega) (by omega)]; exact f11
  have f12 : μd16 0 12 = rf 121 := by rw [H16 0 (by omega) (by omega) (by omega)]; exact f12
  have f13 : μd16 0 13 = rf 122 := by rw [H16 0 (by omega) (by omega) (by omega)]; exact f13
  have f14 : μd16 0 14 = 0 := by rw [H16 0 (by omega) (by omega) (by omega)]; exact f14
  have J15 : ∀ a, 123 ≤ a → a < 128 → μd16 a = μc15 a := fun a h1 h2 => (H16 a (by omega) (by omega) (by omega)).trans (J15 a h1 h2)
  have J16 : ∀ a, 128 ≤ a → a < 132 → μd16 a = μc16 a := by
    intro a h1 h2
    rw [hd16, ud_o (by omega)]
  have g121_0 : μd16 121 0 = rf 123 := by rw [hd16, ud_o (by decide), kp16 121 (by decide)]; exact g121_0
  have g122_0 : μd16 122 0 = rf 128 := by rw [hd16, ud_s]
  clear H16 kp16 hd16
  refine r_iinc G dX11_init_193 rfl ?_
  refine r_goto G (tgt := 162) dX11_init_196 rfl ?_
  rw [show w32 ((0 : Int) + 1) = 1 from w32_id ⟨by decide, by decide⟩]
  refine r_iload_n G dX11_init_162 rfl rfl ?_
  refine r_iconst G dX11_init_163 (by decide) ?_
  refine r_icmp_ge G (tgt := 199) dX11_init_164 rfl (fun h => absurd h (by decide)) (fun _ => ?_)
  refine r_aload_n G dX11_init_167 rfl rfl ?_
  refine r_getf G fl_X11_87 dX11_init_168 (nn := 0) rfl (fun _ => le_of_rf f12) ?_
  refine wp_v (v' := rf 121) f12 ?_
  refine r_iload_n G dX11_init_171 rfl rfl ?_
  refine a_new G hA (ci := 6) (T := TX6) (N := 6) (ty := tyX6) rfl (by decide) inT6 tyX6_ok nw_X11_35 oo_6.1 oo_6.2 dfs_6 (by decide) (by decide) dX11_init_172 (fun y17 G => ?_)
  refine r_dup G dX11_init_175 (by decide) ?_
  refine a_callI (as := []) G hA hxk nX6_init ci_X11_37 rfl ow_6.1 dX11_init_176 (by decide) rfl ⟨132, rfl, rfl, rfl, fun j => congrFun (nwM_n (μ := μd16) (n := 132) (q := (6, 0))) j⟩ (by simp [wd]) (by decide) (by decide) (fun z17 μc17 hpo17 hz17 G => ?_)
  refine a_aast (st := []) (nn := 0) (n := 4) (ci := 6) (C := RX6) (T := TX6) (nf := 6) G dX11_init_179 rfl (by decide) rfl rfl (by decide) (by decide) ?_
  refine wp_mem (fun z => z = ud μc17 121 1 (rf 132)) rfl (fun μd17 hd17 => ?_)
  have kp17 : ∀ a, a < 132 → μc17 a = μd16 a := by
    intro a ha
    rw [hpo17.1 a (by show a + 1 < 133; omega), nwM_o (by show a ≠ 132; omega)]
  have H17 : ∀ a, a < 132 → a ≠ 121 → a ≠ 122 → μd17 a = μd16 a := by
    intro a h1 h2 h3
    rw [hd17, ud_o (by omega), kp17 a h1]
  have K1 : ∀ a, 1 ≤ a → a < 3 → μd17 a = μc1 a := fun a h1 h2 => (H17 a (by omega) (by omega) (by omega)).trans (K1 a h1 h2)
  have K2 : ∀ a, 3 ≤ a → a < 15 → μd17 a = μc2 a := fun a h1 h2 => (H17 a (by omega) (by omega) (by omega)).trans (K2 a h1 h2)
  have K3 : ∀ a, 15 ≤ a → a < 27 → μd17 a = μc3 a := fun a h1 h2 => (H17 a (by omega) (by omega) (by omega)).trans (K3 a h1 h2)
  have K4 : ∀ a, 27 ≤ a → a < 30 → μd17 a = μc4 a := fun a h1 h2 => (H17 a (by omega) (by omega) (by omega)).trans (K4 a h1 h2)
  have K5 : ∀ a, 30 ≤ a → a < 35 → μd17 a = μc5 a := fun a h1 h2 => (H17 a (by omega) (by omega) (by omega)).trans (K5 a h1 h2)
  have K6 : ∀ a, 35 ≤ a → a < 40 → μd17 a = μc6 a := fun a h1 h2 => (H17 a (by omega) (by omega) (by omega)).trans (K6 a h1 h2)
  have K7 : ∀ a, 40 ≤ a → a < 44 → μd17 a = μc7 a := fun a h1 h2 => (H17 a (by omega) (by omega) (by omega)).trans (K7 a h1 h2)
  have K8 : ∀ a, 44 ≤ a → a < 106 → μd17 a = μc8 a := fun a h1 h2 => (H17 a (by omega) (by omega) (by omega)).trans (K8 a h1 h2)
  have K9 : ∀ a, 106 ≤ a → a < 110 → μd17 a = μc9 a := fun a h1 h2 => (H17 a (by omega) (by omega) (by omega)).trans (K9 a h1 h2)
  have K10 : ∀ a, 110 ≤ a → a < 114 → μd17 a = μc10 a := fun a h1 h2 => (H17 a (by omega) (by omega) (by omega)).trans (K10 a h1 h2)
  have K11 : ∀ a, 114 ≤ a → a < 117 → μd17 a = μc11 a := fun a h1 h2 => (H17 a (by omega) (by omega) (by omega)).trans (K11 a h1 h2)
  have K12 : ∀ a, 117 ≤ a → a < 121 → μd17 a = μc12 a := fun a h1 h2 => (H17 a (by omega) (by omega) (by omega)).trans (K12 a h1 h2)
  have f0 : μd17 0 0 = rf 1 := by rw [H17 0 (by omega) (by omega) (by omega)]; exact f0
  have f1 : μd17 0 1 = rf 3 := by rw [H17 0 (by omega) (by omega) (by omega)]; exact f1
  have f2 : μd17 0 2 = rf 15 := by rw [H17 0 (by omega) (by omega) (by omega)]; exact f2
  have f3 : μd17 0 3 = rf 27 := by rw [H17 0 (by omega) (by omega) (by omega)]; exact f3
  have f4 : μd17 0 4 = rf 30 := by rw [H17 0 (by omega) (by omega) (by omega)]; exact f4
  have f5 : μd17 0 5 = rf 35 := by rw [H17 0 (by omega) (by omega) (by omega)]; exact f5
  have f6 : μd17 0 6 = rf 40 := by rw [H17 0 (by omega) (by omega) (by omega)]; exact f6
  have f7 : μd17 0 7 = rf 44 := by rw [H17 0 (by omega) (by omega) (by omega)]; exact f7
  have f8 : μd17 0 8 = rf 106 := by rw [H17 0 (by omega) (by omega) (by omega)]; exact f8
  have f9 : μd17 0 9 = rf 110 := by rw [H17 0 (by omega) (by omega) (by omega)]; exact f9
  have f10 : μd17 0 10 = rf 114 := by rw [H17 0 (by omega) (by omega) (by omega)]; exact f10
  have f11 : μd17 0 11 = rf 117 := by rw [H17 0 (by omega) (by omega) (by omega)]; exact f11
  have f12 : μd17 0 12 = rf 121 := by rw [H17 0 (by omega) (by omega) (by omega)]; exact f12
  have f13 : μd17 0 13 = rf 122 := by rw [H17 0 (by omega) (by omega) (by omega)]; exact f13
  have f14 : μd17 0 14 = 0 := by rw [H17 0 (by omega) (by omega) (by omega)]; exact f14
  have J15 : ∀ a, 123 ≤ a → a < 128 → μd17 a = μc15 a := fun a h1 h2 => (H17 a (by omega) (by omega) (by omega)).trans (J15 a h1 h2)
  have J16 : ∀ a, 128 ≤ a → a < 132 → μd17 a = μc16 a := fun a h1 h2 => (H17 a (by omega) (by omega) (by omega)).trans (J16 a h1 h2)
  have J17 : ∀ a, 132 ≤ a → a < 137 → μd17 a = μc17 a := by
    intro a h1 h2
    rw [hd17, ud_o (by omega)]
  have g121_0 : μd17 121 0 = rf 123 := by rw [hd17, ud_j (by decide), kp17 121 (by decide)]; exact g121_0
  have g122_0 : μd17 122 0 = rf 128 := by rw [hd17, ud_o (by decide), kp17 122 (by decide)]; exact g122_0
  have g121_1 : μd17 121 1 = rf 132 := by rw [hd17, ud_s]
  clear H17 kp17 hd17
  refine r_aload_n G dX11_init_180 rfl rfl ?_
  refine r_getf G fl_X11_91 dX11_init_181 (nn := 0) rfl (fun _ => le_of_rf f13) ?_
  refine wp_v (v' := rf 122) f13 ?_
  refine r_iload_n G dX11_init_184 rfl rfl ?_
  refine a_new G hA (ci := 2) (T := TX2) (N := 4) (ty := tyX2) rfl (by decide) inT2 tyX2_ok nw_X11_45 oo_2.1 oo_2.2 dfs_2 (by decide) (by decide) dX11_init_185 (fun y18 G => ?_)
  refine r_dup G dX11_init_188 (by decide) ?_
  refine a_callN (as := []) G hA hxk nX2_init oo_2.2 ow_2.2 (by decide +kernel) (by decide) hxk.2.2.2.2.1 rfl ow_2.1 dX11_init_189 (by decide) rfl ⟨137, rfl, rfl, rfl, fun j => congrFun (nwM_n (μ := μd17) (n := 137) (q := (2, 0))) j⟩ (by simp [wd]) (by decide) (by decide) (fun z18 μc18 hpo18 hz18 G => ?_)
  refine a_aast (st := []) (nn := 0) (n := 4) (ci := 2) (C := RX2) (T := TX2) (nf := 4) G dX11_init_192 rfl (by decide) rfl rfl (by decide) (by decide) ?_
  refine wp_mem (fun z => z = ud μc18 122 1 (rf 137)) rfl (fun μd18 hd18 => ?_)
  have kp18 : ∀ a, a < 137 → μc18 a = μd17 a := by
    intro a ha
    rw [hpo18.1 a (by show a + 1 < 138; omega), nwM_o (by show a ≠ 137; omega)]
  have H18 : ∀ a, a < 137 → a ≠ 121 → a ≠ 122 → μd18 a = μd17 a := by
    intro a h1 h2 h3
    rw [hd18, ud_o (by omega), kp18 a h1]
  have K1 : ∀ a, 1 ≤ a → a < 3 → μd18 a = μc1 a := fun a h1 h2 => (H18 a (by omega) (by omega) (by omega)).trans (K1 a h1 h2)
  have K2 : ∀ a, 3 ≤ a → a < 15 → μd18 a = μc2 a := fun a h1 h2 => (H18 a (by omega) (by omega) (by omega)).trans (K2 a h1 h2)
  have K3 : ∀ a, 15 ≤ a → a < 27 → μd18 a = μc3 a := fun a h1 h2 => (H18 a (by omega) (by omega) (by omega)).trans (K3 a h1 h2)
  have K4 : ∀ a, 27 ≤ a → a < 30 → μd18 a = μc4 a := fun a h1 h2 => (H18 a (by omega) (by omega) (by omega)).trans (K4 a h1 h2)
  have K5 : ∀ a, 30 ≤ a → a < 35 → μd18 a = μc5 a := fun a h1 h2 => (H18 a (by omega) (by omega) (by omega)).trans (K5 a h1 h2)
  have K6 : ∀ a, 35 ≤ a → a < 40 → μd18 a = μc6 a := fun a h1 h2 => (H18 a (by omega) (by omega) (by omega)).trans (K6 a h1 h2)
  have K7 : ∀ a, 40 ≤ a → a < 44 → μd18 a = μc7 a := fun a h1 h2 => (H18 a (by omega) (by omega) (by omega)).trans (K7 a h1 h2)
  have K8 : ∀ a, 44 ≤ a → a < 106 → μd18 a = μc8 a := fun a h1 h2 => (H18 a (by omega) (by omega) (by omega)).trans (K8 a h1 h2)
  have K9 : ∀ a, 106 ≤ a → a < 110 → μd18 a = μc9 a := fun a h1 h2 => (H18 a (by omega) (by omega) (by omega)).trans (K9 a h1 h2)
  have K10 : ∀ a, 110 ≤ a → a < 114 → μd18 a = μc10 a := fun a h1 h2 => (H18 a (by omega) (by omega) (by omega)).trans (K10 a h1 h2)
  have K11 : ∀ a, 114 ≤ a → a < 117 → μd18 a = μc11 a := fun a h1 h2 => (H18 a (by omega) (by omega) (by omega)).trans (K11 a h1 h2)
  have K12 : ∀ a, 117 ≤ a → a < 121 → μd18 a = μc12 a := fun a h1 h2 => (H18 a (by omega) (by omega) (by omega)).trans (K12 a h1 h2)
  have f0 : μd18 0 0 = rf 1 := by rw [H18 0 (by omega) (by omega) (by omega)]; exact f0
  have f1 : μd18 0 1 = rf 3 := by rw [H18 0 (by omega) (by omega) (by omega)]; exact f1
  have f2 : μd18 0 2 = rf 15 := by rw [H18 0 (by omega) (by omega) (by omega)]; exact f2
  have f3 : μd18 0 3 = rf 27 := by rw [H18 0 (by omega) (by omega) (by omega)]; exact f3
  have f4 : μd18 0 4 = rf 30 := by rw [H18 0 (by omega) (by omega) (by omega)]; exact f4
  have f5 : μd18 0 5 = rf 35 := by rw [H18 0 (by omega) (by omega) (by omega)]; exact f5
  have f6 : μd18 0 6 = rf 40 := by rw [H18 0 (by omega) (by omega) (by omega)]; exact f6
  have f7 : μd18 0 7 = rf 44 := by rw [H18 0 (by omega) (by omega) (by omega)]; exact f7
  have f8 : μd18 0 8 = rf 106 := by rw [H18 0 (by omega) (by omega) (by omega)]; exact f8
  have f9 : μd18 0 9 = rf 110 := by rw [H18 0 (by omega) (by omega) (by omega)]; exact f9
  have f10 : μd18 0 10 = rf 114 := by rw [H18 0 (by omega) (by omega) (by omega)]; exact f10
  have f11 : μd18 0 11 = rf 117 := by rw [H18 0 (by omega) (by omega) (by omega)]; exact f11
  have f12 : μd18 0 12 = rf 121 := by rw [H18 0 (by omega) (by omega) (by omega)]; exact f12
  have f13 : μd18 0 13 = rf 122 := by rw [H18 0 (by omega) (by omega) (by omega)]; exact f13
  have f14 : μd18 0 14 = 0 := by rw [H18 0 (by omega) (by omega) (by omega)]; exact f14
  have J15 : ∀ a, 123 ≤ a → a < 128 → μd18 a = μc15 a := fun a h1 h2 => (H18 a (by omega) (by omega) (by omega)).trans (J15 a h1 h2)
  have J16 : ∀ a, 128 ≤ a → a < 132 → μd18 a = μc16 a := fun a h1 h2 => (H18 a (by omega) (by omega) (by omega)).trans (J16 a h1 h2)
  have J17 : ∀ a, 132 ≤ a → a < 137 → μd18 a = μc17 a := fun a h1 h2 => (H18 a (by omega) (by omega) (by omega)).trans (J17 a h1 h2)
  have J18 : ∀ a, 137 ≤ a → a < 141 → μd18 a = μc18 a := by
    intro a h1 h2
    rw [hd18, ud_o (by omega)]
  have g121_0 : μd18 121 0 = rf 123 := by rw [hd18, ud_o (by decide), kp18 121 (by decide)]; exact g121_0
  have g121_1 : μd18 121 1 = rf 132 := by rw [hd18, ud_o (by decide), kp18 121 (by decide)]; exact g121_1
  have g122_0 : μd18 122 0 = rf 128 := by rw [hd18, ud_j (by decide), kp18 122 (by decide)]; exact g122_0
  have g122_1 : μd18 122 1 = rf 137 := by rw [hd18, ud_s]
  clear H18 kp18 hd18
  refine r_iinc G dX11_init_193 rfl ?_
  refine r_goto G (tgt := 162) dX11_init_196 rfl ?_
  rw [show w32 ((1 : Int) + 1) = 2 from w32_id ⟨by decide, by decide⟩]
  refine r_iload_n G dX11_init_162 rfl rfl ?_
  refine r_iconst G dX11_init_163 (by decide) ?_
  refine r_icmp_ge G (tgt := 199) dX11_init_164 rfl (fun h => absurd h (by decide)) (fun _ => ?_)
  refine r_aload_n G dX11_init_167 rfl rfl ?_
  refine r_getf G fl_X11_87 dX11_init_168 (nn := 0) rfl (fun _ => le_of_rf f12) ?_
  refine wp_v (v' := rf 121) f12 ?_
  refine r_iload_n G dX11_init_171 rfl rfl ?_
  refine a_new G hA (ci := 6) (T := TX6) (N := 6) (ty := tyX6) rfl (by decide) inT6 tyX6_ok nw_X11_35 oo_6.1 oo_6.2 dfs_6 (by decide) (by decide) dX11_init_172 (fun y19 G => ?_)
  refine r_dup G dX11_init_175 (by decide) ?_
  refine a_callI (as := []) G hA hxk nX6_init ci_X11_37 rfl ow_6.1 dX11_init_176 (by decide) rfl ⟨141, rfl, rfl, rfl, fun j => congrFun (nwM_n (μ := μd18) (n := 141) (q := (6, 0))) j⟩ (by simp [wd]) (by decide) (by decide) (fun z19 μc19 hpo19 hz19 G => ?_)
  refine a_aast (st := []) (nn := 0) (n := 4) (ci := 6) (C := RX6) (T := TX6) (nf := 6) G dX11_init_179 rfl (by decide) rfl rfl (by decide) (by decide) ?_
  refine wp_mem (fun z => z = ud μc19 121 2 (rf 141)) rfl (fun μd19 hd19 => ?_)
  have kp19 : ∀ a, a < 141 → μc19 a = μd18 a := by
    intro a ha
    rw [hpo19.1 a (by show a + 1 < 142; omega), nwM_o (by show a ≠ 141; omega)]
  have H19 : ∀ a, a < 141 → a ≠ 121 → a ≠ 122 → μd19 a = μd18 a := by
    intro a h1 h2 h3
    rw [hd19, ud_o (by omega), kp19 a h1]
  have K1 : ∀ a, 1 ≤ a → a < 3 → μd19 a = μc1 a := fun a h1 h2 => (H19 a (by omega) (by omega) (by omega)).trans (K1 a h1 h2)
  have K2 : ∀ a, 3 ≤ a → a < 15 → μd19 a = μc2 a := fun a h1 h2 => (H19 a (by omega) (by omega) (by omega)).trans (K2 a h1 h2)
  have K3 : ∀ a, 15 ≤ a → a < 27 → μd19 a = μc3 a := fun a h1 h2 => (H19 a (by omega) (by omega) (by omega)).trans (K3 a h1 h2)
  have K4 : ∀ a, 27 ≤ a → a < 30 → μd19 a = μc4 a := fun a h1 h2 => (H19 a (by omega) (by omega) (by omega)).trans (K4 a h1 h2)
  have K5 : ∀ a, 30 ≤ a → a < 35 → μd19 a = μc5 a := fun a h1 h2 => (H19 a (by omega) (by omega) (by omega)).trans (K5 a h1 h2)
  have K6 : ∀ a, 35 ≤ a → a < 40 → μd19 a = μc6 a := fun a h1 h2 => (H19 a (by omega) (by omega) (by omega)).trans (K6 a h1 h2)
  have K7 : ∀ a, 40 ≤ a → a < 44 → μd19 a = μc7 a := fun a h1 h2 => (H19 a (by omega) (by omega) (by omega)).trans (K7 a h1 h2)
  have K8 : ∀ a, 44 ≤ a → a < 106 → μd19 a = μc8 a := fun a h1 h2 => (H19 a (by omega) (by omega) (by omega)).trans (K8 a h1 h2)
  have K9 : ∀ a, 106 ≤ a → a < 110 → μd19 a = μc9 a := fun a h1 h2 => (H19 a (by omega) (by omega) (by omega)).trans (K9 a h1 h2)
  have K10 : ∀ a, 110 ≤ a → a < 114 → μd19 a = μc10 a := fun a h1 h2 => (H19 a (by omega) (by omega) (by omega)).trans (K10 a h1 h2)
  have K11 : ∀ a, 114 ≤ a → a < 117 → μd19 a = μc11 a := fun a h1 h2 => (H19 a (by omega) (by omega) (by omega)).trans (K11 a h1 h2)
  have K12 : ∀ a, 117 ≤ a → a < 121 → μd19 a = μc12 a := fun a h1 h2 => (H19 a (by omega) (by omega) (by omega)).trans (K12 a h1 h2)
  have f0 : μd19 0 0 = rf 1 := by rw [H19 0 (by omega) (by omega) (by omega)]; exact f0
  have f1 : μd19 0 1 = rf 3 := by rw [H19 0 (by omega) (by omega) (by omega)]; exact f1
  have f2 : μd19 0 2 = rf 15 := by rw [H19 0 (by omega) (by omega) (by omega)]; exact f2
  have f3 : μd19 0 3 = rf 27 := by rw [H19 0 (by omega) (by omega) (by omega)]; exact f3
  have f4 : μd19 0 4 = rf 30 := by rw [H19 0 (by omega) (by omega) (by omega)]; exact f4
  have f5 : μd19 0 5 = rf 35 := by rw [H19 0 (by omega) (by omega) (by omega)]; exact f5
  have f6 : μd19 0 6 = rf 40 := by rw [H19 0 (by omega) (by omega) (by omega)]; exact f6
  have f7 : μd19 0 7 = rf 44 := by rw [H19 0 (by omega) (by omega) (by omega)]; exact f7
  have f8 : μd19 0 8 = rf 106 := by rw [H19 0 (by omega) (by omega) (by omega)]; exact f8
  have f9 : μd19 0 9 = rf 110 := by rw [H19 0 (by omega) (by omega) (by omega)]; exact f9
  have f10 : μd19 0 10 = rf 114 := by rw [H19 0 (by omega) (by omega) (by omega)]; exact f10
  have f11 : μd19 0 11 = rf 117 := by rw [H19 0 (by omega) (by omega) (by omega)]; exact f11
  have f12 : μd19 0 12 = rf 121 := by rw [H19 0 (by omega) (by omega) (by omega)]; exact f12
  have f13 : μd19 0 13 = rf 122 := by rw [H19 0 (by omega) (by omega) (by omega)]; exact f13
  have f14 : μd19 0 14 = 0 := by rw [H19 0 (by omega) (by omega) (by omega)]; exact f14
  have J15 : ∀ a, 123 ≤ a → a < 128 → μd19 a = μc15 a := fun a h1 h2 => (H19 a (by omega) (by omega) (by omega)).trans (J15 a h1 h2)
  have J16 : ∀ a, 128 ≤ a → a < 132 → μd19 a = μc16 a := fun a h1 h2 => (H19 a (by omega) (by omega) (by omega)).trans (J16 a h1 h2)
  have J17 : ∀ a, 132 ≤ a → a < 137 → μd19 a = μc17 a := fun a h1 h2 => (H19 a (by omega) (by omega) (by omega)).trans (J17 a h1 h2)
  have J18 : ∀ a, 137 ≤ a → a < 141 → μd19 a = μc18 a := fun a h1 h2 => (H19 a (by omega) (by omega) (by omega)).trans (J18 a h1 h2)
  have J19 : ∀ a, 141 ≤ a → a < 146 → μd19 a = μc19 a := by
    intro a h1 h2
    rw [hd19, ud_o (by omega)]
  have g121_0 : μd19 121 0 = rf 123 := by rw [hd19, ud_j (by decide), kp19 121 (by decide)]; exact g121_0
  have g121_1 : μd19 121 1 = rf 132 := by rw [hd19, ud_j (by decide), kp19 121 (by decide)]; exact g121_1
  have g122_0 : μd19 122 0 = rf 128 := by rw [hd19, ud_o (by decide), kp19 122 (by decide)]; exact g122_0
  have g122_1 : μd19 122 1 = rf 137 := by rw [hd19, ud_o (by decide), kp19 122 (by decide)]; exact g122_1
  have g121_2 : μd19 121 2 = rf 141 := by rw [hd19, ud_s]
  clear H19 kp19 hd19
  refine r_aload_n G dX11_init_180 rfl rfl ?_
  refine r_getf G fl_X11_91 dX11_init_181 (nn := 0) rfl (fun _ => le_of_rf f13) ?_
  refine wp_v (v' := rf 122) f13 ?_
  refine r_iload_n G dX11_init_184 rfl rfl ?_
  refine a_new G hA (ci := 2) (T := TX2) (N := 4) (ty := tyX2) rfl (by decide) inT2 tyX2_ok nw_X11_45 oo_2.1 oo_2.2 dfs_2 (by decide) (by decide) dX11_init_185 (fun y20 G => ?_)
  refine r_dup G dX11_init_188 (by decide) ?_
  refine a_callN (as := []) G hA hxk nX2_init oo_2.2 ow_2.2 (by decide +kernel) (by decide) hxk.2.2.2.2.1 rfl ow_2.1 dX11_init_189 (by decide) rfl ⟨146, rfl, rfl, rfl, fun j => congrFun (nwM_n (μ := μd19) (n := 146) (q := (2, 0))) j⟩ (by simp [wd]) (by decide) (by decide) (fun z20 μc20 hpo20 hz20 G => ?_)
  refine a_aast (st := []) (nn := 0) (n := 4) (ci := 2) (C := RX2) (T := TX2) (nf := 4) G dX11_init_192 rfl (by decide) rfl rfl (by decide) (by decide) ?_
  refine wp_mem (fun z => z = ud μc20 122 2 (rf 146)) rfl (fun μd20 hd20 => ?_)
  have kp20 : ∀ a, a < 146 → μc20 a = μd19 a := by
    intro a ha
    rw [hpo20.1 a (by show a + 1 < 147; omega), nwM_o (by show a ≠ 146; omega)]
  have H20 : ∀ a, a < 146 → a ≠ 121 → a ≠ 122 → μd20 a = μd19 a := by
    intro a h1 h2 h3
    rw [hd20, ud_o (by omega), kp20 a h1]
  have K1 : ∀ a, 1 ≤ a → a < 3 → μd20 a = μc1 a := fun a h1 h2 => (H20 a (by omega) (by omega) (by omega)).trans (K1 a h1 h2)
  have K2 : ∀ a, 3 ≤ a → a < 15 → μd20 a = μc2 a := fun a h1 h2 => (H20 a (by omega) (by omega) (by omega)).trans (K2 a h1 h2)
  have K3 : ∀ a, 15 ≤ a → a < 27 → μd20 a = μc3 a := fun a h1 h2 => (H20 a (by omega) (by omega) (by omega)).trans (K3 a h1 h2)
  have K4 : ∀ a, 27 ≤ a → a < 30 → μd20 a = μc4 a := fun a h1 h2 => (H20 a (by omega) (by omega) (by omega)).trans (K4 a h1 h2)
  have K5 : ∀ a, 30 ≤ a → a < 35 → μd20 a = μc5 a := fun a h1 h2 => (H20 a (by omega) (by omega) (by omega)).trans (K5 a h1 h2)
  have K6 : ∀ a, 35 ≤ a → a < 40 → μd20 a = μc6 a := fun a h1 h2 => (H20 a (by omega) (by omega) (by omega)).trans (K6 a h1 h2)
  have K7 : ∀ a, 40 ≤ a → a < 44 → μd20 a = μc7 a := fun a h1 h2 => (H20 a (by omega) (by omega) (by omega)).trans (K7 a h1 h2)
  have K8 : ∀ a, 44 ≤ a → a < 106 → μd20 a = μc8 a := fun a h1 h2 => (H20 a (by omega) (by omega) (by omega)).trans (K8 a h1 h2)
  have K9 : ∀ a, 106 ≤ a → a < 110 → μd20 a = μc9 a := fun a h1 h2 => (H20 a (by omega) (by omega) (by omega)).trans (K9 a h1 h2)
  have K10 : ∀ a, 110 ≤ a → a < 114 → μd20 a = μc10 a := fun a h1 h2 => (H20 a (by omega) (by omega) (by omega)).trans (K10 a h1 h2)
  have K11 : ∀ a, 114 ≤ a → a < 117 → μd20 a = μc11 a := fun a h1 h2 => (H20 a (by omega) (by omega) (by omega)).trans (K11 a h1 h2)
  have K12 : ∀ a, 117 ≤ a → a < 121 → μd20 a = μc12 a := fun a h1 h2 => (H20 a (by omega) (by omega) (by omega)).trans (K12 a h1 h2)
  have f0 : μd20 0 0 = rf 1 := by rw [H20 0 (by omega) (by omega) (by omega)]; exact f0
  have f1 : μd20 0 1 = rf 3 := by rw [H20 0 (by omega) (by omega) (by omega)]; exact f1
  have f2 : μd20 0 2 = rf 15 := by rw [H20 0 (by omega) (by omega) (by omega)]; exact f2
  have f3 : μd20 0 3 = rf 27 := by rw [H20 0 (by omega) (by omega) (by omega)]; exact f3
  have f4 : μd20 0 4 = rf 30 := by rw [H20 0 (by omega) (by omega) (by omega)]; exact f4
  have f5 : μd20 0 5 = rf 35 := by rw [H20 0 (by omega) (by omega) (by omega)]; exact f5
  have f6 : μd20 0 6 = rf 40 := by rw [H20 0 (by omega) (by omega) (by omega)]; exact f6
  have f7 : μd20 0 7 = rf 44 := by rw [H20 0 (by omega) (by omega) (by omega)]; exact f7
  have f8 : μd20 0 8 = rf 106 := by rw [H20 0 (by omega) (by omega) (by omega)]; exact f8
  have f9 : μd20 0 9 = rf 110 := by rw [H20 0 (by omega) (by omega) (by omega)]; exact f9
  have f10 : μd20 0 10 = rf 114 := by rw [H20 0 (by omega) (by omega) (by omega)]; exact f10
  have f11 : μd20 0 11 = rf 117 := by rw [H20 0 (by omega) (by omega) (by omega)]; exact f11
  have f12 : μd20 0 12 = rf 121 := by rw [H20 0 (by omega) (by omega) (by omega)]; exact f12
  have f13 : μd20 0 13 = rf 122 := by rw [H20 0 (by omega) (by omega) (by omega)]; exact f13
  have f14 : μd20 0 14 = 0 := by rw [H20 0 (by omega) (by omega) (by omega)]; exact f14
  have J15 : ∀ a, 123 ≤ a → a < 128 → μd20 a = μc15 a := fun a h1 h2 => (H20 a (by omega) (by omega) (by omega)).trans (J15 a h1 h2)
  have J16 : ∀ a, 128 ≤ a → a < 132 → μd20 a = μc16 a := fun a h1 h2 => (H20 a (by omega) (by omega) (by omega)).trans (J16 a h1 h2)
  have J17 : ∀ a, 132 ≤ a → a < 137 → μd20 a = μc17 a := fun a h1 h2 => (H20 a (by omega) (by omega) (by omega)).trans (J17 a h1 h2)
  have J18 : ∀ a, 137 ≤ a → a < 141 → μd20 a = μc18 a := fun a h1 h2 => (H20 a (by omega) (by omega) (by omega)).trans (J18 a h1 h2)
  have J19 : ∀ a, 141 ≤ a → a < 146 → μd20 a = μc19 a := fun a h1 h2 => (H20 a (by omega) (by omega) (by omega)).trans (J19 a h1 h2)
  have J20 : ∀ a, 146 ≤ a → a < 150 → μd20 a = μc20 a := by
    intro a h1 h2
    rw [hd20, ud_o (by omega)]
  have g121_0 : μd20 121 0 = rf 123 := by rw [hd20, ud_o (by decide), kp20 121 (by decide)]; exact g121_0
  have g121_1 : μd20 121 1 = rf 132 := by rw [hd20, ud_o (by decide), kp20 121 (by decide)]; exact g121_1
  have g121_2 : μd20 121 2 = rf 141 := by rw [hd20, ud_o (by decide), kp20 121 (by decide)]; exact g121_2
  have g122_0 : μd20 122 0 = rf 128 := by rw [hd20, ud_j (by decide), kp20 122 (by decide)]; exact g122_0
  have g122_1 : μd20 122 1 = rf 137 := by rw [hd20, ud_j (by decide), kp20 122 (by decide)]; exact g122_1
  have g122_2 : μd20 122 2 = rf 146 := by rw [hd20, ud_s]
  clear H20 kp20 hd20
  refine r_iinc G dX11_init_193 rfl ?_
  refine r_goto G (tgt := 162) dX11_init_196 rfl ?_
  rw [show w32 ((2 : Int) + 1) = 3 from w32_id ⟨by decide, by decide⟩]
  refine r_iload_n G dX11_init_162 rfl rfl ?_
  refine r_iconst G dX11_init_163 (by decide) ?_
  refine r_icmp_ge G (tgt := 199) dX11_init_164 rfl (fun h => absurd h (by decide)) (fun _ => ?_)
  refine r_aload_n G dX11_init_167 rfl rfl ?_
  refine r_getf G fl_X11_87 dX11_init_168 (nn := 0) rfl (fun _ => le_of_rf f12) ?_
  refine wp_v (v' := rf 121) f12 ?_
  refine r_iload_n G dX11_init_171 rfl rfl ?_
  refine a_new G hA (ci := 6) (T := TX6) (N := 6) (ty := tyX6) rfl (by decide) inT6 tyX6_ok nw_X11_35 oo_6.1 oo_6.2 dfs_6 (by decide) (by decide) dX11_init_172 (fun y21 G => ?_)
  refine r_dup G dX11_init_175 (by decide) ?_
  refine a_callI (as := []) G hA hxk nX6_init ci_X11_37 rfl ow_6.1 dX11_init_176 (by decide) rfl ⟨150, rfl, rfl, rfl, fun j => congrFun (nwM_n (μ := μd20) (n := 150) (q := (6, 0))) j⟩ (by simp [wd]) (by decide) (by decide) (fun z21 μc21 hpo21 hz21 G => ?_)
  refine a_aast (st := []) (nn := 0) (n := 4) (ci := 6) (C := RX6) (T := TX6) (nf := 6) G dX11_init_179 rfl (by decide) rfl rfl (by decide) (by decide) ?_
  refine wp_mem (fun z => z = ud μc21 121 3 (rf 150)) rfl (fun μd21 hd21 => ?_)
  have kp21 : ∀ a, a < 150 → μc21 a = μd20 a := by
    intro a ha
    rw [hpo21.1 a (by show a + 1 < 151; omega), nwM_o (by show a ≠ 150; omega)]
  have H21 : ∀ a, a < 150 → a ≠ 121 → a ≠ 122 → μd21 a = μd20 a := by
    intro a h1 h2 h3
    rw [hd21, ud_o (by omega), kp21 a h1]
  have K1 : ∀ a, 1 ≤ a → a < 3 → μd21 a = μc1 a := fun a h1 h2 => (H21 a (by omega) (by omega) (by omega)).trans (K1 a h1 h2)
  have K2 : ∀ a, 3 ≤ a → a < 15 → μd21 a = μc2 a := fun a h1 h2 => (H21 a (by omega) (by omega) (by omega)).trans (K2 a h1 h2)
  have K3 : ∀ a, 15 ≤ a → a < 27 → μd21 a = μc3 a := fun a h1 h2 => (H21 a (by omega) (by omega) (by omega)).trans (K3 a h1 h2)
  have K4 : ∀ a, 27 ≤ a → a < 30 → μd21 a = μc4 a := fun a h1 h2 => (H21 a (by omega) (by omega) (by omega)).trans (K4 a h1 h2)
  have K5 : ∀ a, 30 ≤ a → a < 35 → μd21 a = μc5 a := fun a h1 h2 => (H21 a (by omega) (by omega) (by omega)).trans (K5 a h1 h2)
  have K6 : ∀ a, 35 ≤ a → a < 40 → μd21 a = μc6 a := fun a h1 h2 => (H21 a (by omega) (by omega) (by omega)).trans (K6 a h1 h2)
  have K7 : ∀ a, 40 ≤ a → a < 44 → μd21 a = μc7 a := fun a h1 h2 => (H21 a (by omega) (by omega) (by omega)).trans (K7 a h1 h2)
  have K8 : ∀ a, 44 ≤ a → a < 106 → μd21 a = μc8 a := fun a h1 h2 => (H21 a (by omega) (by omega) (by omega)).trans (K8 a h1 h2)
  have K9 : ∀ a, 106 ≤ a → a < 110 → μd21 a = μc9 a := fun a h1 h2 => (H21 a (by omega) (by omega) (by omega)).trans (K9 a h1 h2)
  have K10 : ∀ a, 110 ≤ a → a < 114 → μd21 a = μc10 a := fun a h1 h2 => (H21 a (by omega) (by omega) (by omega)).trans (K10 a h1 h2)
  have K11 : ∀ a, 114 ≤ a → a < 117 → μd21 a = μc11 a := fun a h1 h2 => (H21 a (by omega) (by omega) (by omega)).trans (K11 a h1 h2)
  have K12 : ∀ a, 117 ≤ a → a < 121 → μd21 a = μc12 a := fun a h1 h2 => (H21 a (by omega) (by omega) (by omega)).trans (K12 a h1 h2)
  have f0 : μd21 0 0 = rf 1 := by rw [H21 0 (by omega) (by omega) (by omega)]; exact f0
  have f1 : μd21 0 1 = rf 3 := by rw [H21 0 (by omega) (by omega) (by omega)]; exact f1
  have f2 : μd21 0 2 = rf 15 := by rw [H21 0 (by omega) (by omega) (by omega)]; exact f2
  have f3 : μd21 0 3 = rf 27 := by rw [H21 0 (by omega) (by omega) (by omega)]; exact f3
  have f4 : μd21 0 4 = rf 30 := by rw [H21 0 (by omega) (by omega) (by omega)]; exact f4
  have f5 : μd21 0 5 = rf 35 := by rw [H21 0 (by omega) (by omega) (by omega)]; exact f5
  have f6 : μd21 0 6 = rf 40 := by rw [H21 0 (by omega) (by omega) (by omega)]; exact f6
  have f7 : μd21 0 7 = rf 44 := by rw [H21 0 (by omega) (by omega) (by omega)]; exact f7
  have f8 : μd21 0 8 = rf 106 := by rw [H21 0 (by omega) (by omega) (by omega)]; exact f8
  have f9 : μd21 0 9 = rf 110 := by rw [H21 0 (by omega) (by omega) (by omega)]; exact f9
  have f10 : μd21 0 10 = rf 114 := by rw [H21 0 (by omega) (by omega) (by omega)]; exact f10
  have f11 : μd21 0 11 = rf 117 := by rw [H21 0 (by omega) (by omega) (by omega)]; exact f11
  have f12 : μd21 0 12 = rf 121 := by rw [H21 0 (by omega) (by omega) (by omega)]; exact f12
  have f13 : μd21 0 13 = rf 122 := by rw [H21 0 (by omega) (by omega) (by omega)]; exact f13
  have f14 : μd21 0 14 = 0 := by rw [H21 0 (by omega) (by omega) (by omega)]; exact f14
  have J15 : ∀ a, 123 ≤ a → a < 128 → μd21 a = μc15 a := fun a h1 h2 => (H21 a (by omega) (by omega) (by omega)).trans (J15 a h1 h2)
  have J16 : ∀ a, 128 ≤ a → a < 132 → μd21 a = μc16 a := fun a h1 h2 => (H21 a (by omega) (by omega) (by omega)).trans (J16 a h1 h2)
  have J17 : ∀ a, 132 ≤ a → a < 137 → μd21 a = μc17 a := fun a h1 h2 => (H21 a (by omega) (by omega) (by omega)).trans (J17 a h1 h2)
  have J18 : ∀ a, 137 ≤ a → a < 141 → μd21 a = μc18 a := fun a h1 h2 => (H21 a (by omega) (by omega) (by omega)).trans (J18 a h1 h2)
  have J19 : ∀ a, 141 ≤ a → a < 146 → μd21 a = μc19 a := fun a h1 h2 => (H21 a (by omega) (by omega) (by omega)).trans (J19 a h1 h2)
  have J20 : ∀ a, 146 ≤ a → a < 150 → μd21 a = μc20 a := fun a h1 h2 => (H21 a (by omega) (by omega) (by omega)).trans (J20 a h1 h2)
  have J21 : ∀ a, 150 ≤ a → a < 155 → μd21 a = μc21 a := by
    intro a h1 h2
    rw [hd21, ud_o (by omega)]
  have g121_0 : μd21 121 0 = rf 123 := by rw [hd21, ud_j (by decide), kp21 121 (by decide)]; exact g121_0
  have g121_1 : μd21 121 1 = rf 132 := by rw [hd21, ud_j (by decide), kp21 121 (by decide)]; exact g121_1
  have g121_2 : μd21 121 2 = rf 141 := by rw [hd21, ud_j (by decide), kp21 121 (by decide)]; exact g121_2
  have g122_0 : μd21 122 0 = rf 128 := by rw [hd21, ud_o (by decide), kp21 122 (by decide)]; exact g122_0
  have g122_1 : μd21 122 1 = rf 137 := by rw [hd21, ud_o (by decide), kp21 122 (by decide)]; exact g122_1
  have g122_2 : μd21 122 2 = rf 146 := by rw [hd21, ud_o (by decide), kp21 122 (by decide)]; exact g122_2
  have g121_3 : μd21 121 3 = rf 150 := by rw [hd21, ud_s]
  clear H21 kp21 hd21
  refine r_aload_n G dX11_init_180 rfl rfl ?_
  refine r_getf G fl_X11_91 dX11_init_181 (nn := 0) rfl (fun _ => le_of_rf f13) ?_
  refine wp_v (v' := rf 122) f13 ?_
  refine r_iload_n G dX11_init_184 rfl rfl ?_
  refine a_new G hA (ci := 2) (T := TX2) (N := 4) (ty := tyX2) rfl (by decide) inT2 tyX2_ok nw_X11_45 oo_2.1 oo_2.2 dfs_2 (by decide) (by decide) dX11_init_185 (fun y22 G => ?_)
  refine r_dup G dX11_init_188 (by decide) ?_
  refine a_callN (as := []) G hA hxk nX2_init oo_2.2 ow_2.2 (by decide +kernel) (by decide) hxk.2.2.2.2.1 rfl ow_2.1 dX11_init_189 (by decide) rfl ⟨155, rfl, rfl, rfl, fun j => congrFun (nwM_n (μ := μd21) (n := 155) (q := (2, 0))) j⟩ (by simp [wd]) (by decide) (by decide) (fun z22 μc22 hpo22 hz22 G => ?_)
  refine a_aast (st := []) (nn := 0) (n := 4) (ci := 2) (C := RX2) (T := TX2) (nf := 4) G dX11_init_192 rfl (by decide) rfl rfl (by decide) (by decide) ?_
  refine wp_mem (fun z => z = ud μc22 122 3 (rf 155)) rfl (fun μd22 hd22 => ?_)
  have kp22 : ∀ a, a < 155 → μc22 a = μd21 a := by
    intro a ha
    rw [hpo22.1 a (by show a + 1 < 156; omega), nwM_o (by show a ≠ 155; omega)]
  have H22 : ∀ a, a < 155 → a ≠ 121 → a ≠ 122 → μd22 a = μd21 a := by
    intro a h1 h2 h3
    rw [hd22, ud_o (by omega), kp22 a h1]
  have K1 : ∀ a, 1 ≤ a → a < 3 → μd22 a = μc1 a := fun a h1 h2 => (H22 a (by omega) (by omega) (by omega)).trans (K1 a h1 h2)
  have K2 : ∀ a, 3 ≤ a → a < 15 → μd22 a = μc2 a := fun a h1 h2 => (H22 a (by omega) (by omega) (by omega)).trans (K2 a h1 h2)
  have K3 : ∀ a, 15 ≤ a → a < 27 → μd22 a = μc3 a := fun a h1 h2 => (H22 a (by omega) (by omega) (by omega)).trans (K3 a h1 h2)
  have K4 : ∀ a, 27 ≤ a → a < 30 → μd22 a = μc4 a := fun a h1 h2 => (H22 a (by omega) (by omega) (by omega)).trans (K4 a h1 h2)
  have K5 : ∀ a, 30 ≤ a → a < 35 → μd22 a = μc5 a := fun a h1 h2 => (H22 a (by omega) (by omega) (by omega)).trans (K5 a h1 h2)
  have K6 : ∀ a, 35 ≤ a → a < 40 → μd22 a = μc6 a := fun a h1 h2 => (H22 a (by omega) (by omega) (by omega)).trans (K6 a h1 h2)
  have K7 : ∀ a, 40 ≤ a → a < 44 → μd22 a = μc7 a := fun a h1 h2 => (H22 a (by omega) (by omega) (by omega)).trans (K7 a h1 h2)
  have K8 : ∀ a, 44 ≤ a → a < 106 → μd22 a = μc8 a := fun a h1 h2 => (H22 a (by omega) (by omega) (by omega)).trans (K8 a h1 h2)
  have K9 : ∀ a, 106 ≤ a → a < 110 → μd22 a = μc9 a := fun a h1 h2 => (H22 a (by omega) (by omega) (by omega)).trans (K9 a h1 h2)
  have K10 : ∀ a, 110 ≤ a → a < 114 → μd22 a = μc10 a := fun a h1 h2 => (H22 a (by omega) (by omega) (by omega)).trans (K10 a h1 h2)
  have K11 : ∀ a, 114 ≤ a → a < 117 → μd22 a = μc11 a := fun a h1 h2 => (H22 a (by omega) (by omega) (by omega)).trans (K11 a h1 h2)
  have K12 : ∀ a, 117 ≤ a → a < 121 → μd22 a = μc12 a := fun a h1 h2 => (H22 a (by omega) (by omega) (by omega)).trans (K12 a h1 h2)
  have f0 : μd22 0 0 = rf 1 := by rw [H22 0 (by omega) (by omega) (by omega)]; exact f0
  have f1 : μd22 0 1 = rf 3 := by rw [H22 0 (by omega) (by omega) (by omega)]; exact f1
  have f2 : μd22 0 2 = rf 15 := by rw [H22 0 (by omega) (by omega) (by omega)]; exact f2
  have f3 : μd22 0 3 = rf 27 := by rw [H22 0 (by omega) (by omega) (by omega)]; exact f3
  have f4 : μd22 0 4 = rf 30 := by rw [H22 0 (by omega) (by omega) (by omega)]; exact f4
  have f5 : μd22 0 5 = rf 35 := by rw [H22 0 (by omega) (by omega) (by omega)]; exact f5
  have f6 : μd22 0 6 = rf 40 := by rw [H22 0 (by omega) (by omega) (by omega)]; exact f6
  have f7 : μd22 0 7 = rf 44 := by rw [H22 0 (by omega) (by omega) (by omega)]; exact f7
  have f8 : μd22 0 8 = rf 106 := by rw [H22 0 (by omega) (by omega) (by omega)]; exact f8
  have f9 : μd22 0 9 = rf 110 := by rw [H22 0 (by omega) (by omega) (by omega)]; exact f9
  have f10 : μd22 0 10 = rf 114 := by rw [H22 0 (by omega) (by omega) (by omega)]; exact f10
  have f11 : μd22 0 11 = rf 117 := by rw [H22 0 (by omega) (by omega) (by omega)]; exact f11
  have f12 : μd22 0 12 = rf 121 := by rw [H22 0 (by omega) (by omega) (by omega)]; exact f12
  have f13 : μd22 0 13 = rf 122 := by rw [H22 0 (by omega) (by omega) (by omega)]; exact f13
  have f14 : μd22 0 14 = 0 := by rw [H22 0 (by omega) (by omega) (by omega)]; exact f14
  have J15 : ∀ a, 123 ≤ a → a < 128 → μd22 a = μc15 a := fun a h1 h2 => (H22 a (by omega) (by omega) (by omega)).trans (J15 a h1 h2)
  have J16 : ∀ a, 128 ≤ a → a < 132 → μd22 a = μc16 a := fun a h1 h2 => (H22 a (by omega) (by omega) (by omega)).trans (J16 a h1 h2)
  have J17 : ∀ a, 132 ≤ a → a < 137 → μd22 a = μc17 a := fun a h1 h2 => (H22 a (by omega) (by omega) (by omega)).trans (J17 a h1 h2)
  have J18 : ∀ a, 137 ≤ a → a < 141 → μd22 a = μc18 a := fun a h1 h2 => (H22 a (by omega) (by omega) (by omega)).trans (J18 a h1 h2)
  have J19 : ∀ a, 141 ≤ a → a < 146 → μd22 a = μc19 a := fun a h1 h2 => (H22 a (by omega) (by omega) (by omega)).trans (J19 a h1 h2)
  have J20 : ∀ a, 146 ≤ a → a < 150 → μd22 a = μc20 a := fun a h1 h2 => (H22 a (by omega) (by omega) (by omega)).trans (J20 a h1 h2)
  have J21 : ∀ a, 150 ≤ a → a < 155 → μd22 a = μc21 a := fun a h1 h2 => (H22 a (by omega) (by omega) (by omega)).trans (J21 a h1 h2)
  have J22 : ∀ a, 155 ≤ a → a < 159 → μd22 a = μc22 a := by
    intro a h1 h2
    rw [hd22, ud_o (by omega)]
  have g121_0 : μd22 121 0 = rf 123 := by rw [hd22, ud_o (by decide), kp22 121 (by decide)]; exact g121_0
  have g121_1 : μd22 121 1 = rf 132 := by rw [hd22, ud_o (by decide), kp22 121 (by decide)]; exact g121_1
  have g121_2 : μd22 121 2 = rf 141 := by rw [hd22, ud_o (by decide), kp22 121 (by decide)]; exact g121_2
  have g121_3 : μd22 121 3 = rf 150 := by rw [hd22, ud_o (by decide), kp22 121 (by decide)]; exact g121_3
  have g122_0 : μd22 122 0 = rf 128 := by rw [hd22, ud_j (by decide), kp22 122 (by decide)]; exact g122_0
  have g122_1 : μd22 122 1 = rf 137 := by rw [hd22, ud_j (by decide), kp22 122 (by decide)]; exact g122_1
  have g122_2 : μd22 122 2 = rf 146 := by rw [hd22, ud_j (by decide), kp22 122 (by decide)]; exact g122_2
  have g122_3 : μd22 122 3 = rf 155 := by rw [hd22, ud_s]
  clear H22 kp22 hd22
  refine r_iinc G dX11_init_193 rfl ?_
  refine r_goto G (tgt := 162) dX11_init_196 rfl ?_
  rw [show w32 ((3 : Int) + 1) = 4 from w32_id ⟨by decide, by decide⟩]
  refine r_iload_n G dX11_init_162 rfl rfl ?_
  refine r_iconst G dX11_init_163 (by decide) ?_
  refine r_icmp_ge G (tgt := 199) dX11_init_164 rfl (fun _ => ?_) (fun h => absurd (by decide) h)
  simp only [List.append_assoc, List.cons_append, List.nil_append] at G ⊢
  refine a_ret (ad' := y1 :: (z1 ++ y2 :: (z2 ++ y3 :: (z3 ++ y4 :: (z4 ++ y5 :: (z5 ++ y6 :: (z6 ++ y7 :: (z7 ++ y8 :: (z8 ++ y9 :: (z9 ++ y10 :: (z10 ++ y11 :: (z11 ++ y12 :: (z12 ++ y13 :: y14 :: y15 :: (z15 ++ y16 :: (z16 ++ y17 :: (z17 ++ y18 :: (z18 ++ y19 :: (z19 ++ y20 :: (z20 ++ y21 :: (z21 ++ y22 :: z22)))))))))))))))))))) (sh0 := [(11, 0)]) (L := LCl) G ?_ rfl dX11_init_199 ?_
  · simp [hz1, hz2, hz3, hz4, hz5, hz6, hz7, hz8, hz9, hz10, hz11, hz12, hz15, hz16, hz17, hz18, hz19, hz20, hz21, hz22, LCl, LFl, LPa_len]
  clear G
  refine ⟨f0, f1, f2, f3, f4, f5, f6, f7, f8, f9, f10, f11, f12, f13, f14, ?_, ?_, ?_, ?_, ?_, ?_, ?_, ?_, ?_, ?_, ?_, ?_, ?_⟩
  · obtain ⟨-, kk, -, hkl, e1, e2⟩ := hpo1
    have : kk = 1 := by have h9 : 2 = kk + 1 := hkl; omega
    subst this
    rw [K1 1 (by omega) (by omega)]
    exact ⟨e1, e2.1⟩
  · exact fl_tr hpo2 rfl (pre_sh (b := shC.drop 15) rfl) (fun a h1 h2 => K2 a h1 (by omega))
  · exact fl_tr hpo3 rfl (pre_sh (b := shC.drop 27) rfl) (fun a h1 h2 => K3 a h1 (by omega))
  · obtain ⟨-, kk, t, f, has, hkl, e0, e1, e2, e3, e4⟩ := hpo4
    have : kk = 27 := by have h9 : 28 = kk + 1 := hkl; omega
    subst this
    injection has with q1 q2
    injection q2 with q3 q4
    injection q4 with q5 q6
    injection q3 with q7 q8
    injection q5 with q9 q10
    rw [K4 27 (by omega) (by omega)]
    have e4 : μc4 27 4 = rf 21 := by rw [e4, ← rf_inj q10]; exact w3
    exact ⟨by rw [e0, ← q8], e1, e2, by rw [e3, ← q10], e4⟩
  · exact ly_tr hpo5 rfl (pre_sh (b := shC.drop 35) rfl) (fun a h1 h2 => K5 a h1 (by omega))
  · exact ly_tr hpo6 rfl (pre_sh (b := shC.drop 40) rfl) (fun a h1 h2 => K6 a h1 (by omega))
  · exact fg_tr hpo7 rfl (fun a h1 h2 => K7 a h1 (by omega))
  · obtain ⟨kk, -, hkl, kq⟩ := hpo8
    have : kk = 44 := by have h9 : 45 = kk + 1 := hkl; omega
    subst this
    obtain ⟨-, e1, e2, e3, e4⟩ := kq
    rw [K8 44 (by omega) (by omega), K8 45 (by omega) (by omega)]
    refine ⟨e1, e2, e3, fun j hj => ?_⟩
    obtain ⟨g1, g2⟩ := e4 j hj
    refine ⟨g1, g2.to (pre_sh (b := shC.drop 106) rfl) (fun x => ?_)⟩
    rw [K8 _ (by omega) (by omega)]
  · obtain ⟨-, kk, -, hkl, ee⟩ := hpo9
    have : kk = 106 := by have h9 : 107 = kk + 1 := hkl; omega
    subst this
    rw [K9 106 (by omega) (by omega)]
    exact ee
  · obtain ⟨-, kk, -, hkl, ee⟩ := hpo10
    have : kk = 110 := by have h9 : 111 = kk + 1 := hkl; omega
    subst this
    rw [K10 110 (by omega) (by omega)]
    exact ⟨ee.1, ee.2.1, ee.2.2.1⟩
  · obtain ⟨-, kk, -, hkl, ee⟩ := hpo11
    have : kk = 114 := by have h9 : 115 = kk + 1 := hkl; omega
    subst this
    rw [K11 114 (by omega) (by omega)]
    exact ⟨ee.1, ee.2.1⟩
  · obtain ⟨-, kk, -, hkl, ee⟩ := hpo12
    have : kk = 117 := by have h9 : 118 = kk + 1 := hkl; omega
    subst this
    rw [K12 117 (by omega) (by omega)]
    exact ⟨ee.1, ee.2.1, ee.2.2.1⟩
  · exact ⟨⟨g121_0, ly_tr hpo15 rfl (pre_sh (b := shC.drop 128) rfl) (fun a h1 h2 => J15 a h1 (by omega)), g122_0, fg_tr hpo16 rfl (fun a h1 h2 => J16 a h1 (by omega))⟩, ⟨g121_1, ly_tr hpo17 rfl (pre_sh (b := shC.drop 137) rfl) (fun a h1 h2 => J17 a h1 (by omega)), g122_1, fg_tr hpo18 rfl (fun a h1 h2 => J18 a h1 (by omega))⟩, ⟨g121_2, ly_tr hpo19 rfl (pre_sh (b := shC.drop 146) rfl) (fun a h1 h2 => J19 a h1 (by omega)), g122_2, fg_tr hpo20 rfl (fun a h1 h2 => J20 a h1 (by omega))⟩, ⟨g121_3, ly_tr hpo21 rfl (pre_sh (b := shC.drop 155) rfl) (fun a h1 h2 => J21 a h1 (by omega)), g122_3, fg_tr hpo22 rfl (fun a h1 h2 => J22 a h1 (by omega))⟩⟩
