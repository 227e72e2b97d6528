/-! Past() -/
def LLy : Shp := [(6, 0), (100, 12), (100, 12), (100, 12), (100, 144)]
def LPa : Nat → Shp
  | 0 => [(116, 12)]
  | i + 1 => LPa i ++ LLy
theorem LPa_len (i : Nat) : (LPa i).length = 1 + 5 * i := by
  induction i with
  | zero => rfl
  | succ i ih => rw [LPa, List.length_append, ih]; simp [LLy]; omega
theorem tot_app (a b : Shp) : tot (a ++ b) = tot a + tot b := by
  unfold tot
  rw [List.map_append, List.sum_append]
theorem LPa_tot (i : Nat) : tot (LPa i) = 12 + 186 * i := by
  induction i with
  | zero => rfl
  | succ i ih => rw [LPa, tot_app, ih, show tot LLy = 186 from rfl]; omega
theorem ObLy.to {sh sh' : Shp} {μ μ' : Mem} {k : Nat} (h : ObLy sh μ k) (hs : ∀ (j : Nat) (q : Nat × Nat), sh[j]? = some q → sh'[j]? = some q) (hm : ∀ j, μ' k j = μ k j) : ObLy sh' μ' k := by
  obtain ⟨h0, h1, h2, h3, h4, h5, h6, h7, h8⟩ := h
  exact ⟨hs _ _ h0, hs _ _ h1, hs _ _ h2, hs _ _ h3, hs _ _ h4, (hm 2).trans h5, (hm 3).trans h6, (hm 4).trans h7, (hm 5).trans h8⟩
/-- the row of kept ones, up to i -/
def PastP (sh : Shp) (k : Nat) (μ0 : Mem) (i : Nat) (μ : Mem) : Prop := keepO sh μ0 μ ∧ μ k 0 = rf (k + 1) ∧ μ k 1 = 0 ∧ μ k 2 = 0 ∧ ∀ j, j < i → μ (k + 1) j = rf (k + 2 + 5 * j) ∧ ObLy (sh ++ LPa i) μ (k + 2 + 5 * j)
def I_7 (sh : Shp) (as : List Vl) (μ μ' : Mem) : Prop := ∃ k, as = [(2, rf k)] ∧ sh.length = k + 1 ∧ PastP sh k μ 12 μ'
theorem LPa_at0 (i : Nat) : (LPa i)[0]? = some (116, 12) := by
  induction i with
  | zero => rfl
  | succ i ih => rw [LPa, List.getElem?_append_left (by rw [LPa_len]; omega)]; exact ih
set_option maxRecDepth 10000 in
theorem past_loop {p : Program} {l : Launch} {e : Env} {s : State} {m : MethodId} {args : Array Value} {below : List Frame} {meth : Method} {c : Code} {D : va_G} {ad : Adr} {sh : Shp} {μ0 : Mem} {k : Nat} (hlen : sh.length = k + 1) (hk : sh[k]? = some (7, 0)) (hxk : XK s) (hA : ∀ q, s.heap.size ≤ q → An ad sh s.heap.size q) (has : ([(2, rf k)] : List Vl) = [(2, rf k)]) :
    ∀ (r i : Nat), i + r = 12 → ∀ (adp : Adr) (μ : Mem), adp.length = (LPa i).length → CK (cX7_init, yX7_init.cls, 4, 2, none) (Gx p l e s m args below meth c D (ad ++ adp) (sh ++ LPa i) (An ad sh s.heap.size) (Rn 4 (LPa 12)) (LPa i).length (tot (LPa i)) (MQ below (Qn D ad sh (LPa 12) s.heap.size (I_7 sh [(2, rf k)] μ0)) args s (LPa 12).length (tot (LPa 12)) (An ad sh s.heap.size))) → PastP sh k μ0 i μ →
      WP (cX7_init, yX7_init.cls, 4, 2, none) (Gx p l e s m args below meth c D (ad ++ adp) (sh ++ LPa i) (An ad sh s.heap.size) (Rn 4 (LPa 12)) (LPa i).length (tot (LPa i)) (MQ below (Qn D ad sh (LPa 12) s.heap.size (I_7 sh [(2, rf k)] μ0)) args s (LPa 12).length (tot (LPa 12)) (An ad sh s.heap.size))) 15 [(2, rf k), (0, (i : Int))] [] μ := by
  intro r
  induction r with
  | zero =>
    intro i hi adp μ hadp G hP
    have hi12 : i = 12 := by omega
    subst hi12
    refine r_iload_n G dX7_init_15 rfl rfl ?_
    refine r_bipush G dX7_init_16 (by decide) ?_
    refine r_icmp_ge G (tgt := 40) dX7_init_18 rfl (fun _ => ?_) (fun h => absurd (by decide) h)
    exact a_ret (ad' := adp) (L := LPa 12) G hadp rfl dX7_init_40 ⟨k, rfl, hlen, hP⟩
  | succ r ih =>
    intro i hi adp μ hadp G hP
    have hli := LPa_len i
    have hti := LPa_tot i
    obtain ⟨p0, p1, p2, p3, p4⟩ := hP
    have hk1 := lk_l (L := LPa i) hk
    have ha1 : (sh ++ LPa i)[k + 1]? = some (116, 12) := by rw [List.getElem?_append_right (by omega), hlen, Nat.sub_self]; exact LPa_at0 i
    have hsl : (sh ++ LPa i).length = k + 2 + 5 * i := by rw [List.length_append, hlen, hli]; omega
    refine r_iload_n G dX7_init_15 rfl rfl ?_
    refine r_bipush G dX7_init_16 (by decide) ?_
    refine r_icmp_ge G (tgt := 40) dX7_init_18 rfl (fun h => absurd h (by omega)) (fun _ => ?_)
    refine r_aload_n G dX7_init_21 rfl rfl ?_
    refine r_getf G fl_X7_11 dX7_init_22 (nn := 0) (by show (sh ++ _)[(rf k).toNat]? = _; rw [rf_toNat]; exact hk1) (fun _ => by rw [rf_toNat, p1]; exact rf_nn _) ?_
    rw [rf_toNat, p1]
    refine r_iload_n G dX7_init_25 rfl rfl ?_
    refine a_new G hA (ci := 6) (T := TX6) (N := 6) (ty := tyX6) rfl (by decide) inT6 tyX6_ok nw_X7_9 oo_6.1 oo_6.2 dfs_6 ?_ ?_ dX7_init_26 (fun y1 G => ?_)
    · show (LPa i).length + 1 ≤ (LPa 12).length
      rw [LPa_len, LPa_len]; omega
    · show tot (LPa i) + 6 ≤ tot (LPa 12)
      rw [LPa_tot, LPa_tot]; omega
    refine r_dup G dX7_init_29 (by decide) ?_
    refine a_callI (as := []) G hA hxk nX6_init ci_X7_17 rfl ow_6.1 dX7_init_30 (by decide) rfl ⟨k + 2 + 5 * i, by rw [hsl]; rfl, by simp [hlen, hli]; omega, by rw [← hsl]; exact lk_n, fun j => by rw [← hsl, nwM_n]⟩ (by simp [wd]) ?_ ?_ (fun z1 μ2 hpo hz1 G => ?_)
    · show (LPa i).length + 1 + 4 ≤ (LPa 12).length
      rw [LPa_len, LPa_len]; omega
    · show tot (LPa i) + 6 + 180 ≤ tot (LPa 12)
      rw [LPa_tot, LPa_tot]; omega
    obtain ⟨kp, kk, hkk, hkl, ke⟩ := hpo
    have hkk : kk = k + 2 + 5 * i := by simp [hlen, hli] at hkl; omega
    subst hkk
    have eL : sh ++ LPa i ++ [((6, 0) : Nat × Nat)] ++ [(100, 12), (100, 12), (100, 12), (100, 144)] = sh ++ LPa (i + 1) := by simp [LPa, LLy]
    have eA : ad ++ adp ++ [y1] ++ z1 = ad ++ (adp ++ y1 :: z1) := by simp
    have eC : (LPa i).length + 1 + ([((100, 12) : Nat × Nat), (100, 12), (100, 12), (100, 144)]).length = (LPa (i + 1)).length := by rw [LPa_len, LPa_len]; simp; omega
    have eT : tot (LPa i) + 6 + tot [((100, 12) : Nat × Nat), (100, 12), (100, 12), (100, 144)] = tot (LPa (i + 1)) := by rw [LPa_tot, LPa_tot, show tot [((100, 12) : Nat × Nat), (100, 12), (100, 12), (100, 144)] = 180 from rfl]; omega
    rw [eL, eA, eC, eT] at G ⊢
    rw [eL] at ke
    have hmono : ∀ (j : Nat) (q : Nat × Nat), (sh ++ LPa i)[j]? = some q → (sh ++ LPa (i + 1))[j]? = some q := by
      intro j q hj
      rw [LPa, ← List.append_assoc]
      exact lk_l hj
    have hobj : (sh ++ LPa (i + 1))[k + 2 + 5 * i]? = some (6, 0) := ke.1.1
    have eref : (((sh ++ LPa i).length : Nat) : Int) = rf (k + 2 + 5 * i) := by rw [hsl]; rfl
    rw [eref]
    refine a_aast (st := []) (nn := 0) (n := 12) (ci := 6) (C := RX6) (T := TX6) (nf := 6) G dX7_init_33 rfl (by decide) (by rw [rf_toNat]; exact hmono _ _ ha1) (by rw [rf_toNat]; exact hobj) (by omega) (by omega) ?_
    refine r_iinc G dX7_init_34 rfl ?_
    refine r_goto G (tgt := 15) dX7_init_37 rfl ?_
    have ei : w32 ((i : Int) + 1) = ((i + 1 : Nat) : Int) := by rw [w32_id ⟨by omega, by omega⟩]; omega
    rw [ei, rf_toNat, Int.toNat_natCast]
    refine ih (i + 1) (by omega) (adp ++ y1 :: z1) _ ?_ G ⟨?_, ?_, ?_, ?_, ?_⟩
    · rw [List.length_append, List.length_cons, hadp, hz1, LPa_len, LPa_len]; simp; omega
    · intro a ha
      rw [ud_o (by omega), kp a (by simp [hlen, hli] <;> omega), nwM_o (by omega)]
      exact p0 a ha
    · rw [ud_o (by omega), kp k (by simp [hlen, hli] <;> omega), nwM_o (by omega)]; exact p1
    · rw [ud_o (by omega), kp k (by simp [hlen, hli] <;> omega), nwM_o (by omega)]; exact p2
    · rw [ud_o (by omega), kp k (by simp [hlen, hli] <;> omega), nwM_o (by omega)]; exact p3
    · intro j hj
      by_cases hji : j = i
      · subst hji
        refine ⟨ud_s, ke.1.to (fun _ _ h => h) (fun j => ?_)⟩
        rw [ud_o (by omega)]
      · obtain ⟨g1, g2⟩ := p4 j (by omega)
        refine ⟨?_, g2.to hmono (fun x => ?_)⟩
        · rw [ud_j hji, kp (k + 1) (by simp [hlen, hli] <;> omega), nwM_o (by omega)]; exact g1
        · rw [ud_o (by omega), kp _ (by simp [hlen, hli] <;> omega), nwM_o (by omega)]
set_option maxRecDepth 10000 in
theorem nX7_init : MN yX7_init cX7_init 2 4 (LPa 12) (preO 7) I_7 := by
  refine MN_of (by decide) rfl ?_
  intro p l e s m args below meth c D ad sh μ as hp hs hin hxk hA G
  obtain ⟨k, rfl, hlen, hk, h0⟩ := hp
  have hk0 := hk
  refine ⟨by simp [enA], ?_⟩
  refine r_aload_n G dX7_init_0 rfl rfl ?_
  refine a_obj G oj_X7_3 oi_1 oi_2 dX7_init_1 (by decide) (by decide) ?_
  refine r_aload_n G dX7_init_4 rfl rfl ?_
  refine r_bipush G dX7_init_5 (by decide) ?_
  refine a_anew (st := [(2, rf k)]) G hA (ci := 6) (N := 12) (C := RX6) (T := TX6) (nf := 6) rfl (by decide) na_X7_9 hxk.1 (by decide) (by decide) (by decide) dX7_init_7 (fun x1 G => ?_)
  have hk := lk_l (L := [(116, 12)]) hk
  refine a_putF (st := []) G hin ff_X7_11 (fun x => ⟨rfl, rfl⟩) dX7_init_10 (by rw [rf_toNat]; exact hk) ?_
  refine r_iconst G dX7_init_13 (by decide) ?_
  refine r_istore_n G dX7_init_14 rfl (Nat.le_refl 2) ?_
  refine past_loop hlen hk0 hxk hA rfl 12 0 rfl [x1] _ rfl G ⟨?_, ?_, ?_, ?_, ?_⟩
  · intro a ha
    rw [rf_toNat, ud_o (by omega), nwM_o (by omega)]
  · rw [rf_toNat, ud_s, hlen]; rfl
  · rw [rf_toNat, ud_j (by omega), nwM_o (by omega), h0]; rfl
  · rw [rf_toNat, ud_j (by omega), nwM_o (by omega), h0]; rfl
  · intro j hj
    omega
