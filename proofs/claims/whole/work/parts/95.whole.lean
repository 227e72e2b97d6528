/-! the law from its entry, out of the steps -/
theorem lc_7 : Cond.classLink RL 7 RX11 ∈ lw_tbl := List.mem_of_getElem? (i := 122) (by decide +kernel)
theorem lc_10 : Cond.classLink RL 10 RX12 ∈ lw_tbl := List.mem_of_getElem? (i := 1046) (by decide +kernel)
theorem li_9 : Cond.methodLink RL 9 yX11_init ∈ lw_tbl ∧ Cond.instanceMethod yX11_init ∈ lw_tbl := ⟨List.mem_of_getElem? (i := 124) (by decide +kernel), List.mem_of_getElem? (i := 125) (by decide +kernel)⟩
theorem li_12 : Cond.methodLink RL 12 yX12_init ∈ lw_tbl ∧ Cond.instanceMethod yX12_init ∈ lw_tbl := ⟨List.mem_of_getElem? (i := 1047) (by decide +kernel), List.mem_of_getElem? (i := 1048) (by decide +kernel)⟩
theorem ec_obj {ad : Adr} {x : Nat × ClassId} {n ci : Nat} (hci : ci < 100) : cE (ad ++ [x]) n (ci, 0) (dv (ci, 0)) = .inr (ci, (ftab.getD ci []).mapIdx (fun j t => vv ad t (dv (ci, 0) j))) := by
  rw [cE_obj hci]
  congr 2
  apply List.ext_getElem?
  intro j
  rw [List.getElem?_mapIdx, List.getElem?_mapIdx]
  cases he : (ftab.getD ci [])[j]? with
  | none => rfl
  | some t =>
    have h4 := sty_lt (ci, 0) j
    have h5 : sty (ci, 0) j = t := sty_obj hci he
    show some (vv _ t (dv (ci, 0) j)) = some (vv _ t (dv (ci, 0) j))
    rw [vv_ext ?_ (by omega)]
    unfold dv
    rw [h5]
    match t, h5 ▸ h4 with
    | 0, _ => exact ⟨by omega, by omega⟩
    | 1, _ => exact ⟨by omega, by omega⟩
    | 2, _ => exact ⟨by omega, by simp only [if_true]; omega⟩
theorem ws_one {q ci : Nat} (hci : ci < 100) {μ : Mem} (hμ : μ 0 = dv (ci, 0)) (ad : Adr) : wsO [(q, 0)] [(ci, 0)] μ = [(q, .inr (ci, (ftab.getD ci []).mapIdx (fun j t => vv ad t (dv (ci, 0) j))))] := by
  show [(q, cE [(q, 0)] 0 (ci, 0) (μ 0))] = _
  rw [hμ]
  have h1 := ec_obj (ad := []) (x := (q, 0)) (n := 0) hci
  have h2 : ((ftab.getD ci []).mapIdx (fun j t => vv ([] : Adr) t (dv (ci, 0) j))) = (ftab.getD ci []).mapIdx (fun j t => vv ad t (dv (ci, 0) j)) := by
    apply List.ext_getElem?
    intro j
    rw [List.getElem?_mapIdx, List.getElem?_mapIdx]
    cases he : (ftab.getD ci [])[j]? with
    | none => rfl
    | some t =>
      have h4 := sty_lt (ci, 0) j
      have h5 : sty (ci, 0) j = t := sty_obj hci he
      show some (vv _ t (dv (ci, 0) j)) = some (vv _ t (dv (ci, 0) j))
      unfold dv
      rw [h5]
      match t, h5 ▸ h4 with
      | 0, _ => rfl
      | 1, _ => rfl
      | 2, _ => rfl
  rw [← h2]
  exact congrArg (fun z => [(q, z)]) h1
theorem mok_one {ci : Nat} {μ : Mem} (hμ : μ 0 = dv (ci, 0)) : mok [(ci, 0)] μ := by
  intro k x hk j
  have h3 : k < ([(ci, 0)] : Shp).length := (List.getElem?_eq_some_iff.mp hk).1
  simp at h3
  subst h3
  cases hk
  rw [hμ]
  have := mok_ext (sh := []) (μ := μ) (q := (ci, 0)) (fun k q h => by simp at h) 0 (ci, 0) rfl j
  simpa [nwM] using this
theorem xk_of {args : Array Value} {s : State} (hts : ∀ w ∈ lw_tbl, w.before args s = true) : XK s := by
  refine ⟨va_AO.of (hts _ (List.mem_of_getElem? (i := 372) (by decide +kernel))), va_AO.of (hts _ (List.mem_of_getElem? (i := 477) (by decide +kernel))), va_Nw.of rfl (hts _ (List.mem_of_getElem? (i := 132) (by decide +kernel))), va_Nw.of rfl (hts _ (List.mem_of_getElem? (i := 172) (by decide +kernel))), va_Nw.of rfl (hts _ (List.mem_of_getElem? (i := 343) (by decide +kernel))), va_Nw.of rfl (hts _ (List.mem_of_getElem? (i := 387) (by decide +kernel))), va_Nw.of rfl (hts _ (List.mem_of_getElem? (i := 403) (by decide +kernel))), va_Nw.of rfl (hts _ (List.mem_of_getElem? (i := 441) (by decide +kernel))), va_Nw.of rfl (hts _ (List.mem_of_getElem? (i := 457) (by decide +kernel)))⟩
set_option maxHeartbeats 4000000 in
set_option maxRecDepth 100000 in
theorem whole_of {RR : Mem → Mem → Prop} (hst : Steps RR) (hini : ∀ μC μM, CIn μC → IMo μM → RR μC μM) {p : Program} {e : Env} {s : State} {m : MethodId} {below : List Frame} {meth : Method} {c : Code} (l : Launch) {b L : Nat} {xs : Nat → Int32} (hL : L ≤ 3584) (C0 : lw_At p s m meth c b L xs) (hsk : SKx (fun q => s.heap.size ≤ q) s s.heap) : W p l e room_1 s m #[Value.ref b] below meth c s.heap [] 0 0 (lw_Z below #[Value.ref b] s) (entryFrame m ([Value.ref b] : List Value).toArray 4) := by
  obtain ⟨hx, hb, hr, hml, hown, hts, hX, hbl, hlocks, hgv⟩ := id C0
  have hxk := xk_of hts
  have hA : ∀ q : Nat, s.heap.size ≤ q → (fun q : Nat => s.heap.size ≤ q) q := fun _ h => h
  obtain ⟨c0, iS0, hKn0⟩ := u_known (C := RX0) (T := TX0) (N := 3) (n := 3) hts (fun w h => tbl_in_lw (inT0 w h)) (hts _ (tbl_in_lw oo_0.1))
  obtain ⟨c1, iS1, hKn1⟩ := u_known (C := RX1) (T := TX1) (N := 11) (n := 11) hts (fun w h => tbl_in_lw (inT1 w h)) (hts _ (tbl_in_lw oo_1.1))
  obtain ⟨c2, iS2, hKn2⟩ := u_known (C := RX2) (T := TX2) (N := 4) (n := 4) hts (fun w h => tbl_in_lw (inT2 w h)) (hts _ (tbl_in_lw oo_2.1))
  obtain ⟨c3, iS3, hKn3⟩ := u_known (C := RX3) (T := TX3) (N := 8) (n := 8) hts (fun w h => tbl_in_lw (inT3 w h)) (hts _ (tbl_in_lw oo_3.1))
  obtain ⟨c4, iS4, hKn4⟩ := u_known (C := RX4) (T := TX4) (N := 4) (n := 4) hts (fun w h => tbl_in_lw (inT4 w h)) (hts _ (tbl_in_lw oo_4.1))
  obtain ⟨c5, iS5, hKn5⟩ := u_known (C := RX5) (T := TX5) (N := 3) (n := 3) hts (fun w h => tbl_in_lw (inT5 w h)) (hts _ (tbl_in_lw oo_5.1))
  obtain ⟨c6, iS6, hKn6⟩ := u_known (C := RX6) (T := TX6) (N := 6) (n := 6) hts (fun w h => tbl_in_lw (inT6 w h)) (hts _ (tbl_in_lw oo_6.1))
  obtain ⟨c7, iS7, hKn7⟩ := u_known (C := RX7) (T := TX7) (N := 3) (n := 3) hts (fun w h => tbl_in_lw (inT7 w h)) (hts _ (tbl_in_lw oo_7.1))
  obtain ⟨c8, iS8, hKn8⟩ := u_known (C := RX8) (T := TX8) (N := 7) (n := 7) hts (fun w h => tbl_in_lw (inT8 w h)) (hts _ (tbl_in_lw oo_8.1))
  obtain ⟨c9, iS9, hKn9⟩ := u_known (C := RX9) (T := TX9) (N := 4) (n := 4) hts (fun w h => tbl_in_lw (inT9 w h)) (hts _ (tbl_in_lw oo_9.1))
  obtain ⟨c10, iS10, hKn10⟩ := u_known (C := RX10) (T := TX10) (N := 7) (n := 7) hts (fun w h => tbl_in_lw (inT10 w h)) (hts _ (tbl_in_lw oo_10.1))
  obtain ⟨c11, iS11, hKn11⟩ := u_known (C := RX11) (T := TX11) (N := 15) (n := 15) hts (fun w h => tbl_in_lw (inT11 w h)) (hts _ (tbl_in_lw oo_11.1))
  obtain ⟨c12, iS12, hKn12⟩ := u_known (C := RX12) (T := TX12) (N := 33) (n := 33) hts (fun w h => tbl_in_lw (inT12 w h)) (hts _ (tbl_in_lw oo_12.1))
  obtain ⟨dC, dI, hKc⟩ : ∃ (dC : Nat → ClassId) (dI : Nat → Nat → Nat), ∀ (k : Nat) (q : vw_C), vwCl[k]? = some q → u_Kn s q.1 q.2.1 q.2.2 (dC k) (dI k) := by
    refine ⟨fun k => if k = 0 then c0 else if k = 1 then c1 else if k = 2 then c2 else if k = 3 then c3 else if k = 4 then c4 else if k = 5 then c5 else if k = 6 then c6 else if k = 7 then c7 else if k = 8 then c8 else if k = 9 then c9 else if k = 10 then c10 else if k = 11 then c11 else c12, fun k => if k = 0 then iS0 else if k = 1 then iS1 else if k = 2 then iS2 else if k = 3 then iS3 else if k = 4 then iS4 else if k = 5 then iS5 else if k = 6 then iS6 else if k = 7 then iS7 else if k = 8 then iS8 else if k = 9 then iS9 else if k = 10 then iS10 else if k = 11 then iS11 else iS12, ?_⟩
    intro k q hq
    match k, hq with
    | 0, hq => cases hq; exact hKn0
    | 1, hq => cases hq; exact hKn1
    | 2, hq => cases hq; exact hKn2
    | 3, hq => cases hq; exact hKn3
    | 4, hq => cases hq; exact hKn4
    | 5, hq => cases hq; exact hKn5
    | 6, hq => cases hq; exact hKn6
    | 7, hq => cases hq; exact hKn7
    | 8, hq => cases hq; exact hKn8
    | 9, hq => cases hq; exact hKn9
    | 10, hq => cases hq; exact hKn10
    | 11, hq => cases hq; exact hKn11
    | 12, hq => cases hq; exact hKn12
    | k + 13, hq => simp [vwCl] at hq
  have hK : va_K (dC, dI) vwCl [] s := ⟨hKc, fun k q h => by simp at h⟩
  have hS : va_S (fun q : Nat => s.heap.size ≤ q) s.heap s.heap [] := va_S.rf
  have hP : va_P (dC, dI) vwCl [] s.heap := fun k q h => by simp at h
  have hD : va_D (fun q : Nat => s.heap.size ≤ q) [] := ⟨fun i j x y h => by simp at h, fun k q h => by simp at h⟩
  have hl := lv_entry ([.ref b]) (n := 4) (Nat.le_of_ble_eq_true rfl)
  rw [lg_entry_eq]
  generalize (lg_sl ([.ref b]) ++ List.replicate (4 - (lg_sl ([.ref b])).length) Slot.unset).toArray = ls at hl ⊢
  have hl : lv_has ls 4 [(0, .ref b)] := hl
  refine va_new (D := (dC, dI)) (ci := 11) (T := TX11) (N := 15) (fs := (ftab.getD 11 []).mapIdx (fun j t => vv [] t (dv (11, 0) j))) hx hb hts (fun w h => tbl_in_lw (inT11 w h)) tyX11 tyX11_ok hown (hts _ lc_7) (hts _ (tbl_in_lw oo_11.1)) (hts _ (tbl_in_lw oo_11.2)) hK hP hD hS hA rfl (fun j hj => dfs_11 j hj []) (by decide) (by decide) dL_law_0 (fun q1 H hP hD hS => ?_)
  have hq1 : s.heap.size ≤ q1 := hD.2 0 _ rfl
  have hP : va_P (dC, dI) vwCl (wsO [(q1, 0)] [(11, 0)] (fun _ => dv (11, 0))) H := by rw [ws_one (by decide) rfl []]; exact hP
  refine lv_dup hx hb dL_law_3 rfl ?_
  refine w_init (q := q1) hx hb hml hown hts hA hK hsk hxk ⟨by decide, by decide⟩ nX11_init (by decide) li_9.1 (tbl_in_lw oo_11.2) ow_11.2 (by decide +kernel) (by decide) li_9.2 rfl dL_law_4 (by decide) ⟨rfl, rfl, fun j => rfl⟩ (by simp [Value.category]) hl.1 hP (mok_one rfl) hq1 hS (by decide) (by decide) (fun adC μC H1 locs1 hC hlC hPC hMC hDC hKC hk1 hz1 hS1 => ?_)
  have hlt1 : q1 < H.size := (hP 0 _ rfl).lt
  have hDC : ∀ μ9, va_D (fun q : Nat => s.heap.size ≤ q) (wsO ((q1, 0) :: adC) shC μ9) := fun μ9 => (hDC μ9).weaken (fun _ x _ h => by
    rcases h with ⟨i, hi, he⟩ | h
    · have h0 : i = 0 := by simp at hi; omega
      subst h0
      show s.heap.size ≤ x.1
      rw [he]
      exact hq1
    · exact Nat.le_trans hS.1 h)
  have hPC : va_P (dC, dI) vwCl (wsO ((q1, 0) :: adC) shC μC) H1 := hPC
  refine lv_astore_n (lv' := [(1, .ref q1), (0, .ref b)]) hx hb dL_law_7 rfl hl (by decide) rfl (fun ls hl => ?_)
  refine va_new (D := (dC, dI)) (ci := 12) (T := TX12) (N := 33) (fs := (ftab.getD 12 []).mapIdx (fun j t => vv [] t (dv (12, 0) j))) hx hb hts (fun w h => tbl_in_lw (inT12 w h)) tyX12 tyX12_ok hown (hts _ lc_10) (hts _ (tbl_in_lw oo_12.1)) (hts _ (tbl_in_lw oo_12.2)) hK hPC (hDC μC) hS1 hA rfl (fun j hj => dfs_12 j hj []) (by decide) (by decide) dL_law_8 (fun q2 H2 hP2 hD2 hS2 => ?_)
  have hlen : (wsO ((q1, 0) :: adC) shC μC).length = 159 := by unfold wsO; rw [List.length_mapIdx]; rfl
  have hPC2 : va_P (dC, dI) vwCl (wsO ((q1, 0) :: adC) shC μC) H2 := fun k x hk => hP2 k x (by rw [List.getElem?_append_left (List.getElem?_eq_some_iff.mp hk).1]; exact hk)
  have hlast : (wsO ((q1, 0) :: adC) shC μC ++ [((q2, .inr (12, (ftab.getD 12 []).mapIdx (fun j t => vv [] t (dv (12, 0) j)))) : Nat × va_E)])[159]? = some (q2, .inr (12, (ftab.getD 12 []).mapIdx (fun j t => vv [] t (dv (12, 0) j)))) := by rw [← hlen, List.getElem?_append_right (Nat.le_refl _), Nat.sub_self]; rfl
  have hq2 : s.heap.size ≤ q2 := hD2.2 159 _ hlast
  have hlt2 : q2 < H2.size := (hP2 159 _ hlast).lt
  have hne : ∀ i, i < shC.length → ad1 ((q1, 0) :: adC) i ≠ q2 := by
    intro i hi he
    have h5 : (wsO ((q1, 0) :: adC) shC μC)[i]? = some (ad1 ((q1, 0) :: adC) i, cE ((q1, 0) :: adC) i (shC[i]) (μC i)) := wsO_at (List.getElem?_eq_getElem hi)
    have h6 := hD2.1 i 159 _ _ (by rw [List.getElem?_append_left (by rw [hlen]; exact hi)]; exact h5) hlast he
    have h7 : i < 159 := hi
    omega
  have hPM : va_P (dC, dI) vwCl (wsO [(q2, 0)] [(12, 0)] (fun _ => dv (12, 0))) H2 := by
    rw [ws_one (by decide) rfl []]
    intro k x hk
    have h3 : k < 1 := (List.getElem?_eq_some_iff.mp hk).1
    have h4 : k = 0 := by omega
    subst h4
    cases hk
    exact hP2 159 _ hlast
  refine lv_dup hx hb dL_law_11 rfl ?_
  refine w_init (q := q2) hx hb hml hown hts hA hK hsk hxk ⟨by decide, by decide⟩ nX12_init (by decide) li_12.1 (tbl_in_lw oo_12.2) ow_12.2 (by decide +kernel) (by decide) li_12.2 rfl dL_law_12 (by decide) ⟨rfl, rfl, fun j => rfl⟩ (by simp [Value.category]) hl.1 hPM (mok_one rfl) hq2 hS2 (by decide) (by decide) (fun adM μM H3 locs3 hM hlM hPM hMM hDM hKM hk3 hz3 hS3 => ?_)
  have hClt : ∀ i, i < shC.length → ad1 ((q1, 0) :: adC) i < H2.size := fun i hi => (hPC2 i _ (wsO_at (List.getElem?_eq_getElem hi))).lt
  have hdis : ∀ i j, i < shC.length → j < shM.length → ad1 ((q1, 0) :: adC) i ≠ ad1 ((q2, 0) :: adM) j := by
    intro i j hi hj he
    have h5 := (hDM μM).2 j _ (wsO_at (List.getElem?_eq_getElem hj))
    rcases h5 with ⟨i0, hi0, he0⟩ | h5
    · have h0 : i0 = 0 := by simp at hi0; omega
      subst h0
      exact hne i hi (he.trans he0)
    · have h6 := hClt i hi
      simp only at h5
      omega
  have hPC3 : va_P (dC, dI) vwCl (wsO ((q1, 0) :: adC) shC μC) H3 := by
    refine hPC2.kept (fun k x hk => ?_)
    have hkl : k < shC.length := by have := (List.getElem?_eq_some_iff.mp hk).1; rw [hlen] at this; exact this
    have h5 : (wsO ((q1, 0) :: adC) shC μC)[k]? = some (ad1 ((q1, 0) :: adC) k, cE ((q1, 0) :: adC) k (shC[k]) (μC k)) := wsO_at (List.getElem?_eq_getElem hkl)
    rw [h5] at hk
    cases hk
    exact hk3 _ (hClt k hkl) (hne k hkl)
  have hDM : ∀ μ9, va_D (fun q : Nat => s.heap.size ≤ q) (wsO ((q2, 0) :: adM) shM μ9) := fun μ9 => (hDM μ9).weaken (fun _ x _ h => by
    rcases h with ⟨i, hi, he⟩ | h
    · have h0 : i = 0 := by simp at hi; omega
      subst h0
      show s.heap.size ≤ x.1
      rw [he]
      exact hq2
    · exact Nat.le_trans hS2.1 h)
  refine lv_astore_n (lv' := [(2, .ref q2), (1, .ref q1), (0, .ref b)]) hx hb dL_law_15 rfl hl (by decide) rfl (fun ls hl => ?_)
  refine lv_iconst (v := nI 0) hx hb dL_law_16 (by decide) ?_
  refine lv_istore_n (lv' := [(3, .int (nI 0)), (2, .ref q2), (1, .ref q1), (0, .ref b)]) hx hb dL_law_17 rfl hl (by decide) rfl (fun ls hl => ?_)
  have K : LK (p, l, e, s, m, below, meth, c, (dC, dI), (q1, 0) :: adC, (q2, 0) :: adM, b, L, xs, 0 + 1 + LCl.length + 1 + LMo.length, 0 + 15 + tot LCl + 33 + tot LMo) := ⟨C0, hL, hDC, hDM, hdis, hK, hKC, hKM, by rw [List.length_cons, hlC]; rfl, by rw [List.length_cons, hlM]; rfl, hsk, by decide, by decide⟩
  exact law_loop hst K L 0 μC μM (by show L ≤ 0 + L; omega) (by omega) (hini μC μM hC hM) H3 locs3 ls hPC3 hMC hPM hMM hS3 (lv_sub hl [3, 2, 1, 0] rfl)
