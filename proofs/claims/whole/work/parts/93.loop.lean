/-! the law's loop -/
section LO
variable {Γ : Lx} {n : Nat} {st : List Value} {μC μM : Mem}
theorem l_swIn (K : LK Γ) {j tgt : Nat} {off : Int} (h : j < 24) (ho : (#[111, 246, 259, 292, 325, 348, 397, 420, 433, 466, 489, 538, 571, 630, 643, 656, 679, 718, 741, 784, 818, 871, 884, 933] : Array Int)[j]? = some off) (ht : (33 : Int) + off = (tgt : Int)) (k : LW Γ tgt n st μC μM) : LW Γ 33 n (.int (nI j) :: st) μC μM := by
  obtain ⟨p, l, e, s, m, below, meth, c, D, adC, adM, b, L, xs, nc, ns⟩ := Γ
  obtain ⟨⟨hx, hb, hr, hml, hown, hts, hX, hbl, hlocks, hgv⟩, -⟩ := K
  intro H locs ls h1 h2 h3 h4 hS hl
  have e1 : (nI j).toInt = (j : Int) := nI_toInt (by omega)
  exact lv_tableIn hx hb dL_law_33 (by rw [e1]; omega) (by rw [e1]; omega) (by rw [e1]; simpa using ho) ht (k H locs ls h1 h2 h3 h4 hS hl)
theorem l_swOut (K : LK Γ) {j : Nat} (h : 24 ≤ j) (h2 : j < 32) (k : LW Γ 989 n st μC μM) : LW Γ 33 n (.int (nI j) :: st) μC μM := by
  obtain ⟨p, l, e, s, m, below, meth, c, D, adC, adM, b, L, xs, nc, ns⟩ := Γ
  obtain ⟨⟨hx, hb, hr, hml, hown, hts, hX, hbl, hlocks, hgv⟩, -⟩ := K
  intro H locs ls g1 g2 g3 g4 hS hl
  have e1 : (nI j).toInt = (j : Int) := nI_toInt (by omega)
  exact lv_tableOut hx hb dL_law_33 (by rw [e1]; omega) (tgt := 989) rfl (k H locs ls g1 g2 g3 g4 hS hl)
theorem l_len (K : LK Γ) {pc : Nat} (hd : decode code pc = .ok (.arraylength, 1)) (k : LW Γ (pc + 1) n (.int (nI (lxL Γ)) :: st) μC μM) : LW Γ pc n (.ref (lxb Γ) :: st) μC μM := by
  obtain ⟨p, l, e, s, m, below, meth, c, D, adC, adM, b, L, xs, nc, ns⟩ := Γ
  obtain ⟨⟨hx, hb, hr, hml, hown, hts, hX, hbl, hlocks, hgv⟩, -⟩ := K
  intro H locs ls h1 h2 h3 h4 hS hl
  exact va_slen (A := fun q => s.heap.size ≤ q) hx hb hX hbl (Nat.not_le.mpr hbl) hS hd (k H locs ls h1 h2 h3 h4 hS hl)
theorem l_gt (K : LK Γ) {x y : Int32} {pc : Nat} {off : Int} {tgt : Nat} (hd : decode code pc = .ok (.if_icmp .gt off, 3)) (ht : (pc : Int) + off = (tgt : Int)) (kt : y < x → LW Γ tgt n st μC μM) (kf : ¬ y < x → LW Γ (pc + 3) n st μC μM) : LW Γ pc n (.int y :: .int x :: st) μC μM := by
  obtain ⟨p, l, e, s, m, below, meth, c, D, adC, adM, b, L, xs, nc, ns⟩ := Γ
  obtain ⟨⟨hx, hb, hr, hml, hown, hts, hX, hbl, hlocks, hgv⟩, -⟩ := K
  intro H locs ls h1 h2 h3 h4 hS hl
  exact lv_icmp_gt hx hb hd ht (fun h => kt h H locs ls h1 h2 h3 h4 hS hl) (fun h => kf h H locs ls h1 h2 h3 h4 hS hl)
theorem l_inc (K : LK Γ) {pc : Nat} (hd : decode code pc = .ok (.iinc 3 7, 3)) (k : LW Γ (pc + 3) (n + 7) st μC μM) : LW Γ pc n st μC μM := by
  obtain ⟨p, l, e, s, m, below, meth, c, D, adC, adM, b, L, xs, nc, ns⟩ := Γ
  obtain ⟨⟨hx, hb, hr, hml, hown, hts, hX, hbl, hlocks, hgv⟩, -⟩ := K
  intro H locs ls h1 h2 h3 h4 hS hl
  have e1 : nI n + Int32.ofInt 7 = nI (n + 7) := nI_add n 7
  exact lv_iinc hx hb hd hl (k := 3) rfl e1 (by decide) rfl (fun ls hl => k H locs ls h1 h2 h3 h4 hS (lv_sub hl [1, 2, 3, 0] rfl))
theorem l_end (K : LK Γ) (h7 : True) : LW Γ 995 n [] μC μM := by
  obtain ⟨p, l, e, s, m, below, meth, c, D, adC, adM, b, L, xs, nc, ns⟩ := Γ
  obtain ⟨⟨hx, hb, hr, hml, hown, hts, hX, hbl, hlocks, hgv⟩, hL, hDC, hDM, hdis, hK0, hKC, hKM, hlC, hlM, hsk, hnc, hns⟩ := K
  intro H locs ls h1 h2 h3 h4 hS hl
  refine lv_iconst (v := 1) hx hb dL_law_995 (by decide) ?_
  refine va_forget (fun q hq => hS.2.2 q hq) ?_
  refine W.widen (k := 600000) (n := 7302250) hnc hns ?_
  exact lw_ret hx hb hr hlocks dL_law_996
end LO
set_option maxRecDepth 10000 in
theorem law_loop {RR : Mem → Mem → Prop} (hst : Steps RR) {Γ : Lx} (K : LK Γ) : ∀ (k n : Nat) (μC μM : Mem), lxL Γ ≤ n + k → n ≤ 3591 → RR μC μM → LW Γ 18 n [] μC μM := by
  have hL : lxL Γ ≤ 3584 := by
    obtain ⟨p, l, e, s, m, below, meth, c, D, adC, adM, b, L, xs, nc, ns⟩ := Γ
    exact K.2.1
  intro k
  induction k with
  | zero =>
    intro n μC μM hn hn2 hR
    refine l_i K dL_law_18 ?_
    refine l_s K dL_law_19 ?_
    refine l_len K dL_law_20 ?_
    refine l_bipush (v := nI 7) K dL_law_21 (by decide) ?_
    refine l_isub K dL_law_23 ?_
    refine l_gt K (tgt := 995) dL_law_24 rfl (fun _ => l_end K trivial) (fun h => absurd ?_ h)
    rw [Int32.lt_iff_toInt_lt, pk_sub_toInt (by omega) (by decide), nI_toInt (by omega)]
    omega
  | succ k ih =>
    intro n μC μM hn hn2 hR
    refine l_i K dL_law_18 ?_
    refine l_s K dL_law_19 ?_
    refine l_len K dL_law_20 ?_
    refine l_bipush (v := nI 7) K dL_law_21 (by decide) ?_
    refine l_isub K dL_law_23 ?_
    refine l_gt K (tgt := 995) dL_law_24 rfl (fun _ => l_end K trivial) (fun h => ?_)
    rw [Int32.lt_iff_toInt_lt, pk_sub_toInt (by omega) (by decide), nI_toInt (by omega)] at h
    have hn7 : n + 7 ≤ lxL Γ := by omega
    have kk : ∀ μC' μM', RR μC' μM' → LW Γ 989 n [] μC' μM' := fun μC' μM' h9 => l_inc K dL_law_989 (l_goto K (tgt := 18) dL_law_992 rfl (ih (n + 7) μC' μM' (by omega) (by omega) h9))
    refine l_s K dL_law_27 ?_
    refine l_i K dL_law_28 ?_
    have e0 : nI n = nI n + nI 0 := by rw [nI_add]; rfl
    rw [e0]
    refine l_at (k := 0) K (by omega) dL_law_29 ?_
    refine l_bipush (v := 31) K dL_law_30 (by decide) ?_
    refine l_iand K dL_law_32 ?_
    obtain ⟨j, hj, ej⟩ := pk_andE (lxs Γ (n + 0)) (m := 31) 5 (by decide)
    rw [ej]
    have hj : j < 32 := hj
    by_cases h24 : j < 24
    · clear hj ej
      match j, h24 with
      | 0, _ => exact l_swIn K (by decide) rfl (tgt := 144) rfl (law_feed K hn7 (hst.1) hR kk)
      | 1, _ => exact l_swIn K (by decide) rfl (tgt := 279) rfl (law_flock K hn7 (hst.2.1) hR kk)
      | 2, _ => exact l_swIn K (by decide) rfl (tgt := 292) rfl (law_beast K hn7 (hst.2.2.1) hR kk)
      | 3, _ => exact l_swIn K (by decide) rfl (tgt := 325) rfl (law_liking K hn7 (hst.2.2.2.1) hR kk)
      | 4, _ => exact l_swIn K (by decide) rfl (tgt := 358) rfl (law_place K hn7 (hst.2.2.2.2.1) hR kk)
      | 5, _ => exact l_swIn K (by decide) rfl (tgt := 381) rfl (law_away K hn7 (hst.2.2.2.2.2.1) hR kk)
      | 6, _ => exact l_swIn K (by decide) rfl (tgt := 430) rfl (law_evening K hn7 (hst.2.2.2.2.2.2.1) hR kk)
      | 7, _ => exact l_swIn K (by decide) rfl (tgt := 453) rfl (law_settled K hn7 (hst.2.2.2.2.2.2.2.1) hR kk)
      | 8, _ => exact l_swIn K (by decide) rfl (tgt := 466) rfl (law_beside K hn7 (hst.2.2.2.2.2.2.2.2.1) hR kk)
      | 9, _ => exact l_swIn K (by decide) rfl (tgt := 499) rfl (law_friends K hn7 (hst.2.2.2.2.2.2.2.2.2.1) hR kk)
      | 10, _ => exact l_swIn K (by decide) rfl (tgt := 522) rfl (law_seen K hn7 (hst.2.2.2.2.2.2.2.2.2.2.1) hR kk)
      | 11, _ => exact l_swIn K (by decide) rfl (tgt := 571) rfl (law_heard K hn7 (hst.2.2.2.2.2.2.2.2.2.2.2.1) hR kk)
      | 12, _ => exact l_swIn K (by decide) rfl (tgt := 604) rfl (law_uneasy K hn7 (hst.2.2.2.2.2.2.2.2.2.2.2.2.1) hR kk)
      | 13, _ => exact l_swIn K (by decide) rfl (tgt := 663) rfl (law_clear K hn7 (hst.2.2.2.2.2.2.2.2.2.2.2.2.2.1) hR kk)
      | 14, _ => exact l_swIn K (by decide) rfl (tgt := 676) rfl (law_fits K hn7 (hst.2.2.2.2.2.2.2.2.2.2.2.2.2.2.1) hR kk)
      | 15, _ => exact l_swIn K (by decide) rfl (tgt := 689) rfl (law_fit K hn7 (hst.2.2.2.2.2.2.2.2.2.2.2.2.2.2.2.1) hR kk)
      | 16, _ => exact l_swIn K (by decide) rfl (tgt := 712) rfl (law_sure K hn7 (hst.2.2.2.2.2.2.2.2.2.2.2.2.2.2.2.2.1) hR kk)
      | 17, _ => exact l_swIn K (by decide) rfl (tgt := 751) rfl (law_looks K hn7 (hst.2.2.2.2.2.2.2.2.2.2.2.2.2.2.2.2.2.1) hR kk)
      | 18, _ => exact l_swIn K (by decide) rfl (tgt := 774) rfl (law_odds K hn7 (hst.2.2.2.2.2.2.2.2.2.2.2.2.2.2.2.2.2.2.1) hR kk)
      | 19, _ => exact l_swIn K (by decide) rfl (tgt := 817) rfl (law_search K hn7 (hst.2.2.2.2.2.2.2.2.2.2.2.2.2.2.2.2.2.2.2.1) hR kk)
      | 20, _ => exact l_swIn K (by decide) rfl (tgt := 851) rfl (law_parted K hn7 (hst.2.2.2.2.2.2.2.2.2.2.2.2.2.2.2.2.2.2.2.2.1) hR kk)
      | 21, _ => exact l_swIn K (by decide) rfl (tgt := 904) rfl (law_undo K hn7 (hst.2.2.2.2.2.2.2.2.2.2.2.2.2.2.2.2.2.2.2.2.2.1) hR kk)
      | 22, _ => exact l_swIn K (by decide) rfl (tgt := 917) rfl (law_mark K hn7 (hst.2.2.2.2.2.2.2.2.2.2.2.2.2.2.2.2.2.2.2.2.2.2.1) hR kk)
      | 23, _ => exact l_swIn K (by decide) rfl (tgt := 966) rfl (law_count K hn7 (hst.2.2.2.2.2.2.2.2.2.2.2.2.2.2.2.2.2.2.2.2.2.2.2) hR kk)
      | j + 24, h => exact absurd h (by omega)
    · exact l_swOut K (by omega) hj (kk _ _ hR)
