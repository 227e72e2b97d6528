/-! the law's instructions -/
section LL
variable {Γ : Lx} {pc n : Nat} {st : List Value} {μC μM : Mem}
def lxs (Γ : Lx) : Nat → Int32 := Γ.2.2.2.2.2.2.2.2.2.2.2.2.2.1
def lxL (Γ : Lx) : Nat := Γ.2.2.2.2.2.2.2.2.2.2.2.2.1
def lxC (Γ : Lx) : Adr := Γ.2.2.2.2.2.2.2.2.2.1
def lxM (Γ : Lx) : Adr := Γ.2.2.2.2.2.2.2.2.2.2.1
def lxb (Γ : Lx) : Nat := Γ.2.2.2.2.2.2.2.2.2.2.2.1
theorem l_x (K : LK Γ) (hd : decode code pc = .ok (.aload_n 1, 1)) (k : LW Γ (pc + 1) n (.ref (ad1 (lxC Γ) 0) :: st) μC μM) : LW Γ pc n st μC μM := by
  obtain ⟨p, l, e, s, m, below, meth, c, D, adC, adM, b, L, xs, nc, ns⟩ := Γ
  obtain ⟨⟨hx, hb, hr, hml, hown, hts, hX, hbl, hlocks, hgv⟩, -⟩ := K
  intro H locs ls h1 h2 h3 h4 hS hl
  exact lv_aload_n hx hb hd rfl (lv_at hl 1 rfl) (k H locs ls h1 h2 h3 h4 hS hl)
theorem l_m (K : LK Γ) (hd : decode code pc = .ok (.aload_n 2, 1)) (k : LW Γ (pc + 1) n (.ref (ad1 (lxM Γ) 0) :: st) μC μM) : LW Γ pc n st μC μM := by
  obtain ⟨p, l, e, s, m, below, meth, c, D, adC, adM, b, L, xs, nc, ns⟩ := Γ
  obtain ⟨⟨hx, hb, hr, hml, hown, hts, hX, hbl, hlocks, hgv⟩, -⟩ := K
  intro H locs ls h1 h2 h3 h4 hS hl
  exact lv_aload_n hx hb hd rfl (lv_at hl 2 rfl) (k H locs ls h1 h2 h3 h4 hS hl)
theorem l_s (K : LK Γ) (hd : decode code pc = .ok (.aload_n 0, 1)) (k : LW Γ (pc + 1) n (.ref (lxb Γ) :: st) μC μM) : LW Γ pc n st μC μM := by
  obtain ⟨p, l, e, s, m, below, meth, c, D, adC, adM, b, L, xs, nc, ns⟩ := Γ
  obtain ⟨⟨hx, hb, hr, hml, hown, hts, hX, hbl, hlocks, hgv⟩, -⟩ := K
  intro H locs ls h1 h2 h3 h4 hS hl
  exact lv_aload_n hx hb hd rfl (lv_at hl 0 rfl) (k H locs ls h1 h2 h3 h4 hS hl)
theorem l_i (K : LK Γ) (hd : decode code pc = .ok (.iload_n 3, 1)) (k : LW Γ (pc + 1) n (.int (nI n) :: st) μC μM) : LW Γ pc n st μC μM := by
  obtain ⟨p, l, e, s, m, below, meth, c, D, adC, adM, b, L, xs, nc, ns⟩ := Γ
  obtain ⟨⟨hx, hb, hr, hml, hown, hts, hX, hbl, hlocks, hgv⟩, -⟩ := K
  intro H locs ls h1 h2 h3 h4 hS hl
  exact lv_iload_n hx hb hd rfl (lv_at hl 3 rfl) (k H locs ls h1 h2 h3 h4 hS hl)
theorem l_iconst (K : LK Γ) {a : Int} {v : Int32} (hd : decode code pc = .ok (.iconst a, 1)) (hv : Int32.ofInt a = v) (k : LW Γ (pc + 1) n (.int v :: st) μC μM) : LW Γ pc n st μC μM := by
  obtain ⟨p, l, e, s, m, below, meth, c, D, adC, adM, b, L, xs, nc, ns⟩ := Γ
  obtain ⟨⟨hx, hb, hr, hml, hown, hts, hX, hbl, hlocks, hgv⟩, -⟩ := K
  intro H locs ls h1 h2 h3 h4 hS hl
  exact lv_iconst hx hb hd hv (k H locs ls h1 h2 h3 h4 hS hl)
theorem l_bipush (K : LK Γ) {a : Int} {v : Int32} (hd : decode code pc = .ok (.bipush a, 2)) (hv : (Int8.ofInt a).toInt32 = v) (k : LW Γ (pc + 2) n (.int v :: st) μC μM) : LW Γ pc n st μC μM := by
  obtain ⟨p, l, e, s, m, below, meth, c, D, adC, adM, b, L, xs, nc, ns⟩ := Γ
  obtain ⟨⟨hx, hb, hr, hml, hown, hts, hX, hbl, hlocks, hgv⟩, -⟩ := K
  intro H locs ls h1 h2 h3 h4 hS hl
  exact lv_bipush hx hb hd hv (k H locs ls h1 h2 h3 h4 hS hl)
theorem l_iadd (K : LK Γ) {x y : Int32} (hd : decode code pc = .ok (.iadd, 1)) (k : LW Γ (pc + 1) n (.int (x + y) :: st) μC μM) : LW Γ pc n (.int y :: .int x :: st) μC μM := by
  obtain ⟨p, l, e, s, m, below, meth, c, D, adC, adM, b, L, xs, nc, ns⟩ := Γ
  obtain ⟨⟨hx, hb, hr, hml, hown, hts, hX, hbl, hlocks, hgv⟩, -⟩ := K
  intro H locs ls h1 h2 h3 h4 hS hl
  exact lv_iadd hx hb hd (k H locs ls h1 h2 h3 h4 hS hl)
theorem l_isub (K : LK Γ) {x y : Int32} (hd : decode code pc = .ok (.isub, 1)) (k : LW Γ (pc + 1) n (.int (x - y) :: st) μC μM) : LW Γ pc n (.int y :: .int x :: st) μC μM := by
  obtain ⟨p, l, e, s, m, below, meth, c, D, adC, adM, b, L, xs, nc, ns⟩ := Γ
  obtain ⟨⟨hx, hb, hr, hml, hown, hts, hX, hbl, hlocks, hgv⟩, -⟩ := K
  intro H locs ls h1 h2 h3 h4 hS hl
  exact lv_isub hx hb hd (k H locs ls h1 h2 h3 h4 hS hl)
theorem l_iand (K : LK Γ) {x y : Int32} (hd : decode code pc = .ok (.iand, 1)) (k : LW Γ (pc + 1) n (.int (x &&& y) :: st) μC μM) : LW Γ pc n (.int y :: .int x :: st) μC μM := by
  obtain ⟨p, l, e, s, m, below, meth, c, D, adC, adM, b, L, xs, nc, ns⟩ := Γ
  obtain ⟨⟨hx, hb, hr, hml, hown, hts, hX, hbl, hlocks, hgv⟩, -⟩ := K
  intro H locs ls h1 h2 h3 h4 hS hl
  exact lv_iand hx hb hd (k H locs ls h1 h2 h3 h4 hS hl)
theorem l_i2l (K : LK Γ) {x : Int32} (hd : decode code pc = .ok (.i2l, 1)) (k : LW Γ (pc + 1) n (.long x.toInt64 :: st) μC μM) : LW Γ pc n (.int x :: st) μC μM := by
  obtain ⟨p, l, e, s, m, below, meth, c, D, adC, adM, b, L, xs, nc, ns⟩ := Γ
  obtain ⟨⟨hx, hb, hr, hml, hown, hts, hX, hbl, hlocks, hgv⟩, -⟩ := K
  intro H locs ls h1 h2 h3 h4 hS hl
  exact lv_i2l hx hb hd rfl (k H locs ls h1 h2 h3 h4 hS hl)
theorem l_lshl (K : LK Γ) {x : Int64} {y : Int32} (hd : decode code pc = .ok (.lshl, 1)) (k : LW Γ (pc + 1) n (.long (x <<< (y.toInt64 &&& 63)) :: st) μC μM) : LW Γ pc n (.int y :: .long x :: st) μC μM := by
  obtain ⟨p, l, e, s, m, below, meth, c, D, adC, adM, b, L, xs, nc, ns⟩ := Γ
  obtain ⟨⟨hx, hb, hr, hml, hown, hts, hX, hbl, hlocks, hgv⟩, -⟩ := K
  intro H locs ls h1 h2 h3 h4 hS hl
  exact lv_lshl hx hb hd rfl (k H locs ls h1 h2 h3 h4 hS hl)
theorem l_land (K : LK Γ) {x y : Int64} (hd : decode code pc = .ok (.land, 1)) (k : LW Γ (pc + 1) n (.long (x &&& y) :: st) μC μM) : LW Γ pc n (.long y :: .long x :: st) μC μM := by
  obtain ⟨p, l, e, s, m, below, meth, c, D, adC, adM, b, L, xs, nc, ns⟩ := Γ
  obtain ⟨⟨hx, hb, hr, hml, hown, hts, hX, hbl, hlocks, hgv⟩, -⟩ := K
  intro H locs ls h1 h2 h3 h4 hS hl
  exact lv_land hx hb hd (k H locs ls h1 h2 h3 h4 hS hl)
theorem l_lor (K : LK Γ) {x y : Int64} (hd : decode code pc = .ok (.lor, 1)) (k : LW Γ (pc + 1) n (.long (x ||| y) :: st) μC μM) : LW Γ pc n (.long y :: .long x :: st) μC μM := by
  obtain ⟨p, l, e, s, m, below, meth, c, D, adC, adM, b, L, xs, nc, ns⟩ := Γ
  obtain ⟨⟨hx, hb, hr, hml, hown, hts, hX, hbl, hlocks, hgv⟩, -⟩ := K
  intro H locs ls h1 h2 h3 h4 hS hl
  exact lv_lor hx hb hd (k H locs ls h1 h2 h3 h4 hS hl)
theorem l_ldc2 (K : LK Γ) {i : Nat} {v : Int64} (hd : decode code pc = .ok (.ldc2_w i, 3)) (hw : Cond.constantLong RL i v ∈ lw_tbl) (k : LW Γ (pc + 3) n (.long v :: st) μC μM) : LW Γ pc n st μC μM := by
  obtain ⟨p, l, e, s, m, below, meth, c, D, adC, adM, b, L, xs, nc, ns⟩ := Γ
  obtain ⟨⟨hx, hb, hr, hml, hown, hts, hX, hbl, hlocks, hgv⟩, -⟩ := K
  intro H locs ls h1 h2 h3 h4 hS hl
  exact lv_ldc2 hx hb hown (hts _ hw) hd (k H locs ls h1 h2 h3 h4 hS hl)
theorem l_goto (K : LK Γ) {off : Int} {tgt : Nat} (hd : decode code pc = .ok (.goto off, 3)) (ht : (pc : Int) + off = (tgt : Int)) (k : LW Γ tgt n st μC μM) : LW Γ pc n st μC μM := by
  obtain ⟨p, l, e, s, m, below, meth, c, D, adC, adM, b, L, xs, nc, ns⟩ := Γ
  obtain ⟨⟨hx, hb, hr, hml, hown, hts, hX, hbl, hlocks, hgv⟩, -⟩ := K
  intro H locs ls h1 h2 h3 h4 hS hl
  exact lv_goto hx hb hd ht (k H locs ls h1 h2 h3 h4 hS hl)
theorem l_ifeq (K : LK Γ) {x : Int32} {off : Int} {tgt : Nat} (hd : decode code pc = .ok (.ifCond .eq off, 3)) (ht : (pc : Int) + off = (tgt : Int)) (kt : x = 0 → LW Γ tgt n st μC μM) (kf : ¬ x = 0 → LW Γ (pc + 3) n st μC μM) : LW Γ pc n (.int x :: st) μC μM := by
  obtain ⟨p, l, e, s, m, below, meth, c, D, adC, adM, b, L, xs, nc, ns⟩ := Γ
  obtain ⟨⟨hx, hb, hr, hml, hown, hts, hX, hbl, hlocks, hgv⟩, -⟩ := K
  intro H locs ls h1 h2 h3 h4 hS hl
  exact lv_if_eq hx hb hd ht (fun h => kt h H locs ls h1 h2 h3 h4 hS hl) (fun h => kf h H locs ls h1 h2 h3 h4 hS hl)
theorem l_icmpeq (K : LK Γ) {x : Int32} {off : Int} {tgt : Nat} (hd : decode code pc = .ok (.if_icmp .eq off, 3)) (ht : (pc : Int) + off = (tgt : Int)) (kt : LW Γ tgt n st μC μM) : LW Γ pc n (.int x :: .int x :: st) μC μM := by
  obtain ⟨p, l, e, s, m, below, meth, c, D, adC, adM, b, L, xs, nc, ns⟩ := Γ
  obtain ⟨⟨hx, hb, hr, hml, hown, hts, hX, hbl, hlocks, hgv⟩, -⟩ := K
  intro H locs ls h1 h2 h3 h4 hS hl
  exact lv_icmp_eq hx hb hd ht (fun _ => kt H locs ls h1 h2 h3 h4 hS hl) (fun h => absurd rfl h)
theorem l_lcmpeq (K : LK Γ) {x : Int64} {off : Int} {tgt : Nat} (hc : decode code pc = .ok (.lcmp, 1)) (hd : decode code (pc + 1) = .ok (.ifCond .eq off, 3)) (ht : ((pc + 1 : Nat) : Int) + off = (tgt : Int)) (kt : LW Γ tgt n st μC μM) : LW Γ pc n (.long x :: .long x :: st) μC μM := by
  obtain ⟨p, l, e, s, m, below, meth, c, D, adC, adM, b, L, xs, nc, ns⟩ := Γ
  obtain ⟨⟨hx, hb, hr, hml, hown, hts, hX, hbl, hlocks, hgv⟩, -⟩ := K
  intro H locs ls h1 h2 h3 h4 hS hl
  refine W.lcmp hx hb hc ?_
  have e1 : lg_cmp x x = 0 := by unfold lg_cmp; rw [if_neg (by rw [gt_iff_lt, Int64.lt_iff_toInt_lt]; omega), if_pos rfl]
  rw [e1]
  exact lv_if_eq hx hb hd ht (fun _ => kt H locs ls h1 h2 h3 h4 hS hl) (fun h => absurd rfl h)
/-- a place of the script -/
theorem l_at (K : LK Γ) {k : Nat} (hk : n + k < lxL Γ) (hd : decode code pc = .ok (.iaload, 1)) (kk : LW Γ (pc + 1) n (.int (lxs Γ (n + k)) :: st) μC μM) : LW Γ pc n (.int (nI n + nI k) :: .ref (lxb Γ) :: st) μC μM := by
  obtain ⟨p, l, e, s, m, below, meth, c, D, adC, adM, b, L, xs, nc, ns⟩ := Γ
  obtain ⟨⟨hx, hb, hr, hml, hown, hts, hX, hbl, hlocks, hgv⟩, hL, -⟩ := K
  intro H locs ls h1 h2 h3 h4 hS hl
  have hk : n + k < L := hk
  rw [nI_add]
  refine va_sld (A := fun q => s.heap.size ≤ q) hx hb hX hbl (Nat.not_le.mpr hbl) hS (vp_in_nI hk (by omega)) hd ?_
  rw [nI_clamp (by omega)]
  exact kk H locs ls h1 h2 h3 h4 hS hl
theorem keepP {D : va_G} {ad ad2 : Adr} {sh sh2 : Shp} {μ : Mem} {H H1 : Heap} (h : va_P D vwCl (wsO ad sh μ) H) (hd : ∀ i j, i < sh2.length → j < sh.length → ad1 ad2 i ≠ ad1 ad j) (hk : ∀ q, q < H.size → ¬ Aof ad2 sh2 q → H1[q]? = H[q]?) : va_P D vwCl (wsO ad sh μ) H1 := by
  refine h.kept (fun k q hq => hk q.1 (h k q hq).lt ?_)
  rintro ⟨i, hi, he⟩
  unfold wsO at hq
  rw [List.getElem?_mapIdx] at hq
  cases hs : sh[k]? with
  | none => rw [hs] at hq; cases hq
  | some x =>
    rw [hs] at hq
    cases hq
    exact hd i k hi (List.getElem?_eq_some_iff.mp hs).1 he.symm
theorem l_callC (K : LK Γ) {y : MethodName} {bytes : ByteArray} {maxL : Nat} {ret : Option FieldType} {d idx n9 : Nat} {f : Fn} (hM : MO y bytes maxL ret d f) (hw : CLw idx 11 y bytes maxL ret n9) (hd : decode code pc = .ok (.invokevirtual idx, 3)) (hdep : d + 1 ≤ 60) (hk2 : rk ret ≠ 2 ∧ rk ret ≠ 3) {as : List Vl} {v : Int} {μ' : Mem} {rest : List Value} (hst : st = (sv (lxC Γ) as).reverse ++ .ref (ad1 (lxC Γ) 0) :: rest) (hn : as.length = n9) (has : sok shC.length as) (hf : f shC ((2, rf 0) :: as) μC = some (v, μ')) (hw8 : (rest.map fun v => v.category).sum ≤ 8) (k : rg shC.length (rk ret) v → LW Γ (pc + 3) n (vv [] (rk ret) v :: rest) μ' μM) : LW Γ pc n st μC μM := by
  obtain ⟨p, l, e, s, m, below, meth, c, D, adC, adM, b, L, xs, nc, ns⟩ := Γ
  obtain ⟨⟨hx, hb, hr, hml, hown, hts, hX, hbl, hlocks, hgv⟩, hL, hDC, hDM, hdis, hK0, hKC, hKM, hlC, hlM, hsk, hnc, hns⟩ := K
  intro H locs ls h1 h2 h3 h4 hS hl
  rw [hst]
  refine w_call hx hb hml hown hts hDC hK0 hKC hlC hsk ⟨by decide, by decide, hnc, hns⟩ hM hw hd hdep hk2 hn rfl has hf hw8 hl.1 h1 h2 hS (fun H1 locs1 g1 g2 g3 g4 g5 => ?_)
  have k1 := k g3 H1 locs1 ls g1 g2 (keepP h3 hdis g4) h4 g5 hl
  have ev : vv adC (rk ret) v = vv [] (rk ret) v := by
    have h5 : rk ret = 0 ∨ rk ret = 1 := by
      have : rk ret < 4 := by unfold rk; split <;> decide
      omega
    rcases h5 with h5 | h5 <;> rw [h5] <;> rfl
  rw [ev]
  exact k1
theorem l_callM (K : LK Γ) {y : MethodName} {bytes : ByteArray} {maxL : Nat} {ret : Option FieldType} {d idx n9 : Nat} {f : Fn} (hM : MO y bytes maxL ret d f) (hw : CLw idx 12 y bytes maxL ret n9) (hd : decode code pc = .ok (.invokevirtual idx, 3)) (hdep : d + 1 ≤ 60) (hk2 : rk ret ≠ 2 ∧ rk ret ≠ 3) {as : List Vl} {v : Int} {μ' : Mem} {rest : List Value} (hst : st = (sv (lxM Γ) as).reverse ++ .ref (ad1 (lxM Γ) 0) :: rest) (hn : as.length = n9) (has : sok shM.length as) (hf : f shM ((2, rf 0) :: as) μM = some (v, μ')) (hw8 : (rest.map fun v => v.category).sum ≤ 8) (k : rg shM.length (rk ret) v → LW Γ (pc + 3) n (vv [] (rk ret) v :: rest) μC μ') : LW Γ pc n st μC μM := by
  obtain ⟨p, l, e, s, m, below, meth, c, D, adC, adM, b, L, xs, nc, ns⟩ := Γ
  obtain ⟨⟨hx, hb, hr, hml, hown, hts, hX, hbl, hlocks, hgv⟩, hL, hDC, hDM, hdis, hK0, hKC, hKM, hlC, hlM, hsk, hnc, hns⟩ := K
  intro H locs ls h1 h2 h3 h4 hS hl
  rw [hst]
  refine w_call hx hb hml hown hts hDM hK0 hKM hlM hsk ⟨by decide, by decide, hnc, hns⟩ hM hw hd hdep hk2 hn rfl has hf hw8 hl.1 h3 h4 hS (fun H1 locs1 g1 g2 g3 g4 g5 => ?_)
  have k1 := k g3 H1 locs1 ls (keepP h1 (fun i j hi hj z => hdis j i hj hi z.symm) g4) h2 g1 g2 g5 hl
  have ev : vv adM (rk ret) v = vv [] (rk ret) v := by
    have h5 : rk ret = 0 ∨ rk ret = 1 := by
      have : rk ret < 4 := by unfold rk; split <;> decide
      omega
    rcases h5 with h5 | h5 <;> rw [h5] <;> rfl
  rw [ev]
  exact k1
end LL
