/-! copies, comparisons of references, calls -/
def cpyM (μ : Mem) (sa sp da dp n : Nat) : Mem := fun a b => if a = da ∧ dp ≤ b ∧ b < dp + n then μ sa (sp + (b - dp)) else μ a b
theorem wsO_cpy {ad : Adr} {sh : Shp} {μ : Mem} {sa sp da dp n nn : Nat} (h : sh[da]? = some (100, nn)) {E : va_E} (hE : E = cE ad da (100, nn) (cpyM μ sa sp da dp n da)) : (wsO ad sh μ).set da (ad1 ad da, E) = wsO ad sh (cpyM μ sa sp da dp n) := by
  have hl := (List.getElem?_eq_some_iff.mp h).1
  apply List.ext_getElem?
  intro i
  by_cases hi : i = da
  · subst hi
    rw [List.getElem?_set_self (by unfold wsO; rw [List.length_mapIdx]; exact hl), wsO_at h, hE]
  · rw [List.getElem?_set_ne (Ne.symm hi)]
    unfold wsO
    rw [List.getElem?_mapIdx, List.getElem?_mapIdx]
    have : cpyM μ sa sp da dp n i = μ i := by
      funext b
      unfold cpyM
      rw [if_neg (fun z => hi z.1)]
    rw [this]
theorem mok_cpy {sh : Shp} {μ : Mem} (h : mok sh μ) {sa sp da dp n n0 n1 : Nat} (h0 : sh[sa]? = some (100, n0)) (h1 : sh[da]? = some (100, n1)) : mok sh (cpyM μ sa sp da dp n) := by
  intro a q hq b
  unfold cpyM
  split
  · rename_i hc
    rw [hc.1, h1] at hq
    cases hq
    exact (show rg sh.length 0 (μ sa (sp + (b - dp))) from h sa _ h0 (sp + (b - dp)))
  · exact h a q hq b
/-- a state at a call: the memory's picture, the tables -/
def PX (D : va_G) (ad : Adr) (sh : Shp) (μ : Mem) (U : State) : Prop := va_P D vwCl (wsO ad sh μ) U.heap ∧ mok sh μ ∧ va_K D vwCl [] U ∧ (∀ k q, sh[k]? = some q → 100 ≤ q.1 → va_K D vwCl [(ad2 ad k, aty q.1)] U) ∧ (∀ μ', va_D (Aof ad sh) (wsO ad sh μ')) ∧ ad.length = sh.length ∧ SKx (Aof ad sh) U U.heap
/-- a method's contract: wherever the function f answers, the method does so -/
def MO (y : MethodName) (bytes : ByteArray) (maxL : Nat) (ret : Option FieldType) (d : Nat) (f : Shp → List Vl → Mem → Option (Int × Mem)) : Prop :=
  ∀ (l : Launch) (D : va_G) (ad : Adr) (sh : Shp) (μ : Mem) (as : List Vl) (r : Int) (μ' : Mem), f sh as μ = some (r, μ') → sok sh.length as →
    Met l y (.code y bytes maxL ret :: tbl) (Rm d) (va_Pc (sv ad as) (PX D ad sh μ)) (Qx D ad sh (rk ret) (fun r1 μ1 => r1 = r ∧ μ1 = μ')) 0 0 (Aof ad sh)
def pu (ret : Option FieldType) (v : Int) (st : List Vl) : List Vl := if rk ret = 3 then st else (rk ret, v) :: st
def wd (st : List Vl) : Nat := (st.map (fun q => if q.1 = 1 then 2 else 1)).sum
/-- the words of a call -/
def CB (own : String) (idx : Nat) (y : MethodName) (bytes : ByteArray) (maxL : Nat) (ret : Option FieldType) (n : Nat) : Prop :=
  Cond.methodLink own idx y ∈ tbl ∧ Cond.initialized y.cls ∈ tbl ∧ Cond.code y bytes maxL ret ∈ tbl ∧ y.cls ≠ "java/lang/invoke/MethodHandle" ∧ y.cls ≠ "java/lang/invoke/VarHandle" ∧ (parseMethodDescriptor y.desc).map (fun d => d.parameters.length) = some n ∧ maxL ≤ 45
def CV (own : String) (idx ci : Nat) (y : MethodName) (bytes : ByteArray) (maxL : Nat) (ret : Option FieldType) (n : Nat) : Prop :=
  CB own idx y bytes maxL ret n ∧ Cond.instanceMethod y ∈ tbl ∧ ∃ (C : String) (T : u_T) (N : Nat), vwCl[ci]? = some (C, T, N) ∧ Cond.selects C y y ∈ tbl ∧ ci < 100
def CS (own : String) (idx : Nat) (y : MethodName) (bytes : ByteArray) (maxL : Nat) (ret : Option FieldType) (n : Nat) : Prop :=
  CB own idx y bytes maxL ret n ∧ Cond.static y ∈ tbl
theorem wd_sv {ad : Adr} {n : Nat} {st : List Vl} (h : sok n st) : ((sv ad st).map fun v => v.category).sum = wd st := by
  induction st with
  | nil => rfl
  | cons q st ih =>
    obtain ⟨t, v⟩ := q
    obtain ⟨h0, -, -⟩ := sok_t h
    have h2 := ih (sok_d h)
    unfold wd sv at *
    simp only [List.map_cons, List.sum_cons]
    rw [h2]
    congr 1
    by_cases ht : t = 1
    · simp only [ht, if_true]
      exact (vv_cat (by omega)).mpr rfl
    · simp only [if_neg ht]
      exact vv_cat1 h0 ht
theorem sok_app {n : Nat} {a b : List Vl} (ha : sok n a) (hb : sok n b) : sok n (a ++ b) := fun q hq => (List.mem_append.mp hq).elim (ha q) (hb q)
theorem sok_l1 {n : Nat} {a b : List Vl} (h : sok n (a ++ b)) : sok n a := fun q hq => h q (List.mem_append_left _ hq)
theorem sok_l2 {n : Nat} {a b : List Vl} (h : sok n (a ++ b)) : sok n b := fun q hq => h q (List.mem_append_right _ hq)
theorem px_blind {D : va_G} {ad : Adr} {sh : Shp} {μ : Mem} {vs : List Value} : FrameBlind (va_Pc vs (PX D ad sh μ)) := by
  intro a U g mk q
  obtain ⟨q0, q1, q2, q3, q4, q5, q6, q7⟩ := q
  exact ⟨q0, q1, q2, va_K.moved (u := U) (U := U.calling g mk a) (Vm.Alike.refl U.vm) q3, fun k x h1 h2 => va_K.moved (u := U) (U := U.calling g mk a) (Vm.Alike.refl U.vm) (q4 k x h1 h2), q5, q6, q7.calling⟩
theorem aof_sub {A : Nat → Prop} {ad : Adr} {sh : Shp} {μ : Mem} (h : va_D A (wsO ad sh μ)) : ∀ q, Aof ad sh q → A q := by
  rintro q ⟨k, hk, rfl⟩
  exact h.2 k _ (wsO_at (List.getElem?_eq_getElem hk))
theorem aof_D {A : Nat → Prop} {ad : Adr} {sh : Shp} {μ : Mem} (h : va_D A (wsO ad sh μ)) : va_D (Aof ad sh) (wsO ad sh μ) := by
  refine ⟨h.1, fun k q hk => ?_⟩
  unfold wsO at hk
  rw [List.getElem?_mapIdx] at hk
  cases he : sh[k]? with
  | none => rw [he] at hk; cases hk
  | some x =>
    rw [he] at hk
    cases hk
    exact ⟨k, (List.getElem?_eq_some_iff.mp he).1, rfl⟩
section RU
variable {M : Md} {Γ : Cx} {pc : Nat} {env : Ev} {st : List Vl} {μ : Mem}
theorem r_copy (G : CK M Γ) {idx : Nat} (hw : Cond.methodLink M.2.1 idx arraycopyName ∈ tbl ∧ Cond.native arraycopyName ∈ tbl ∧ Cond.static arraycopyName ∈ tbl ∧ Cond.initialized "java/lang/System" ∈ tbl) (hd : decode M.1 pc = .ok (.invokestatic idx, 3)) (hdep : 1 ≤ M.2.2.1) (hw8 : wd st ≤ 8) {a b sp dp n : Int} {n0 n1 : Nat} (hs0 : (cs Γ)[a.toNat]? = some (100, n0)) (hs1 : (cs Γ)[b.toNat]? = some (100, n1)) (g1 : 0 ≤ sp) (g2 : 0 ≤ dp) (g3 : 0 ≤ n) (g4 : sp + n ≤ n0) (g5 : dp + n ≤ n1)
    (k : WP M Γ (pc + 3) env st (cpyM μ a.toNat sp.toNat b.toNat dp.toNat n.toNat)) : WP M Γ pc env ((0, n) :: (0, dp) :: (2, b) :: (0, sp) :: (2, a) :: st) μ := by
  obtain ⟨p, l, e, s, m, args, below, meth, c, D, ad, sh, F, A, R, nc, ns, Q⟩ := Γ
  obtain ⟨hx, hb, hml, hown, hts, hD, hK, hKa, hrt, hlk, hal, hsk, hR, hQ⟩ := G
  intro H locs ls hP hM hS hE hn hst
  have hs0 : sh[a.toNat]? = some (100, n0) := hs0
  have hs1 : sh[b.toNat]? = some (100, n1) := hs1
  obtain ⟨-, t1, -⟩ := sok_t hst
  obtain ⟨-, t2, -⟩ := sok_t (sok_d hst)
  obtain ⟨-, -, t3⟩ := sok_t (sok_d (sok_d hst))
  obtain ⟨-, t4, -⟩ := sok_t (sok_d (sok_d (sok_d hst)))
  obtain ⟨-, -, t5⟩ := sok_t (sok_d (sok_d (sok_d (sok_d hst))))
  have hst2 := sok_d (sok_d (sok_d (sok_d (sok_d hst))))
  show W _ _ _ _ _ _ _ _ _ _ _ _ _ _ _ (F0 m pc ls (.int (Int32.ofInt n) :: .int (Int32.ofInt dp) :: vv ad 2 b :: .int (Int32.ofInt sp) :: vv ad 2 a :: sv ad st))
  rw [vv_ref (t3 rfl), vv_ref (t5 rfl)]
  have e0 : (wsO ad sh μ)[a.toNat]? = some (ad1 ad a.toNat, .inl (ad2 ad a.toNat, n0, .inl (fun j => Int32.ofInt (μ a.toNat j)))) := by rw [wsO_at hs0]; rfl
  have e1 : (wsO ad sh μ)[b.toNat]? = some (ad1 ad b.toNat, .inl (ad2 ad b.toNat, n1, .inl (fun j => Int32.ofInt (μ b.toNat j)))) := by rw [wsO_at hs1]; rfl
  have hK2 := (hKa _ _ hs0 (Nat.le_of_ble_eq_true rfl)).app (hKa _ _ hs1 (Nat.le_of_ble_eq_true rfl))
  have ng : ∀ {x : Int}, rg sh.length 0 x → 0 ≤ x → ¬ Int32.ofInt x < 0 := fun hx h => by
    intro z
    have := (i32_lt hx (r0 sh.length)).mp z
    omega
  refine va_copyi (D := D) hx hb (by rw [hml, hE.1, hn]) hown (hts _ hw.1) (hts _ hw.2.1) (hts _ hw.2.2.1) (hts _ hw.2.2.2) hK2 hP (hD μ) hS a.toNat b.toNat 0 1 e0 e1 rfl rfl rfl (ng t4 g1) (ng t2 g2) (ng t1 g3) ?_ ?_ (fun i _ => rfl) ?_ ?_ hd (fun H1 locs1 hP1 hD1 hS1 => ?_)
  · rw [clampI t4, clampI t1]; omega
  · rw [clampI t2, clampI t1]; omega
  · exact Nat.le_trans hdep hR.1
  · rw [wd_sv hst2]
    show wd st + (7 + 11) ≤ R.locals
    have := hR.2.1
    omega
  · rw [clampI t4, clampI t2, clampI t1] at hP1
    rw [wsO_cpy (ad := ad) (μ := μ) (sa := a.toNat) (sp := sp.toNat) (dp := dp.toNat) (n := n.toNat) hs1 ?_] at hP1
    · exact k H1 locs1 ls hP1 (mok_cpy hM hs0 hs1) hS1 hE hn hst2
    · show _ = Sum.inl (ad2 ad b.toNat, n1, Sum.inl (fun j => Int32.ofInt (cpyM μ a.toNat sp.toNat b.toNat dp.toNat n.toNat b.toNat j)))
      congr 4
      funext j
      unfold va_cpy cpyM
      by_cases hc : dp.toNat ≤ j ∧ j < dp.toNat + n.toNat
      · rw [if_pos hc, if_pos ⟨rfl, hc⟩]
      · rw [if_neg hc, if_neg (fun z => hc z.2)]
theorem r_acmp_ne (G : CK M Γ) {a b : Int} {off : Int} {tgt : Nat} (hd : decode M.1 pc = .ok (.if_acmp .ne off, 3)) (ht : (pc : Int) + off = (tgt : Int)) (kt : ¬ a = b → WP M Γ tgt env st μ) (kf : a = b → WP M Γ (pc + 3) env st μ) : WP M Γ pc env ((2, b) :: (2, a) :: st) μ := by
  obtain ⟨p, l, e, s, m, args, below, meth, c, D, ad, sh, F, A, R, nc, ns, Q⟩ := Γ
  obtain ⟨hx, hb, hml, hown, hts, hD, hK, hKa, hrt, hlk, hal, hsk, hR, hQ⟩ := G
  intro H locs ls hP hM hS hE hn hst
  obtain ⟨-, tb, t3⟩ := sok_t hst
  obtain ⟨-, ta, t5⟩ := sok_t (sok_d hst)
  have hst2 := sok_d (sok_d hst)
  show W _ _ _ _ _ _ _ _ _ _ _ _ _ _ _ (F0 m pc ls (vv ad 2 b :: vv ad 2 a :: sv ad st))
  rw [vv_ref (t3 rfl), vv_ref (t5 rfl)]
  have h0 := t3 rfl
  have h1 := t5 rfl
  have ha : a.toNat < sh.length := by have := ta.2; omega
  have hb' : b.toNat < sh.length := by have := tb.2; omega
  refine lv_acmp_ne (rx := some (ad1 ad a.toNat)) (ry := some (ad1 ad b.toNat)) hx hb hd ht (fun h => ?_) (fun h => ?_)
  · exact kt (fun z => h (by rw [z])) H locs ls hP hM hS hE hn hst2
  · have := aof_inj (hD μ) ha hb' (Option.some.inj h)
    exact kf (by omega) H locs ls hP hM hS hE hn hst2
theorem r_back {st0 rest : List Vl} {y : MethodName} {ret : Option FieldType} {v : Int} {μ' : Mem} (p : Program) (l : Launch) (e : Env) (s : State) (m : MethodId) (args : Array Value) (below : List Frame) (meth : Method) (c : Code) (D : va_G) (ad : Adr) (sh : Shp) (F : Int → Mem → Prop) (A : Nat → Prop) (R : Room) (nc ns : Nat) (Q : State → Prop) (hA : ∀ q, Aof ad sh q → A q) {H : Heap} {locs : List Loc} {ls : Array Slot} (hS : va_S A s.heap H locs) (hE : eok ad sh.length env ls) (hn : env.length = M.2.2.2.1) (hst : sok sh.length rest) {aa : Array Value}
    (hr : va_Run p l e R s m args below meth c H locs nc ns 0 0 (F0 m pc ls (sv ad st0)) (sv ad rest) (Qx D ad sh (rk ret) (fun r1 μ1 => r1 = v ∧ μ1 = μ') aa) (Aof ad sh)) (hk3 : rk ret < 4) (hk2 : rk ret ≠ 2)
    (k : WP M (p, l, e, s, m, args, below, meth, c, D, ad, sh, F, A, R, nc, ns, Q) (pc + 3) env (pu ret v rest) μ') : W p l e R s m args below meth c H locs nc ns Q (F0 m pc ls (sv ad st0)) := by
  intro T hT X
  obtain ⟨v0, st₀, t, T', L, h0, X', hL, e1, e2, ⟨r, μ1, ⟨rfl, rfl⟩, hv, hPr, hMr, hrr, hz, hk⟩, stp⟩ := hr T hT X
  rw [h0] at hz hk
  have hS1 : va_S A s.heap T'.heap (locs ++ L) :=
    ⟨Nat.le_trans hS.1 (by rw [e1]; exact hz), fun q h1 h2 => by rw [e1, hk q (Nat.lt_of_lt_of_le h1 hS.1) (fun z => h2 (hA q z))]; exact hS.2.1 q h1 h2, fun q hq => by
      rcases List.mem_append.mp hq with h | h
      · exact hS.2.2 q h
      · exact hA _ (hL q h)⟩
  have hst1 : sok sh.length (pu ret r rest) := by
    unfold pu
    split
    · exact hst
    · have : rk ret < 3 := by omega
      exact sok_c hst this (hrr this) (fun z => absurd z hk2)
  have k1 := k T'.heap (locs ++ L) ls (by rw [e1]; exact hPr) hMr hS1 hE hn hst1
  cases hv
  have e3 : (rvv ad (rk ret) r).toList ++ sv ad rest = sv ad (pu ret r rest) := by
    unfold rvv pu
    split <;> rfl
  rw [e3] at stp
  obtain ⟨t2, a1, b1⟩ := k1 T' rfl X'
  exact ⟨t2, stp t2 a1, b1⟩
theorem cb_of {s : State} {args : Array Value} {own : String} {idx : Nat} {y : MethodName} {bytes : ByteArray} {maxL : Nat} {ret : Option FieldType} {n d D : Nat} {R : Room} (hts : ∀ w ∈ tbl, w.before args s = true) (h : CB own idx y bytes maxL ret n) (hd : d + 1 ≤ D) (hR : D ≤ R.frames ∧ 64 * D ≤ R.locals) : CallB R s args own idx y bytes maxL ret (.code y bytes maxL ret :: tbl) (Rm d) 0 0 n := by
  obtain ⟨h1, h2, h3, h4, h5, h6, h7⟩ := h
  refine callB_of n hts (tb_in ?_) rfl rfl rfl (hts _ h2) (hts _ h1) ⟨h4, h5, h6⟩ ⟨Nat.le_trans hd hR.1, ?_⟩
  · intro w hw
    rcases List.mem_cons.mp hw with rfl | hw
    · exact h3
    · exact hw
  · show 8 + (maxL + 11) + 64 * d ≤ R.locals
    have := hR.2
    omega
theorem r_callV (G : CK M Γ) {y : MethodName} {bytes : ByteArray} {maxL : Nat} {ret : Option FieldType} {d idx ci n nn : Nat} {f : Shp → List Vl → Mem → Option (Int × Mem)} (hM : MO y bytes maxL ret d f) (hw : CV M.2.1 idx ci y bytes maxL ret n) (hd : decode M.1 pc = .ok (.invokevirtual idx, 3)) (hdep : d + 1 ≤ M.2.2.1) (hk2 : rk ret ≠ 2) {as : List Vl} {a v : Int} {μ' : Mem} (hn : as.length = n) (hs : (cs Γ)[a.toNat]? = some (ci, nn)) (hf : f (cs Γ) ((2, a) :: as) μ = some (v, μ')) (hw8 : wd st ≤ 8)
    (k : WP M Γ (pc + 3) env (pu ret v st) μ') : WP M Γ pc env (as.reverse ++ (2, a) :: st) μ := by
  obtain ⟨p, l, e, s, m, args, below, meth, c, D, ad, sh, F, A, R, nc, ns, Q⟩ := Γ
  have G0 := G
  obtain ⟨hx, hb, hml, hown, hts, hD, hK, hKa, hrt, hlk, hal, hsk, hR, hQ⟩ := G
  intro H locs ls hP hMk hS hE hn1 hst
  have hs : sh[a.toNat]? = some (ci, nn) := hs
  have hst2 := sok_d (sok_l2 hst)
  obtain ⟨ta0, ta1, ta2⟩ := sok_t (sok_l2 hst)
  have has : sok sh.length ((2, a) :: as) := sok_c (fun q hq => sok_l1 hst q (List.mem_reverse.mpr hq)) ta0 ta1 ta2
  obtain ⟨hw1, hw2, C, T, N, hw3, hw4, hw5⟩ := hw
  have hmet := hM l D ad sh μ ((2, a) :: as) v μ' hf has
  have es : sv ad (as.reverse ++ (2, a) :: st) = (sv ad as).reverse ++ .ref (ad1 ad a.toNat) :: sv ad st := by
    unfold sv
    rw [List.map_append, List.map_reverse, List.map_cons]
    show _ ++ vv ad 2 a :: _ = _
    rw [vv_ref (ta2 rfl)]
  have ea : sv ad ((2, a) :: as) = .ref (ad1 ad a.toNat) :: sv ad as := by
    show vv ad 2 a :: _ = _
    rw [vv_ref (ta2 rfl)]
    rfl
  rw [ea] at hmet
  refine r_back (y := y) p l e s m args below meth c D ad sh F A R nc ns Q (aof_sub (hD μ)) hS hE hn1 hst2 (aa := (Value.ref (ad1 ad a.toNat) :: sv ad as).toArray) ?_ ?_ hk2 k
  · refine va_runV (cc := M.1) (nL := M.2.2.2.1) ⟨hx, hb, hml, hown, hts⟩ hmet ⟨cb_of hts hw1 hdep ⟨hR.1, hR.2.1⟩, hts _ hw2, hts _ hw4⟩ ⟨px_blind, va_recv hK hP (ci := ci) (q0 := a.toNat) hw3 (by rw [wsO_at hs, cE_obj hw5]), fun U hU hW => ⟨rfl, by rw [hU]; exact hP, hMk, va_K.moved hW.alike hK, fun k q h1 h2 => va_K.moved hW.alike (hKa k q h1 h2), fun μ' => aof_D (hD μ'), hal, by rw [hU]; exact (hsk.to hW hS.2.1).narrow (aof_sub (hD μ))⟩⟩ rfl ?_ ?_ es ?_ hd ⟨hR.2.2.1, hR.2.2.2⟩
    · unfold sv; rw [List.length_map]; exact hn
    · show ls.size = _; rw [hE.1, hn1]
    · exact lv_room (by rw [wd_sv hst2]; exact hw8)
  · unfold rk; split <;> decide
theorem r_callS (G : CK M Γ) {y : MethodName} {bytes : ByteArray} {maxL : Nat} {ret : Option FieldType} {d idx n : Nat} {f : Shp → List Vl → Mem → Option (Int × Mem)} (hM : MO y bytes maxL ret d f) (hw : CS M.2.1 idx y bytes maxL ret n) (hd : decode M.1 pc = .ok (.invokestatic idx, 3)) (hdep : d + 1 ≤ M.2.2.1) (hk2 : rk ret ≠ 2) {as : List Vl} {v : Int} {μ' : Mem} (hn : as.length = n) (hf : f (cs Γ) as μ = some (v, μ')) (hw8 : wd st ≤ 8)
    (k : WP M Γ (pc + 3) env (pu ret v st) μ') : WP M Γ pc env (as.reverse ++ st) μ := by
  obtain ⟨p, l, e, s, m, args, below, meth, c, D, ad, sh, F, A, R, nc, ns, Q⟩ := Γ
  have G0 := G
  obtain ⟨hx, hb, hml, hown, hts, hD, hK, hKa, hrt, hlk, hal, hsk, hR, hQ⟩ := G
  intro H locs ls hP hMk hS hE hn1 hst
  have hst2 := sok_l2 hst
  have has : sok sh.length as := fun q hq => sok_l1 hst q (List.mem_reverse.mpr hq)
  obtain ⟨hw1, hw2⟩ := hw
  have hmet := hM l D ad sh μ as v μ' hf has
  have es : sv ad (as.reverse ++ st) = (sv ad as).reverse ++ sv ad st := by
    unfold sv
    rw [List.map_append, List.map_reverse]
  refine r_back (y := y) p l e s m args below meth c D ad sh F A R nc ns Q (aof_sub (hD μ)) hS hE hn1 hst2 (aa := (sv ad as).toArray) ?_ ?_ hk2 k
  · refine va_runS (cc := M.1) (nL := M.2.2.2.1) ⟨hx, hb, hml, hown, hts⟩ hmet ⟨cb_of hts hw1 hdep ⟨hR.1, hR.2.1⟩, hts _ hw2⟩ ⟨px_blind, fun U hU hW => ⟨rfl, by rw [hU]; exact hP, hMk, va_K.moved hW.alike hK, fun k q h1 h2 => va_K.moved hW.alike (hKa k q h1 h2), fun μ' => aof_D (hD μ'), hal, by rw [hU]; exact (hsk.to hW hS.2.1).narrow (aof_sub (hD μ))⟩⟩ rfl ?_ ?_ es ?_ hd ⟨hR.2.2.1, hR.2.2.2⟩
    · unfold sv; rw [List.length_map]; exact hn
    · show ls.size = _; rw [hE.1, hn1]
    · exact lv_room (by rw [wd_sv hst2]; exact hw8)
  · unfold rk; split <;> decide
end RU
