/-! the law: class and reference as two pictures side by side -/
def shM : Shp := (12, 0) :: LMo
abbrev Lx : Type := Program × Launch × Env × State × MethodId × List Frame × Method × Code × va_G × Adr × Adr × Nat × Nat × (Nat → Int32) × Nat × Nat
def LW (Γ : Lx) (pc n : Nat) (st : List Value) (μC μM : Mem) : Prop := match Γ with
  | (p, l, e, s, m, below, meth, c, D, adC, adM, b, L, xs, nc, ns) => ∀ H locs ls, va_P D vwCl (wsO adC shC μC) H → mok shC μC → va_P D vwCl (wsO adM shM μM) H → mok shM μM → va_S (fun q => s.heap.size ≤ q) s.heap H locs → lv_has ls 4 [(0, .ref b), (1, .ref (ad1 adC 0)), (2, .ref (ad1 adM 0)), (3, .int (nI n))] →
    W p l e room_1 s m #[Value.ref b] below meth c H locs nc ns (lw_Z below #[Value.ref b] s) (F0 m pc ls st)
def LK (Γ : Lx) : Prop := match Γ with
  | (p, l, e, s, m, below, meth, c, D, adC, adM, b, L, xs, nc, ns) => lw_At p s m meth c b L xs ∧ L ≤ 3584 ∧ (∀ μ, va_D (fun q => s.heap.size ≤ q) (wsO adC shC μ)) ∧ (∀ μ, va_D (fun q => s.heap.size ≤ q) (wsO adM shM μ)) ∧ (∀ i j, i < shC.length → j < shM.length → ad1 adC i ≠ ad1 adM j) ∧ va_K D vwCl [] s ∧ (∀ k q, shC[k]? = some q → 100 ≤ q.1 → va_K D vwCl [(ad2 adC k, aty q.1)] s) ∧ (∀ k q, shM[k]? = some q → 100 ≤ q.1 → va_K D vwCl [(ad2 adM k, aty q.1)] s) ∧ adC.length = shC.length ∧ adM.length = shM.length ∧ SKx (fun q => s.heap.size ≤ q) s s.heap ∧ nc ≤ 600000 ∧ ns ≤ 7302250
/-- the words of a call from the law -/
def CLw (idx ci : Nat) (y : MethodName) (bytes : ByteArray) (maxL : Nat) (ret : Option FieldType) (n : Nat) : Prop := Cond.methodLink RL idx y ∈ lw_tbl ∧ Cond.initialized y.cls ∈ lw_tbl ∧ Cond.code y bytes maxL ret ∈ tbl ∧ y.cls ≠ "java/lang/invoke/MethodHandle" ∧ y.cls ≠ "java/lang/invoke/VarHandle" ∧ (parseMethodDescriptor y.desc).map (fun d => d.parameters.length) = some n ∧ maxL ≤ 45 ∧ Cond.instanceMethod y ∈ lw_tbl ∧ ∃ (C : String) (T : u_T) (N : Nat), vwCl[ci]? = some (C, T, N) ∧ Cond.selects C y y ∈ lw_tbl ∧ ci < 100
theorem tbl_in_lw {w : Cond} (h : w ∈ tbl) : w ∈ lw_tbl := (List.mem_filter.mp h).1
/-- one call, on one of the two pictures -/
theorem w_call {p : Program} {l : Launch} {e : Env} {s : State} {m : MethodId} {args : Array Value} {below : List Frame} {meth : Method} {c : Code} {D : va_G} {ad : Adr} {sh : Shp} {A : Nat → Prop} {R : Room} {nc ns : Nat} {Q : State → Prop} {pc : Nat} {rest : List Value} {μ : Mem} {H : Heap} {locs : List Loc} {ls : Array Slot} (hx : p.tables.exec = Jvm.exec) (hb : c.code = code) (hml : c.maxLocals = 4) (hown : s.vm.findClass RL = some m.cls) (hts : ∀ w ∈ lw_tbl, w.before args s = true) (hD : ∀ μ, va_D A (wsO ad sh μ)) (hK : va_K D vwCl [] s) (hKa : ∀ k q, sh[k]? = some q → 100 ≤ q.1 → va_K D vwCl [(ad2 ad k, aty q.1)] s) (hal : ad.length = sh.length) (hsk : SKx A s s.heap) (hR : 60 ≤ R.frames ∧ 64 * 60 ≤ R.locals ∧ nc ≤ R.cells ∧ ns ≤ R.slots)
    {y : MethodName} {bytes : ByteArray} {maxL : Nat} {ret : Option FieldType} {d idx ci n nn : Nat} {f : Fn} (hM : MO y bytes maxL ret d f) (hw : CLw idx ci y bytes maxL ret n) (hd : decode code pc = .ok (.invokevirtual idx, 3)) (hdep : d + 1 ≤ 60) (hk2 : rk ret ≠ 2 ∧ rk ret ≠ 3) {as : List Vl} {v : Int} {μ' : Mem} (hn : as.length = n) (hs : sh[0]? = some (ci, nn)) (has : sok sh.length as) (hf : f sh ((2, rf 0) :: as) μ = some (v, μ')) (hw8 : (rest.map fun v => v.category).sum ≤ 8) (hls : ls.size = 4) (hP : va_P D vwCl (wsO ad sh μ) H) (hMk : mok sh μ) (hS : va_S A s.heap H locs)
    (k : ∀ H1 locs1, va_P D vwCl (wsO ad sh μ') H1 → mok sh μ' → rg sh.length (rk ret) v → (∀ q, q < H.size → ¬ Aof ad sh q → H1[q]? = H[q]?) → va_S A s.heap H1 locs1 → W p l e R s m args below meth c H1 locs1 nc ns Q (F0 m (pc + 3) ls (vv ad (rk ret) v :: rest))) :
    W p l e R s m args below meth c H locs nc ns Q (F0 m pc ls ((sv ad as).reverse ++ .ref (ad1 ad 0) :: rest)) := by
  obtain ⟨w1, w2, w3, w4, w5, w6, w7, w8, C, T, N, w9, w10, w11⟩ := hw
  have h0l : 0 < sh.length := (List.getElem?_eq_some_iff.mp hs).1
  have has2 : sok sh.length ((2, rf 0) :: as) := sok_c has (by omega) ⟨by unfold rf; omega, by unfold rf; omega⟩ (fun _ => rf_nn 0)
  have hmet := hM l D ad sh μ ((2, rf 0) :: as) v μ' hf has2
  have ea : sv ad ((2, rf 0) :: as) = .ref (ad1 ad 0) :: sv ad as := by
    show vv ad 2 (rf 0) :: _ = _
    rw [vv_ref (rf_nn 0), rf_toNat]
    rfl
  rw [ea] at hmet
  have hG : GoodIn lw_tbl (.code y bytes maxL ret :: tbl) := by
    intro w hw
    have hwt : w ∈ tbl := by
      rcases List.mem_cons.mp hw with rfl | hw
      · exact w3
      · exact hw
    exact ⟨tbl_in_lw hwt, good_of_word (List.mem_filter.mp hwt).2⟩
  have hA := aof_sub (hD μ)
  have hr : va_Run p l e R s m args below meth c H locs nc ns 0 0 (F0 m pc ls ((sv ad as).reverse ++ .ref (ad1 ad 0) :: rest)) rest (Qx D ad sh (rk ret) (fun r1 μ1 => r1 = v ∧ μ1 = μ') (Value.ref (ad1 ad 0) :: sv ad as).toArray) (Aof ad sh) := by
    refine va_runV (cc := code) (nL := 4) ⟨hx, hb, hml, hown, hts⟩ hmet ⟨callB_of n hts hG rfl rfl rfl (hts _ w2) (hts _ w1) ⟨w4, w5, w6⟩ ⟨?_, ?_⟩, hts _ w8, hts _ w10⟩ ⟨px_blind, va_recv hK hP (ci := ci) (q0 := 0) w9 (by rw [wsO_at hs, cE_obj w11]), fun U hU hW => ⟨rfl, by rw [hU]; exact hP, hMk, va_K.moved hW.alike hK, fun k q h1 h2 => va_K.moved hW.alike (hKa k q h1 h2), fun μ' => aof_D (hD μ'), hal, by rw [hU]; exact (hsk.to hW hS.2.1).narrow hA⟩⟩ rfl ?_ hls rfl (lv_room hw8) hd ⟨hR.2.2.1, hR.2.2.2⟩
    · show d + 1 ≤ R.frames
      omega
    · show 8 + (maxL + 11) + 64 * d ≤ R.locals
      omega
    · unfold sv; rw [List.length_map]; exact hn
  intro T0 hT X
  obtain ⟨v0, st₀, t, T', LL, h0, X', hL, e1, e2, ⟨r, μ1, ⟨rfl, rfl⟩, hv, hPr, hMr, hrr, hz, hk⟩, stp⟩ := hr T0 hT X
  rw [h0] at hz hk
  have hS1 : va_S A s.heap T'.heap (locs ++ LL) :=
    ⟨Nat.le_trans hS.1 (by rw [e1]; exact hz), fun q h1 h2 => by rw [e1, hk q (Nat.lt_of_lt_of_le h1 hS.1) (fun z => h2 (hA q z))]; exact hS.2.1 q h1 h2, fun q hq => by
      rcases List.mem_append.mp hq with h | h
      · exact hS.2.2 q h
      · exact hA _ (hL q h)⟩
  have hk3 : rk ret < 4 := by unfold rk; split <;> decide
  cases hv
  have e3 : (rvv ad (rk ret) r).toList ++ rest = vv ad (rk ret) r :: rest := by
    unfold rvv
    rw [if_neg hk2.2]
    rfl
  rw [e3] at stp
  obtain ⟨t2, a1, b1⟩ := k T'.heap (locs ++ LL) (by rw [e1]; exact hPr) hMr (hrr (by omega)) (fun q h1 h2 => by rw [e1]; exact hk q h1 h2) hS1 T' rfl X'
  exact ⟨t2, stp t2 a1, b1⟩
