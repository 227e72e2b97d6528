/-! the law's start: the two objects are made -/
/-- an object's constructor called from the law, on a picture of that object alone -/
theorem w_init {p : Program} {l : Launch} {e : Env} {s : State} {m : MethodId} {args : Array Value} {below : List Frame} {meth : Method} {c : Code} {D : va_G} {A : Nat → Prop} {R : Room} {nc ns : Nat} {Q : State → Prop} {pc : Nat} {rest : List Value} {μ : Mem} {H : Heap} {locs : List Loc} {ls : Array Slot} (hx : p.tables.exec = Jvm.exec) (hb : c.code = code) (hml : c.maxLocals = 4) (hown : s.vm.findClass RL = some m.cls) (hts : ∀ w ∈ lw_tbl, w.before args s = true) (hA : ∀ q, s.heap.size ≤ q → A q) (hK : va_K D vwCl [] s) (hsk : SKx A s s.heap) (hxk : XK s) (hR : 60 ≤ R.frames ∧ 64 * 60 ≤ R.locals)
    {y : MethodName} {bytes : ByteArray} {maxL d idx ci q : Nat} {L : Shp} {pre : Shp → List Vl → Mem → Prop} {post : Shp → List Vl → Mem → Mem → Prop} (hM : MN y bytes maxL d L pre post) (hci : ci < 100) (w1 : Cond.methodLink RL idx y ∈ lw_tbl) (w2 : Cond.initialized y.cls ∈ lw_tbl) (w3 : Cond.code y bytes maxL none ∈ tbl) (w4 : y.cls ≠ "java/lang/invoke/MethodHandle" ∧ y.cls ≠ "java/lang/invoke/VarHandle" ∧ (parseMethodDescriptor y.desc).map (fun d => d.parameters.length) = some 0) (w5 : maxL ≤ 45) (w6 : Cond.instanceMethod y ∈ lw_tbl) (hnm : y.name = "<init>") (hd : decode code pc = .ok (.invokespecial idx, 3)) (hdep : d + 1 ≤ 60) (hp : pre [(ci, 0)] [(2, rf 0)] μ) (hw8 : (rest.map fun v => v.category).sum ≤ 8) (hls : ls.size = 4) (hP : va_P D vwCl (wsO [(q, 0)] [(ci, 0)] μ) H) (hMk : mok [(ci, 0)] μ) (hq : A q) (hS : va_S A s.heap H locs) (h1 : nc + L.length ≤ R.cells) (h2 : ns + tot L ≤ R.slots)
    (k : ∀ (ad' : Adr) (μ' : Mem) H1 locs1, post [(ci, 0)] [(2, rf 0)] μ μ' → ad'.length = L.length → va_P D vwCl (wsO ((q, 0) :: ad') ((ci, 0) :: L) μ') H1 → mok ((ci, 0) :: L) μ' → (∀ μ9, va_D (An [(q, 0)] [(ci, 0)] H.size) (wsO ((q, 0) :: ad') ((ci, 0) :: L) μ9)) → (∀ k x, ((ci, 0) :: L)[k]? = some x → 100 ≤ x.1 → va_K D vwCl [(ad2 ((q, 0) :: ad') k, aty x.1)] s) → (∀ q0, q0 < H.size → q0 ≠ q → H1[q0]? = H[q0]?) → H.size ≤ H1.size → va_S A s.heap H1 locs1 → W p l e R s m args below meth c H1 locs1 (nc + L.length) (ns + tot L) Q (F0 m (pc + 3) ls rest)) :
    W p l e R s m args below meth c H locs nc ns Q (F0 m pc ls (.ref q :: rest)) := by
  have has2 : sok 1 ([(2, rf 0)] : List Vl) := sok_c (fun _ h => by cases h) (by omega) ⟨by unfold rf; omega, by unfold rf; omega⟩ (fun _ => rf_nn 0)
  have hmet := hM l D [(q, 0)] [(ci, 0)] μ [(2, rf 0)] H.size hp has2
  have ea : sv [(q, 0)] [(2, rf 0)] = [.ref q] := by
    show [vv _ 2 (rf 0)] = _
    rw [vv_ref (rf_nn 0), rf_toNat]
    rfl
  rw [ea] at hmet
  have hG : GoodIn lw_tbl (.code y bytes maxL none :: tbl) := by
    intro w hw
    have hwt : w ∈ tbl := by
      rcases List.mem_cons.mp hw with rfl | hw
      · exact w3
      · exact hw
    exact ⟨tbl_in_lw hwt, good_of_word (List.mem_filter.mp hwt).2⟩
  have hAo : ∀ x, Aof [(q, 0)] [(ci, 0)] x → x = q := by
    rintro x ⟨k, hk, rfl⟩
    have : k = 0 := by simp at hk; omega
    subst this
    rfl
  have hsub : ∀ x, An [(q, 0)] [(ci, 0)] H.size x → A x := by
    intro x hx
    rcases hx with hx | hx
    · rw [hAo x hx]; exact hq
    · exact hA x (Nat.le_trans hS.1 hx)
  have hDo : ∀ μ9, va_D (Aof [(q, 0)] [(ci, 0)]) (wsO [(q, 0)] [(ci, 0)] μ9) := by
    intro μ9
    refine ⟨fun i j x y hi hj _ => ?_, fun k x hk => ?_⟩
    · have h3 : i < (wsO [(q, 0)] [(ci, 0)] μ9).length := (List.getElem?_eq_some_iff.mp hi).1
      have h4 : j < (wsO [(q, 0)] [(ci, 0)] μ9).length := (List.getElem?_eq_some_iff.mp hj).1
      simp [wsO] at h3 h4
      omega
    · have h3 : k < (wsO [(q, 0)] [(ci, 0)] μ9).length := (List.getElem?_eq_some_iff.mp hk).1
      simp [wsO] at h3
      subst h3
      cases hk
      exact ⟨0, by simp, rfl⟩
  have hr : va_Run p l e R s m args below meth c H locs nc ns L.length (tot L) (F0 m pc ls (.ref q :: rest)) rest (Qn D [(q, 0)] [(ci, 0)] L H.size (post [(ci, 0)] [(2, rf 0)] μ) ([Value.ref q]).toArray) (An [(q, 0)] [(ci, 0)] H.size) := by
    refine va_runI (As := []) (cc := code) (nL := 4) ⟨hx, hb, hml, hown, hts⟩ hmet ⟨callB_of 0 hts hG rfl rfl rfl (hts _ w2) (hts _ w1) w4 ⟨?_, ?_⟩, hnm, hts _ w6⟩ ⟨pn_blind, fun U hU hW => ⟨rfl, by rw [hU], by rw [hU]; exact hP, hMk, va_K.moved hW.alike hK, fun k x hk h9 => ?_, hDo, rfl, by rw [hU]; exact (hsk.to hW hS.2.1).narrow hsub, hxk.to hW⟩⟩ rfl rfl hls rfl (lv_room hw8) hd ⟨h1, h2⟩
    · show d + 1 ≤ R.frames
      omega
    · show 8 + (maxL + 11) + 64 * d ≤ R.locals
      omega
    · have h3 : k < ([(ci, 0)] : Shp).length := (List.getElem?_eq_some_iff.mp hk).1
      simp at h3
      subst h3
      cases hk
      simp only at h9
      omega
  intro T0 hT X
  obtain ⟨v0, st₀, t, T', LL, h0, X', hL, e1, e2, ⟨ad', μ', hPm, hv, hal', hPr, hMr, hDr, hKr, hz, hk⟩, stp⟩ := hr T0 hT X
  rw [h0] at hz hk
  have hS1 : va_S A s.heap T'.heap (locs ++ LL) :=
    ⟨Nat.le_trans hS.1 (by rw [e1]; exact hz), fun x h1 h2 => by rw [e1, hk x (Nat.lt_of_lt_of_le h1 hS.1) (fun z => h2 (hsub x z))]; exact hS.2.1 x h1 h2, fun x hx => by
      rcases List.mem_append.mp hx with h | h
      · exact hS.2.2 x h
      · exact hsub _ (hL x h)⟩
  have hvm : t.vm.Alike s.vm := (by rw [← e2]; exact X'.warmed.alike : s.vm.Alike t.vm).symm
  cases hv
  obtain ⟨t2, a1, b1⟩ := k ad' μ' T'.heap (locs ++ LL) hPm hal' (by rw [e1]; exact hPr) hMr hDr (fun k x a b => va_K.moved hvm (hKr k x a b)) (fun x h1 h2 => by
    rw [e1]
    refine hk x h1 (fun z => ?_)
    rcases z with z | z
    · exact h2 (hAo x z)
    · omega) (by rw [e1]; exact hz) hS1 T' rfl X'
  exact ⟨t2, stp t2 a1, b1⟩
