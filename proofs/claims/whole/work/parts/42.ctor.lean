/-! constructors' contracts -/
def An (ad : Adr) (sh : Shp) (sz : Nat) : Nat → Prop := fun q => Aof ad sh q ∨ sz ≤ q
def Rn (d : Nat) (L : Shp) : Room := { frames := d, cells := L.length, slots := tot L, locals := 64 * d }
/-- what holds at a constructor's start -/
def PN (D : va_G) (ad : Adr) (sh : Shp) (μ : Mem) (sz : Nat) (U : State) : Prop := U.heap.size = sz ∧ va_P D vwCl (wsO ad sh μ) U.heap ∧ mok sh μ ∧ va_K D vwCl [] U ∧ (∀ k q, sh[k]? = some q → 100 ≤ q.1 → va_K D vwCl [(ad2 ad k, aty q.1)] U) ∧ (∀ μ', va_D (Aof ad sh) (wsO ad sh μ')) ∧ ad.length = sh.length ∧ SKx (An ad sh sz) U U.heap ∧ XK U
def Qn (D : va_G) (ad : Adr) (sh : Shp) (L : Shp) (sz : Nat) (P : Mem → Prop) : Array Value → State → Outcome → State → Prop := fun _ st oc t =>
  ∃ (ad' : Adr) (μ : Mem), P μ ∧ oc = .returned none ∧ ad'.length = L.length ∧ va_P D vwCl (wsO (ad ++ ad') (sh ++ L) μ) t.heap ∧ mok (sh ++ L) μ ∧ (∀ μ', va_D (An ad sh sz) (wsO (ad ++ ad') (sh ++ L) μ')) ∧ (∀ k q, (sh ++ L)[k]? = some q → 100 ≤ q.1 → va_K D vwCl [(ad2 (ad ++ ad') k, aty q.1)] t) ∧ va_F (An ad sh sz) st t
def MN (y : MethodName) (bytes : ByteArray) (maxL d : Nat) (L : Shp) (pre : Shp → List Vl → Mem → Prop) (post : Shp → List Vl → Mem → Mem → Prop) : Prop :=
  ∀ (l : Launch) (D : va_G) (ad : Adr) (sh : Shp) (μ : Mem) (as : List Vl) (sz : Nat), pre sh as μ → sok sh.length as →
    Met l y (.code y bytes maxL none :: tbl) (Rn d L) (va_Pc (sv ad as) (PN D ad sh μ sz)) (Qn D ad sh L sz (post sh as μ)) L.length (tot L) (An ad sh sz)
theorem pn_blind {D : va_G} {ad : Adr} {sh : Shp} {μ : Mem} {sz : Nat} {vs : List Value} : FrameBlind (va_Pc vs (PN D ad sh μ sz)) := by
  intro a U g mk q
  obtain ⟨q0, q1, q2, q3, q4, q5, q6, q7, q8, q9⟩ := q
  exact ⟨q0, q1, q2, q3, va_K.moved (u := U) (U := U.calling g mk a) (Vm.Alike.refl U.vm) q4, fun k x h1 h2 => va_K.moved (u := U) (U := U.calling g mk a) (Vm.Alike.refl U.vm) (q5 k x h1 h2), q6, q7, q8.calling, q9.calling⟩
section CT
variable {M : Md} {p : Program} {l : Launch} {e : Env} {s : State} {m : MethodId} {args : Array Value} {below : List Frame} {meth : Method} {c : Code} {D : va_G} {ad : Adr} {sh : Shp} {A : Nat → Prop} {R : Room} {nc ns : Nat} {Q : State → Prop} {pc : Nat} {env : Ev} {st : List Vl} {μ : Mem}
/-- behind a constructor's call -/
theorem n_back {st0 rest : List Vl} {L : Shp} {P : Mem → Prop} (G : CK M (Gx p l e s m args below meth c D ad sh A R nc ns Q)) (hA : ∀ q, s.heap.size ≤ q → A q) {H : Heap} {locs : List Loc} {ls : Array Slot} (hS : va_S A s.heap H locs) (hE : eok ad sh.length env ls) (hn : env.length = M.2.2.2.1) (hst : sok sh.length rest) {aa : Array Value} (h1 : nc + L.length ≤ R.cells) (h2 : ns + tot L ≤ R.slots)
    (hr : va_Run p l e R s m args below meth c H locs nc ns L.length (tot L) (F0 m pc ls (sv ad st0)) (sv ad rest) (Qn D ad sh L H.size P aa) (An ad sh H.size))
    (k : ∀ (ad' : Adr) (μ' : Mem), P μ' → ad'.length = L.length → CK M (Gx p l e s m args below meth c D (ad ++ ad') (sh ++ L) A R (nc + L.length) (ns + tot L) Q) → WP M (Gx p l e s m args below meth c D (ad ++ ad') (sh ++ L) A R (nc + L.length) (ns + tot L) Q) (pc + 3) env rest μ') : W p l e R s m args below meth c H locs nc ns Q (F0 m pc ls (sv ad st0)) := by
  obtain ⟨hx, hb, hml, hown, hts, hD0, hK0, hKa, hrt, hlk, hal, hsk, hR, hQ⟩ := G
  intro T hT X
  obtain ⟨v0, st₀, t, T', LL, h0, X', hL, e1, e2, ⟨ad', μ', hPm, hv, hal', hPr, hMr, hDr, hKr, hz, hk⟩, stp⟩ := hr T hT X
  rw [h0] at hz hk
  have hsub : ∀ q, An ad sh H.size q → A q := by
    intro q hq
    rcases hq with hq | hq
    · exact aof_sub (hD0 μ') q hq
    · exact hA q (Nat.le_trans hS.1 hq)
  have hS1 : va_S A s.heap T'.heap (locs ++ LL) :=
    ⟨Nat.le_trans hS.1 (by rw [e1]; exact hz), fun q h1 h2 => by rw [e1, hk q (Nat.lt_of_lt_of_le h1 hS.1) (fun z => h2 (hsub q z))]; exact hS.2.1 q h1 h2, fun q hq => by
      rcases List.mem_append.mp hq with h | h
      · exact hS.2.2 q h
      · exact hsub _ (hL q h)⟩
  have hvm : t.vm.Alike s.vm := (by rw [← e2]; exact X'.warmed.alike : s.vm.Alike t.vm).symm
  have hlen : (sh ++ L).length = sh.length + L.length := List.length_append
  have hCK : CK M (Gx p l e s m args below meth c D (ad ++ ad') (sh ++ L) A R (nc + L.length) (ns + tot L) Q) :=
    ⟨hx, hb, hml, hown, hts, fun μ9 => (hDr μ9).weaken (fun _ q _ h => hsub q.1 h), hK0, fun k q a b => va_K.moved hvm (hKr k q a b), hrt, hlk, by rw [List.length_append, List.length_append, hal, hal'], hsk, ⟨hR.1, hR.2.1, h1, h2⟩, fun ⟨_, _, h⟩ => h.elim⟩
  have k1 := k ad' μ' hPm hal' hCK T'.heap (locs ++ LL) ls (by rw [e1]; exact hPr) hMr hS1 (eok_ext hE hal (by omega)) hn (sok_ext hst (by omega))
  cases hv
  have e3 : (none : Option Value).toList ++ sv ad rest = sv (ad ++ ad') rest := by
    rw [sv_ext hst hal]
    rfl
  rw [e3] at stp
  obtain ⟨t2, a1, b1⟩ := k1 T' rfl X'
  exact ⟨t2, stp t2 a1, b1⟩
theorem cbn_of {s : State} {args : Array Value} {own : String} {idx : Nat} {y : MethodName} {bytes : ByteArray} {maxL : Nat} {n d D : Nat} {R : Room} {L : Shp} (hts : ∀ w ∈ tbl, w.before args s = true) (h : CB own idx y bytes maxL none n) (hd : d + 1 ≤ D) (hR : D ≤ R.frames ∧ 64 * D ≤ R.locals) : CallB R s args own idx y bytes maxL none (.code y bytes maxL none :: tbl) (Rn d L) L.length (tot L) n := by
  obtain ⟨h1, h2, h3, h4, h5, h6, h7⟩ := h
  refine callB_of n hts (tb_in ?_) rfl rfl rfl (hts _ h2) (hts _ h1) ⟨h4, h5, h6⟩ ⟨Nat.le_trans hd hR.1, ?_⟩
  · intro w hw
    rcases List.mem_cons.mp hw with rfl | hw
    · exact h3
    · exact hw
  · show 8 + (maxL + 11) + 64 * d ≤ R.locals
    have := hR.2
    omega
/-- a constructor called: package-visible -/
theorem a_callI (G : CK M (Gx p l e s m args below meth c D ad sh A R nc ns Q)) (hA : ∀ q, s.heap.size ≤ q → A q) (hXK : XK s) {y : MethodName} {bytes : ByteArray} {maxL d idx n : Nat} {L : Shp} {pre : Shp → List Vl → Mem → Prop} {post : Shp → List Vl → Mem → Mem → Prop} (hM : MN y bytes maxL d L pre post) (hw : CB M.2.1 idx y bytes maxL none n) (hnm : y.name = "<init>") (hwi : Cond.instanceMethod y ∈ tbl) (hd : decode M.1 pc = .ok (.invokespecial idx, 3)) (hdep : d + 1 ≤ M.2.2.1) {as : List Vl} {a : Int} (hn : as.length = n) (hp : pre sh ((2, a) :: as) μ) (hw8 : wd st ≤ 8) (h1 : nc + L.length ≤ R.cells) (h2 : ns + tot L ≤ R.slots)
    (k : ∀ (ad' : Adr) (μ' : Mem), post sh ((2, a) :: as) μ μ' → ad'.length = L.length → CK M (Gx p l e s m args below meth c D (ad ++ ad') (sh ++ L) A R (nc + L.length) (ns + tot L) Q) → WP M (Gx p l e s m args below meth c D (ad ++ ad') (sh ++ L) A R (nc + L.length) (ns + tot L) Q) (pc + 3) env st μ') : WP M (Gx p l e s m args below meth c D ad sh A R nc ns Q) pc env (as.reverse ++ (2, a) :: st) μ := by
  have G0 := G
  obtain ⟨hx, hb, hml, hown, hts, hD0, hK0, hKa, hrt, hlk, hal, hsk, hR, hQ⟩ := G
  intro H locs ls hP hMk hS hE hn1 hst
  have hst2 := sok_d (sok_l2 hst)
  obtain ⟨ta0, ta1, ta2⟩ := sok_t (sok_l2 hst)
  have has : sok sh.length ((2, a) :: as) := sok_c (fun q hq => sok_l1 hst q (List.mem_reverse.mpr hq)) ta0 ta1 ta2
  have hmet := hM l D ad sh μ ((2, a) :: as) H.size hp has
  have es : sv ad (as.reverse ++ (2, a) :: st) = (sv ad as).reverse ++ .ref (ad1 ad a.toNat) :: sv ad st := by
    unfold sv
    rw [List.map_append, List.map_reverse, List.map_cons]
    show _ ++ vv ad 2 a :: _ = _
    rw [vv_ref (ta2 rfl)]
  have ea : sv ad ((2, a) :: as) = .ref (ad1 ad a.toNat) :: sv ad as := by
    show vv ad 2 a :: _ = _
    rw [vv_ref (ta2 rfl)]
    rfl
  rw [ea] at hmet
  refine n_back G0 hA hS hE hn1 hst2 (aa := (Value.ref (ad1 ad a.toNat) :: sv ad as).toArray) h1 h2 ?_ k
  have hsub : ∀ q, An ad sh H.size q → A q := by
    intro q hq
    rcases hq with hq | hq
    · exact aof_sub (hD0 μ) q hq
    · exact hA q (Nat.le_trans hS.1 hq)
  refine va_runI (cc := M.1) (nL := M.2.2.2.1) ⟨hx, hb, hml, hown, hts⟩ hmet ⟨cbn_of hts hw hdep ⟨hR.1, hR.2.1⟩, hnm, hts _ hwi⟩ ⟨pn_blind, fun U hU hW => ⟨rfl, by rw [hU], by rw [hU]; exact hP, hMk, va_K.moved hW.alike hK0, fun k q h1 h2 => va_K.moved hW.alike (hKa k q h1 h2), fun μ' => aof_D (hD0 μ'), hal, by rw [hU]; exact (hsk.to hW hS.2.1).narrow hsub, hXK.to hW⟩⟩ rfl ?_ ?_ es ?_ hd ⟨h1, h2⟩
  · unfold sv; rw [List.length_map]; exact hn
  · show ls.size = _; rw [hE.1, hn1]
  · exact lv_room (by rw [wd_sv hst2]; exact hw8)
/-- a constructor called: a nest mate's private one -/
theorem a_callN (G : CK M (Gx p l e s m args below meth c D ad sh A R nc ns Q)) (hA : ∀ q, s.heap.size ≤ q → A q) (hXK : XK s) {y : MethodName} {bytes : ByteArray} {maxL d idx n : Nat} {L : Shp} {pre : Shp → List Vl → Mem → Prop} {post : Shp → List Vl → Mem → Mem → Prop} (hM : MN y bytes maxL d L pre post) (hw1 : Cond.initialized y.cls ∈ tbl) (hw2 : Cond.code y bytes maxL none ∈ tbl) (hw3 : y.cls ≠ "java/lang/invoke/MethodHandle" ∧ y.cls ≠ "java/lang/invoke/VarHandle" ∧ (parseMethodDescriptor y.desc).map (fun d => d.parameters.length) = some n) (hmL : maxL ≤ 45) {host : String} (hln : va_Nw (.methodLinkNest M.2.1 idx y host) s) (hnm : y.name = "<init>") (hwi : Cond.instanceMethod y ∈ tbl) (hd : decode M.1 pc = .ok (.invokespecial idx, 3)) (hdep : d + 1 ≤ M.2.2.1) {as : List Vl} {a : Int} (hn : as.length = n) (hp : pre sh ((2, a) :: as) μ) (hw8 : wd st ≤ 8) (h1 : nc + L.length ≤ R.cells) (h2 : ns + tot L ≤ R.slots)
    (k : ∀ (ad' : Adr) (μ' : Mem), post sh ((2, a) :: as) μ μ' → ad'.length = L.length → CK M (Gx p l e s m args below meth c D (ad ++ ad') (sh ++ L) A R (nc + L.length) (ns + tot L) Q) → WP M (Gx p l e s m args below meth c D (ad ++ ad') (sh ++ L) A R (nc + L.length) (ns + tot L) Q) (pc + 3) env st μ') : WP M (Gx p l e s m args below meth c D ad sh A R nc ns Q) pc env (as.reverse ++ (2, a) :: st) μ := by
  have G0 := G
  obtain ⟨hx, hb, hml, hown, hts, hD0, hK0, hKa, hrt, hlk, hal, hsk, hR, hQ⟩ := G
  intro H locs ls hP hMk hS hE hn1 hst
  have hst2 := sok_d (sok_l2 hst)
  obtain ⟨ta0, ta1, ta2⟩ := sok_t (sok_l2 hst)
  have has : sok sh.length ((2, a) :: as) := sok_c (fun q hq => sok_l1 hst q (List.mem_reverse.mpr hq)) ta0 ta1 ta2
  have hmet := hM l D ad sh μ ((2, a) :: as) H.size hp has
  have es : sv ad (as.reverse ++ (2, a) :: st) = (sv ad as).reverse ++ .ref (ad1 ad a.toNat) :: sv ad st := by
    unfold sv
    rw [List.map_append, List.map_reverse, List.map_cons]
    show _ ++ vv ad 2 a :: _ = _
    rw [vv_ref (ta2 rfl)]
  have ea : sv ad ((2, a) :: as) = .ref (ad1 ad a.toNat) :: sv ad as := by
    show vv ad 2 a :: _ = _
    rw [vv_ref (ta2 rfl)]
    rfl
  rw [ea] at hmet
  refine n_back G0 hA hS hE hn1 hst2 (aa := (Value.ref (ad1 ad a.toNat) :: sv ad as).toArray) h1 h2 ?_ k
  have hsub : ∀ q, An ad sh H.size q → A q := by
    intro q hq
    rcases hq with hq | hq
    · exact aof_sub (hD0 μ) q hq
    · exact hA q (Nat.le_trans hS.1 hq)
  refine va_runIN (cc := M.1) (nL := M.2.2.2.1) ⟨hx, hb, hml, hown, hts⟩ hmet ⟨va_cnB n hts (tb_in ?_) rfl rfl rfl hln (hts _ hw1) hw3 ⟨Nat.le_trans hdep hR.1, ?_⟩, hnm, hts _ hwi⟩ ⟨pn_blind, fun U hU hW => ⟨rfl, by rw [hU], by rw [hU]; exact hP, hMk, va_K.moved hW.alike hK0, fun k q h1 h2 => va_K.moved hW.alike (hKa k q h1 h2), fun μ' => aof_D (hD0 μ'), hal, by rw [hU]; exact (hsk.to hW hS.2.1).narrow hsub, hXK.to hW⟩⟩ rfl ?_ ?_ es ?_ hd ⟨h1, h2⟩
  · intro w hw
    rcases List.mem_cons.mp hw with rfl | hw
    · exact hw2
    · exact hw
  · show 8 + (maxL + 11) + 64 * d ≤ R.locals
    have := hR.2.1
    omega
  · unfold sv; rw [List.length_map]; exact hn
  · show ls.size = _; rw [hE.1, hn1]
  · exact lv_room (by rw [wd_sv hst2]; exact hw8)
/-- a constructor's end -/
theorem a_ret {ad0 ad' : Adr} {sh0 L : Shp} {P : Mem → Prop} {sz : Nat} (G : CK M (Gx p l e s m args below meth c D (ad0 ++ ad') (sh0 ++ L) (An ad0 sh0 sz) R L.length (tot L) (MQ below (Qn D ad0 sh0 L sz P) args s L.length (tot L) (An ad0 sh0 sz)))) (hl : ad'.length = L.length) (hr : M.2.2.2.2 = none) (hd : decode M.1 pc = .ok (.return_, 1)) (k : P μ) : WP M (Gx p l e s m args below meth c D (ad0 ++ ad') (sh0 ++ L) (An ad0 sh0 sz) R L.length (tot L) (MQ below (Qn D ad0 sh0 L sz P) args s L.length (tot L) (An ad0 sh0 sz))) pc env [] μ := by
  obtain ⟨hx, hb, hml, hown, hts, hD0, hK0, hKa, hrt, hlk, hal, hsk, hR, hQ⟩ := G
  intro H locs ls hP hM hS hE hn hst
  rw [hr] at hrt
  exact W.vret hx hb hrt (fun t ht hW => ⟨ad', μ, k, rfl, hl, by rw [ht]; exact hP, hM, hD0, fun k q a b => va_K.moved hW.alike (hKa k q a b), hS.F ht⟩) hS.2.2 hd
end CT
/-- a constructor's contract out of its walk -/
theorem MN_of {y : MethodName} {cc : ByteArray} {maxL d : Nat} {L : Shp} {pre : Shp → List Vl → Mem → Prop} {post : Shp → List Vl → Mem → Mem → Prop} (hy : plainName y.cls = true) (hnm : y.name = "<init>")
    (hb : ∀ (p : Program) (l : Launch) (e : Env) (s : State) (m : MethodId) (args : Array Value) (below : List Frame) (meth : Method) (c : Code) (D : va_G) (ad : Adr) (sh : Shp) (μ : Mem) (as : List Vl), pre sh as μ → sok sh.length as → meth.name = "<init>" → XK s → (∀ q, s.heap.size ≤ q → An ad sh s.heap.size q) →
      CK (cc, y.cls, d, maxL, none) (Gx p l e s m args below meth c D ad sh (An ad sh s.heap.size) (Rn d L) 0 0 (MQ below (Qn D ad sh L s.heap.size (post sh as μ)) args s L.length (tot L) (An ad sh s.heap.size))) →
      (enA as).length ≤ maxL ∧ WP (cc, y.cls, d, maxL, none) (Gx p l e s m args below meth c D ad sh (An ad sh s.heap.size) (Rn d L) 0 0 (MQ below (Qn D ad sh L s.heap.size (post sh as μ)) args s L.length (tot L) (An ad sh s.heap.size))) 0 (en maxL as) [] μ) : MN y cc maxL d L pre post := by
  intro l D ad sh μ as sz hp hs
  refine Met.ofW (cc := cc) (maxL := maxL) (ret := none) hy rfl ?_
  intro p e s m args below meth c s₁ B hml hv
  obtain ⟨rfl, rfl, hP, hM, hK, hKa, hD, hal, hsk, hxk⟩ := hv
  have hts := atoms_spec (ws := .code y cc maxL none :: tbl) B.pre
  have hin : meth.name = "<init>" := (name_of_methodNamed B.named B.method).1.trans hnm
  have hD2 : ∀ μ', va_D (An ad sh s.heap.size) (wsO ad sh μ') := fun μ' => (hD μ').weaken (fun _ _ _ h => Or.inl h)
  have hlen := enA_len (ad := ad) hs
  obtain ⟨hle, hw⟩ := hb p l e s m (sv ad as).toArray below meth c D ad sh μ as hp hs hin hxk (fun q h => Or.inr h) ⟨B.exec, B.bytes, hml, findClass_of_methodNamed B.named, fun w hw => hts w (List.mem_cons_of_mem _ hw), hD2, hK, hKa, B.returns, B.notSynchronized, hal, hsk, ⟨Nat.le_refl d, Nat.le_refl _, Nat.zero_le _, Nat.zero_le _⟩, fun ⟨_, _, h⟩ => h.elim⟩
  rw [lg_entry_eq]
  have hl := lv_entry (sv ad as) (n := maxL) (by rw [hlen]; exact hle)
  generalize (lg_sl (sv ad as) ++ List.replicate (maxL - (lg_sl (sv ad as)).length) Slot.unset).toArray = ls at hl ⊢
  have henl : (en maxL as).length = maxL := by
    unfold en
    rw [List.length_append, List.length_replicate]
    omega
  refine hw s.heap [] ls hP hM va_S.rf ⟨?_, hl.2.1, ?_⟩ henl (fun _ h => by cases h)
  · rw [henl]
    exact hl.1
  · intro i t v hi ht
    unfold en at hi
    by_cases hil : i < (enA as).length
    · rw [List.getElem?_append_left hil] at hi
      obtain ⟨h1, h2⟩ := enA_at (ad := ad) 0 hs hi ht
      rw [Nat.zero_add] at h1
      obtain ⟨h3, h4, h5⟩ := hs _ h2
      exact ⟨h4, h5, hl.2.2 _ h1⟩
    · rw [List.getElem?_append_right (by omega), List.getElem?_replicate] at hi
      split at hi
      · cases hi
        omega
      · cases hi
