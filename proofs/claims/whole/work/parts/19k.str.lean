/-! the String constants: length, charAt, indexOf, by the JDK's own methods -/
def strChE (k : Nat) (a : Ex) : Ex := fun sh env μ => (a sh env μ).bind fun x => if 0 ≤ x.1 ∧ x.1 < (skL.getD k 0 : Nat) then some (((skB.getD k []).getD x.1.toNat 0).toInt, x.2) else none
def ixOf (c : Int) : List Int32 → Int → Int
  | [], _ => -1
  | b :: r, i => if b.toInt = c then i else ixOf c r (i + 1)
def strIxE (k : Nat) (a : Ex) : Ex := fun sh env μ => (a sh env μ).bind fun x => if 0 ≤ x.1 ∧ x.1 < 128 then some (ixOf x.1 (skB.getD k []) 0, x.2) else none
theorem ws_length : CB RX10 55 yJ0_length_8abf5 cJ0_length_8abf5 1 (some .int) 0 := ⟨tb_of (List.mem_of_getElem? (i := 562) (by decide +kernel)) (by decide +kernel), tb_of (List.mem_of_getElem? (i := 114) (by decide +kernel)) (by decide +kernel), tb_of (List.mem_of_getElem? (i := 565) (by decide +kernel)) (by decide +kernel), by decide, by decide, by decide +kernel, by decide⟩
theorem ws_length2 : CB RJ0 505 yJ0_length_8abf5 cJ0_length_8abf5 1 (some .int) 0 := ⟨tb_of (List.mem_of_getElem? (i := 629) (by decide +kernel)) (by decide +kernel), tb_of (List.mem_of_getElem? (i := 114) (by decide +kernel)) (by decide +kernel), tb_of (List.mem_of_getElem? (i := 565) (by decide +kernel)) (by decide +kernel), by decide, by decide, by decide +kernel, by decide⟩
theorem ws_coder : CB RJ0 335 yJ0_coder_7d493 cJ0_coder_7d493 1 (some .byte) 0 := ⟨tb_of (List.mem_of_getElem? (i := 566) (by decide +kernel)) (by decide +kernel), tb_of (List.mem_of_getElem? (i := 114) (by decide +kernel)) (by decide +kernel), tb_of (List.mem_of_getElem? (i := 569) (by decide +kernel)) (by decide +kernel), by decide, by decide, by decide +kernel, by decide⟩
theorem ws_charAt : CB RX10 60 yJ0_charAt_5068e cJ0_charAt_5068e 2 (some .char) 1 := ⟨tb_of (List.mem_of_getElem? (i := 572) (by decide +kernel)) (by decide +kernel), tb_of (List.mem_of_getElem? (i := 114) (by decide +kernel)) (by decide +kernel), tb_of (List.mem_of_getElem? (i := 575) (by decide +kernel)) (by decide +kernel), by decide, by decide, by decide +kernel, by decide⟩
theorem ws_isLatin1 : CB RJ0 492 yJ0_isLatin1_aae02 cJ0_isLatin1_aae02 1 (some .boolean) 0 := ⟨tb_of (List.mem_of_getElem? (i := 576) (by decide +kernel)) (by decide +kernel), tb_of (List.mem_of_getElem? (i := 114) (by decide +kernel)) (by decide +kernel), tb_of (List.mem_of_getElem? (i := 579) (by decide +kernel)) (by decide +kernel), by decide, by decide, by decide +kernel, by decide⟩
theorem ws_lcharAt : CB RJ0 495 yJ1_charAt_3b067 cJ1_charAt_3b067 2 (some .char) 2 := ⟨tb_of (List.mem_of_getElem? (i := 580) (by decide +kernel)) (by decide +kernel), tb_of (List.mem_of_getElem? (i := 115) (by decide +kernel)) (by decide +kernel), tb_of (List.mem_of_getElem? (i := 582) (by decide +kernel)) (by decide +kernel), by decide, by decide, by decide +kernel, by decide⟩
theorem ws_check : CB RJ1 9 yJ0_checkIndex_df160 cJ0_checkIndex_df160 2 none 2 := ⟨tb_of (List.mem_of_getElem? (i := 583) (by decide +kernel)) (by decide +kernel), tb_of (List.mem_of_getElem? (i := 114) (by decide +kernel)) (by decide +kernel), tb_of (List.mem_of_getElem? (i := 585) (by decide +kernel)) (by decide +kernel), by decide, by decide, by decide +kernel, by decide⟩
theorem ws_pcheck : CB RJ0 1059 yJ3_checkIndex_8e157 cJ3_checkIndex_8e157 3 (some .int) 3 := ⟨tb_of (List.mem_of_getElem? (i := 588) (by decide +kernel)) (by decide +kernel), tb_of (List.mem_of_getElem? (i := 116) (by decide +kernel)) (by decide +kernel), tb_of (List.mem_of_getElem? (i := 590) (by decide +kernel)) (by decide +kernel), by decide, by decide, by decide +kernel, by decide⟩
theorem ws_indexOf : CB RX10 69 yJ0_indexOf_0f7a4 cJ0_indexOf_0f7a4 2 (some .int) 1 := ⟨tb_of (List.mem_of_getElem? (i := 621) (by decide +kernel)) (by decide +kernel), tb_of (List.mem_of_getElem? (i := 114) (by decide +kernel)) (by decide +kernel), tb_of (List.mem_of_getElem? (i := 624) (by decide +kernel)) (by decide +kernel), by decide, by decide, by decide +kernel, by decide⟩
theorem ws_indexOf2 : CB RJ0 633 yJ0_indexOf_7cf53 cJ0_indexOf_7cf53 3 (some .int) 2 := ⟨tb_of (List.mem_of_getElem? (i := 625) (by decide +kernel)) (by decide +kernel), tb_of (List.mem_of_getElem? (i := 114) (by decide +kernel)) (by decide +kernel), tb_of (List.mem_of_getElem? (i := 628) (by decide +kernel)) (by decide +kernel), by decide, by decide, by decide +kernel, by decide⟩
theorem ws_lindexOf : CB RJ0 637 yJ1_indexOf_4cfef cJ1_indexOf_4cfef 4 (some .int) 4 := ⟨tb_of (List.mem_of_getElem? (i := 630) (by decide +kernel)) (by decide +kernel), tb_of (List.mem_of_getElem? (i := 115) (by decide +kernel)) (by decide +kernel), tb_of (List.mem_of_getElem? (i := 632) (by decide +kernel)) (by decide +kernel), by decide, by decide, by decide +kernel, by decide⟩
theorem ws_canEncode : CB RJ1 88 yJ1_canEncode_9a6ad cJ1_canEncode_9a6ad 1 (some .boolean) 1 := ⟨tb_of (List.mem_of_getElem? (i := 633) (by decide +kernel)) (by decide +kernel), tb_of (List.mem_of_getElem? (i := 115) (by decide +kernel)) (by decide +kernel), tb_of (List.mem_of_getElem? (i := 635) (by decide +kernel)) (by decide +kernel), by decide, by decide, by decide +kernel, by decide⟩
theorem ws_indexOfChar : CB RJ1 95 yJ1_indexOfChar_4cfef cJ1_indexOfChar_4cfef 6 (some .int) 4 := ⟨tb_of (List.mem_of_getElem? (i := 642) (by decide +kernel)) (by decide +kernel), tb_of (List.mem_of_getElem? (i := 115) (by decide +kernel)) (by decide +kernel), tb_of (List.mem_of_getElem? (i := 644) (by decide +kernel)) (by decide +kernel), by decide, by decide, by decide +kernel, by decide⟩
theorem wv_length : Cond.instanceMethod yJ0_length_8abf5 ∈ tbl ∧ Cond.selects "java/lang/String" yJ0_length_8abf5 yJ0_length_8abf5 ∈ tbl := ⟨tb_of (List.mem_of_getElem? (i := 563) (by decide +kernel)) (by decide +kernel), tb_of (List.mem_of_getElem? (i := 564) (by decide +kernel)) (by decide +kernel)⟩
theorem wv_coder : Cond.instanceMethod yJ0_coder_7d493 ∈ tbl ∧ Cond.selects "java/lang/String" yJ0_coder_7d493 yJ0_coder_7d493 ∈ tbl := ⟨tb_of (List.mem_of_getElem? (i := 567) (by decide +kernel)) (by decide +kernel), tb_of (List.mem_of_getElem? (i := 568) (by decide +kernel)) (by decide +kernel)⟩
theorem wv_charAt : Cond.instanceMethod yJ0_charAt_5068e ∈ tbl ∧ Cond.selects "java/lang/String" yJ0_charAt_5068e yJ0_charAt_5068e ∈ tbl := ⟨tb_of (List.mem_of_getElem? (i := 573) (by decide +kernel)) (by decide +kernel), tb_of (List.mem_of_getElem? (i := 574) (by decide +kernel)) (by decide +kernel)⟩
theorem wv_isLatin1 : Cond.instanceMethod yJ0_isLatin1_aae02 ∈ tbl ∧ Cond.selects "java/lang/String" yJ0_isLatin1_aae02 yJ0_isLatin1_aae02 ∈ tbl := ⟨tb_of (List.mem_of_getElem? (i := 577) (by decide +kernel)) (by decide +kernel), tb_of (List.mem_of_getElem? (i := 578) (by decide +kernel)) (by decide +kernel)⟩
theorem wv_indexOf : Cond.instanceMethod yJ0_indexOf_0f7a4 ∈ tbl ∧ Cond.selects "java/lang/String" yJ0_indexOf_0f7a4 yJ0_indexOf_0f7a4 ∈ tbl := ⟨tb_of (List.mem_of_getElem? (i := 622) (by decide +kernel)) (by decide +kernel), tb_of (List.mem_of_getElem? (i := 623) (by decide +kernel)) (by decide +kernel)⟩
theorem wv_indexOf2 : Cond.instanceMethod yJ0_indexOf_7cf53 ∈ tbl ∧ Cond.selects "java/lang/String" yJ0_indexOf_7cf53 yJ0_indexOf_7cf53 ∈ tbl := ⟨tb_of (List.mem_of_getElem? (i := 626) (by decide +kernel)) (by decide +kernel), tb_of (List.mem_of_getElem? (i := 627) (by decide +kernel)) (by decide +kernel)⟩
theorem wt_lcharAt : Cond.static yJ1_charAt_3b067 ∈ tbl := tb_of (List.mem_of_getElem? (i := 581) (by decide +kernel)) (by decide +kernel)
theorem wt_check : Cond.static yJ0_checkIndex_df160 ∈ tbl := tb_of (List.mem_of_getElem? (i := 584) (by decide +kernel)) (by decide +kernel)
theorem wt_pcheck : Cond.static yJ3_checkIndex_8e157 ∈ tbl := tb_of (List.mem_of_getElem? (i := 589) (by decide +kernel)) (by decide +kernel)
theorem wt_lindexOf : Cond.static yJ1_indexOf_4cfef ∈ tbl := tb_of (List.mem_of_getElem? (i := 631) (by decide +kernel)) (by decide +kernel)
theorem wt_canEncode : Cond.static yJ1_canEncode_9a6ad ∈ tbl := tb_of (List.mem_of_getElem? (i := 634) (by decide +kernel)) (by decide +kernel)
theorem wt_indexOfChar : Cond.static yJ1_indexOfChar_4cfef ∈ tbl := tb_of (List.mem_of_getElem? (i := 643) (by decide +kernel)) (by decide +kernel)
theorem wf_38 : Cond.fieldLink RJ0 38 "java/lang/String" "COMPACT_STRINGS" "Z" ∈ tbl := tb_of (List.mem_of_getElem? (i := 570) (by decide +kernel)) (by decide +kernel)
theorem wf_9 : Cond.fieldLink RJ0 9 "java/lang/String" "value" "[B" ∈ tbl := tb_of (List.mem_of_getElem? (i := 1543) (by decide +kernel)) (by decide +kernel)
theorem wf_15 : Cond.fieldLink RJ0 15 "java/lang/String" "coder" "B" ∈ tbl := tb_of (List.mem_of_getElem? (i := 1544) (by decide +kernel)) (by decide +kernel)
theorem wf_1053 : Cond.fieldLink RJ0 1053 "jdk/internal/util/Preconditions" "SIOOBE_FORMATTER" "Ljava/util/function/BiFunction;" ∈ tbl := tb_of (List.mem_of_getElem? (i := 586) (by decide +kernel)) (by decide +kernel)
theorem wm_max : Cond.methodLink RJ1 92 Lib.Math.max.name ∈ tbl ∧ Cond.static Lib.Math.max.name ∈ tbl ∧ Cond.initialized "java/lang/Math" ∈ tbl ∧ Cond.code Lib.Math.max.name Lib.Math.max.code 2 (some .int) ∈ tbl := ⟨tb_of (List.mem_of_getElem? (i := 636) (by decide +kernel)) (by decide +kernel), tb_of (List.mem_of_getElem? (i := 637) (by decide +kernel)) (by decide +kernel), tb_of (List.mem_of_getElem? (i := 118) (by decide +kernel)) (by decide +kernel), tb_of (List.mem_of_getElem? (i := 638) (by decide +kernel)) (by decide +kernel)⟩
theorem wm_min : Cond.methodLink RJ1 38 Lib.Math.min.name ∈ tbl ∧ Cond.static Lib.Math.min.name ∈ tbl ∧ Cond.initialized "java/lang/Math" ∈ tbl ∧ Cond.code Lib.Math.min.name Lib.Math.min.code 2 (some .int) ∈ tbl := ⟨tb_of (List.mem_of_getElem? (i := 639) (by decide +kernel)) (by decide +kernel), tb_of (List.mem_of_getElem? (i := 640) (by decide +kernel)) (by decide +kernel), tb_of (List.mem_of_getElem? (i := 118) (by decide +kernel)) (by decide +kernel), tb_of (List.mem_of_getElem? (i := 641) (by decide +kernel)) (by decide +kernel)⟩
def SKs (adK adV : Nat → Nat) (A : Nat → Prop) (U : State) : Prop := vk_S 2 skL skB adK adV A U U.heap ∧ va_Z "java/lang/String" "COMPACT_STRINGS" "Z" (.int 1) A U U.heap ∧ va_Zq "jdk/internal/util/Preconditions" "SIOOBE_FORMATTER" "Ljava/util/function/BiFunction;" A U U.heap
theorem SKs.at {adK adV : Nat → Nat} {A : Nat → Prop} {s U : State} {H : Heap} {locs : List Loc} (h : SKs adK adV A s) (hS : va_S A s.heap H locs) (hU : U.heap = H) (hW : s.WarmedH U.vm) : SKs adK adV A U := by
  obtain ⟨h1, h2, h3⟩ := h
  refine ⟨?_, ?_, ?_⟩
  · rw [hU]; exact (h1.moved hW.alike).kept hS.2.1
  · rw [hU]; exact (h2.moved hW.alike).kept hS.2.1
  · rw [hU]; exact (h3.moved hW.alike).kept hS.2.1
theorem sks_blind {adK adV : Nat → Nat} {A : Nat → Prop} {vs : List Value} : FrameBlind (va_Pc vs (SKs adK adV A)) := by
  intro a U g mk q
  obtain ⟨q0, q1, q2, q3⟩ := q
  exact ⟨q0, q1.moved (u := U) (U := U.calling g mk a) (Vm.Alike.refl U.vm), va_Z.moved (u := U) (U := U.calling g mk a) (Vm.Alike.refl U.vm) q2, va_Zq.moved (u := U) (U := U.calling g mk a) (Vm.Alike.refl U.vm) q3⟩
abbrev QSi (v : Int32) : Array Value → State → Outcome → State → Prop := va_Qi (S := Unit) (fun r _ => r = v) (fun _ _ => True) (fun _ => False)
abbrev QSv : Array Value → State → Outcome → State → Prop := va_Qv (S := Unit) (fun _ => True) (fun _ _ => True) (fun _ => False)
theorem vs_w {A : Nat → Prop} {H0 H : Heap} {locs : List Loc} (h : va_S (fun _ => False) H0 H locs) : va_S A H0 H locs := ⟨h.1, fun q h1 _ => h.2.1 q h1 (fun z => z), fun l hl => (h.2.2 l hl).elim⟩
section SX
variable {p : Program} {l : Launch} {e : Env} {R : Room} {s : State} {m : MethodId} {args : Array Value} {below : List Frame} {meth : Method} {c : Code} {H : Heap} {locs : List Loc} {cells slots : Nat} {Q : State → Prop}
variable {cc : ByteArray} {nL pc : Nat} {ls : Array Slot} {rest : List Value} {own : String} {A A0 : Nat → Prop} {adK adV : Nat → Nat} {y : MethodName} {bytes : ByteArray} {maxL : Nat} {ret : Option FieldType} {d D idx n b : Nat} {v : Int32} {As : List Value}
theorem s_callV (hx : p.tables.exec = Jvm.exec) (hb : c.code = cc) (hml : c.maxLocals = nL) (hown : s.vm.findClass own = some m.cls) (hts : ∀ w ∈ tbl, w.before args s = true) (hs : SKs adK adV A s) (hSA : va_S A s.heap H locs) (hS : va_S A0 s.heap H locs) (hM : Met l y (.code y bytes maxL ret :: tbl) (Rm d) (va_Pc (.ref b :: As) (SKs adK adV A)) (QSi v) 0 0 (fun _ => False)) (hw : CB own idx y bytes maxL ret n) (hi : Cond.instanceMethod y ∈ tbl ∧ Cond.selects "java/lang/String" y y ∈ tbl) (hrec : ∃ cell : Cell, H[b]? = some cell ∧ cell.vm.isStatics = false ∧ s.vm.findClass "java/lang/String" = some cell.cls) (hn : As.length = n) (hsz : ls.size = nL) (hW : (rest.map fun v => v.category).sum ≤ 8) (hd : decode cc pc = .ok (.invokevirtual idx, 3)) (hdep : d + 1 ≤ D) (hR : D ≤ R.frames ∧ 64 * D ≤ R.locals) (hc : cells ≤ R.cells ∧ slots ≤ R.slots)
    (kk : ∀ H1 locs1, va_S A0 s.heap H1 locs1 → (∀ q : Nat, q < H.size → H1[q]? = H[q]?) → W p l e R s m args below meth c H1 locs1 cells slots Q (F0 m (pc + 3) ls (.int v :: rest))) : W p l e R s m args below meth c H locs cells slots Q (F0 m pc ls (As.reverse ++ .ref b :: rest)) := by
  refine va_calli (va_runV (cc := cc) (nL := nL) ⟨hx, hb, hml, hown, hts⟩ hM ⟨cb_of hts hw hdep hR, hts _ hi.1, hts _ hi.2⟩ ⟨sks_blind, hrec, fun U hU hW => ⟨rfl, hs.at hSA hU hW⟩⟩ rfl hn hsz rfl (lv_room hW) hd hc) hS (fun _ _ z => z.elim) (fun _ z => z.elim) (fun r u t H1 locs1 _ _ hr _ _ hk hS1 => ?_)
  have hr : r = v := hr
  subst hr
  exact kk H1 locs1 hS1 (fun q hq => hk q hq (fun z => z))
theorem s_callS (hx : p.tables.exec = Jvm.exec) (hb : c.code = cc) (hml : c.maxLocals = nL) (hown : s.vm.findClass own = some m.cls) (hts : ∀ w ∈ tbl, w.before args s = true) (hs : SKs adK adV A s) (hSA : va_S A s.heap H locs) (hS : va_S A0 s.heap H locs) (hM : Met l y (.code y bytes maxL ret :: tbl) (Rm d) (va_Pc As (SKs adK adV A)) (QSi v) 0 0 (fun _ => False)) (hw : CB own idx y bytes maxL ret n) (hi : Cond.static y ∈ tbl) (hn : As.length = n) (hsz : ls.size = nL) (hW : (rest.map fun v => v.category).sum ≤ 8) (hd : decode cc pc = .ok (.invokestatic idx, 3)) (hdep : d + 1 ≤ D) (hR : D ≤ R.frames ∧ 64 * D ≤ R.locals) (hc : cells ≤ R.cells ∧ slots ≤ R.slots)
    (kk : ∀ H1 locs1, va_S A0 s.heap H1 locs1 → (∀ q : Nat, q < H.size → H1[q]? = H[q]?) → W p l e R s m args below meth c H1 locs1 cells slots Q (F0 m (pc + 3) ls (.int v :: rest))) : W p l e R s m args below meth c H locs cells slots Q (F0 m pc ls (As.reverse ++ rest)) := by
  refine va_calli (va_runS (cc := cc) (nL := nL) ⟨hx, hb, hml, hown, hts⟩ hM ⟨cb_of hts hw hdep hR, hts _ hi⟩ ⟨sks_blind, fun U hU hW => ⟨rfl, hs.at hSA hU hW⟩⟩ rfl hn hsz rfl (lv_room hW) hd hc) hS (fun _ _ z => z.elim) (fun _ z => z.elim) (fun r u t H1 locs1 _ _ hr _ _ hk hS1 => ?_)
  have hr : r = v := hr
  subst hr
  exact kk H1 locs1 hS1 (fun q hq => hk q hq (fun z => z))
theorem s_callT (hx : p.tables.exec = Jvm.exec) (hb : c.code = cc) (hml : c.maxLocals = nL) (hown : s.vm.findClass own = some m.cls) (hts : ∀ w ∈ tbl, w.before args s = true) (hs : SKs adK adV A s) (hSA : va_S A s.heap H locs) (hS : va_S A0 s.heap H locs) (hM : Met l y (.code y bytes maxL ret :: tbl) (Rm d) (va_Pc As (SKs adK adV A)) QSv 0 0 (fun _ => False)) (hw : CB own idx y bytes maxL ret n) (hi : Cond.static y ∈ tbl) (hn : As.length = n) (hsz : ls.size = nL) (hW : (rest.map fun v => v.category).sum ≤ 8) (hd : decode cc pc = .ok (.invokestatic idx, 3)) (hdep : d + 1 ≤ D) (hR : D ≤ R.frames ∧ 64 * D ≤ R.locals) (hc : cells ≤ R.cells ∧ slots ≤ R.slots)
    (kk : ∀ H1 locs1, va_S A0 s.heap H1 locs1 → (∀ q : Nat, q < H.size → H1[q]? = H[q]?) → W p l e R s m args below meth c H1 locs1 cells slots Q (F0 m (pc + 3) ls rest)) : W p l e R s m args below meth c H locs cells slots Q (F0 m pc ls (As.reverse ++ rest)) := by
  refine va_callv (va_runS (cc := cc) (nL := nL) ⟨hx, hb, hml, hown, hts⟩ hM ⟨cb_of hts hw hdep hR, hts _ hi⟩ ⟨sks_blind, fun U hU hW => ⟨rfl, hs.at hSA hU hW⟩⟩ rfl hn hsz rfl (lv_room hW) hd hc) hS (fun _ _ z => z.elim) (fun _ z => z.elim) (fun u t H1 locs1 _ _ _ _ _ hk hS1 => ?_)
  exact kk H1 locs1 hS1 (fun q hq => hk q hq (fun z => z))
end SX
theorem qs_end {v : Int32} {args : Array Value} {s t : State} {H : Heap} {locs : List Loc} (hS : va_S (fun _ => False) s.heap H locs) (ht : t.heap = H) : QSi v args s (.returned (some (.int v))) t := ⟨⟨v, (), rfl, rfl, trivial⟩, hS.F ht⟩
theorem ms_coder {adK adV : Nat → Nat} {A : Nat → Prop} {l : Launch} {i : Nat} (hi : i < 2) : Met l yJ0_coder_7d493 (.code yJ0_coder_7d493 cJ0_coder_7d493 1 (some .byte) :: tbl) (Rm 1) (va_Pc [.ref (adK i)] (SKs adK adV A)) (QSi (0)) 0 0 (fun _ => False) := by
  refine va_MetF (cc := cJ0_coder_7d493) (maxL := 1) (ret := (some .byte)) (by decide +kernel) rfl ?_
  intro p e s m args below meth c s₁ B hml hv
  obtain ⟨rfl, hs⟩ := hv
  have hs0 := hs
  obtain ⟨hs1, hs2, hs3⟩ := hs0
  have hts0 := atoms_spec (ws := .code yJ0_coder_7d493 cJ0_coder_7d493 1 (some .byte) :: tbl) B.pre
  have hts : ∀ w ∈ tbl, w.before _ s = true := fun w hw => hts0 w (List.mem_cons_of_mem _ hw)
  have hx := B.exec
  have hb := B.bytes
  have hown := findClass_of_methodNamed B.named
  have hr := B.returns
  have hlk := B.notSynchronized
  have hS : va_S (fun _ => False) s.heap s.heap [] := va_S.rf
  have hl := lv_entry ([.ref (adK i)] : List Value) (n := 1) (by simp [lg_sl, Value.category])
  rw [lg_entry_eq]
  generalize (lg_sl ([.ref (adK i)] : List Value) ++ List.replicate (1 - (lg_sl ([.ref (adK i)] : List Value)).length) Slot.unset).toArray = ls at hl ⊢
  have hl : lv_has ls 1 [(0, .ref (adK i))] := hl
  refine va_gets hx hb hs2 (vs_w hS) hown (hts _ wf_38) (fun _ h => h) dJ0_coder_7d493_0 ?_
  refine lv_if_eq hx hb dJ0_coder_7d493_3 (tgt := 13) rfl (fun z => absurd z (by decide)) (fun _ => ?_)
  refine lv_aload_n hx hb dJ0_coder_7d493_6 rfl (lv_at hl 0 rfl) ?_
  refine vk_getf hx hb (hs1.1 i hi).2.1 (vs_w hS) hown (hts _ wf_15) (fun _ h => h) dJ0_coder_7d493_7 ?_
  refine lv_goto hx hb dJ0_coder_7d493_10 (tgt := 14) rfl ?_
  exact W.zret hx hb hr (by decide) (fun t ht _ => qs_end hS ht) (fun q hq => hS.2.2 q hq) dJ0_coder_7d493_14
theorem ms_isLatin1 {adK adV : Nat → Nat} {A : Nat → Prop} {l : Launch} {i : Nat} (hi : i < 2) : Met l yJ0_isLatin1_aae02 (.code yJ0_isLatin1_aae02 cJ0_isLatin1_aae02 1 (some .boolean) :: tbl) (Rm 1) (va_Pc [.ref (adK i)] (SKs adK adV A)) (QSi (1)) 0 0 (fun _ => False) := by
  refine va_MetF (cc := cJ0_isLatin1_aae02) (maxL := 1) (ret := (some .boolean)) (by decide +kernel) rfl ?_
  intro p e s m args below meth c s₁ B hml hv
  obtain ⟨rfl, hs⟩ := hv
  have hs0 := hs
  obtain ⟨hs1, hs2, hs3⟩ := hs0
  have hts0 := atoms_spec (ws := .code yJ0_isLatin1_aae02 cJ0_isLatin1_aae02 1 (some .boolean) :: tbl) B.pre
  have hts : ∀ w ∈ tbl, w.before _ s = true := fun w hw => hts0 w (List.mem_cons_of_mem _ hw)
  have hx := B.exec
  have hb := B.bytes
  have hown := findClass_of_methodNamed B.named
  have hr := B.returns
  have hlk := B.notSynchronized
  have hS : va_S (fun _ => False) s.heap s.heap [] := va_S.rf
  have hl := lv_entry ([.ref (adK i)] : List Value) (n := 1) (by simp [lg_sl, Value.category])
  rw [lg_entry_eq]
  generalize (lg_sl ([.ref (adK i)] : List Value) ++ List.replicate (1 - (lg_sl ([.ref (adK i)] : List Value)).length) Slot.unset).toArray = ls at hl ⊢
  have hl : lv_has ls 1 [(0, .ref (adK i))] := hl
  refine va_gets hx hb hs2 (vs_w hS) hown (hts _ wf_38) (fun _ h => h) dJ0_isLatin1_aae02_0 ?_
  refine lv_if_eq hx hb dJ0_isLatin1_aae02_3 (tgt := 17) rfl (fun z => absurd z (by decide)) (fun _ => ?_)
  refine lv_aload_n hx hb dJ0_isLatin1_aae02_6 rfl (lv_at hl 0 rfl) ?_
  refine vk_getf hx hb (hs1.1 i hi).2.1 (vs_w hS) hown (hts _ wf_15) (fun _ h => h) dJ0_isLatin1_aae02_7 ?_
  refine lv_if_ne hx hb dJ0_isLatin1_aae02_10 (tgt := 17) rfl (fun z => absurd rfl z) (fun _ => ?_)
  refine lv_iconst hx hb dJ0_isLatin1_aae02_13 (v := 1) (by decide) ?_
  refine lv_goto hx hb dJ0_isLatin1_aae02_14 (tgt := 18) rfl ?_
  exact W.zret hx hb hr (by decide) (fun t ht _ => qs_end hS ht) (fun q hq => hS.2.2 q hq) dJ0_isLatin1_aae02_18
theorem ms_length {adK adV : Nat → Nat} {A : Nat → Prop} {l : Launch} {i : Nat} (hi : i < 2) : Met l yJ0_length_8abf5 (.code yJ0_length_8abf5 cJ0_length_8abf5 1 (some .int) :: tbl) (Rm 2) (va_Pc [.ref (adK i)] (SKs adK adV A)) (QSi (Int32.ofNat (skL.getD i 0))) 0 0 (fun _ => False) := by
  refine va_MetF (cc := cJ0_length_8abf5) (maxL := 1) (ret := (some .int)) (by decide +kernel) rfl ?_
  intro p e s m args below meth c s₁ B hml hv
  obtain ⟨rfl, hs⟩ := hv
  have hs0 := hs
  obtain ⟨hs1, hs2, hs3⟩ := hs0
  have hts0 := atoms_spec (ws := .code yJ0_length_8abf5 cJ0_length_8abf5 1 (some .int) :: tbl) B.pre
  have hts : ∀ w ∈ tbl, w.before _ s = true := fun w hw => hts0 w (List.mem_cons_of_mem _ hw)
  have hx := B.exec
  have hb := B.bytes
  have hown := findClass_of_methodNamed B.named
  have hr := B.returns
  have hlk := B.notSynchronized
  have hS : va_S (fun _ => False) s.heap s.heap [] := va_S.rf
  have hl := lv_entry ([.ref (adK i)] : List Value) (n := 1) (by simp [lg_sl, Value.category])
  rw [lg_entry_eq]
  generalize (lg_sl ([.ref (adK i)] : List Value) ++ List.replicate (1 - (lg_sl ([.ref (adK i)] : List Value)).length) Slot.unset).toArray = ls at hl ⊢
  have hl : lv_has ls 1 [(0, .ref (adK i))] := hl
  have e0 : Int32.ofNat (skL.getD i 0) >>> ((0 : Int32) &&& 31) = Int32.ofNat (skL.getD i 0) := by
    rcases (by omega : i = 0 ∨ i = 1) with h | h <;> subst h <;> decide
  refine lv_aload_n hx hb dJ0_length_8abf5_0 rfl (lv_at hl 0 rfl) ?_
  refine vk_getf hx hb (hs1.1 i hi).2.2.1 (vs_w hS) hown (hts _ wf_9) (fun _ h => h) dJ0_length_8abf5_1 ?_
  refine va_tlen hx hb (hs1.1 i hi).2.2.2 (vs_w hS) (v := Int32.ofNat (skL.getD i 0)) rfl dJ0_length_8abf5_4 ?_
  refine lv_aload_n hx hb dJ0_length_8abf5_5 rfl (lv_at hl 0 rfl) ?_
  refine s_callV (As := []) (D := 2) hx hb hml hown hts hs (vs_w hS) hS (ms_coder hi) ws_coder wv_coder (vk_recv hs1 hi (vs_w hS)) rfl hl.1 (by simp [Value.category]) dJ0_length_8abf5_6 (by decide) ⟨Nat.le_refl _, Nat.le_refl _⟩ ⟨Nat.zero_le _, Nat.zero_le _⟩ (fun H1 locs1 hS1 _ => ?_)
  refine lv_ishr hx hb dJ0_length_8abf5_9 ?_
  rw [e0]
  exact W.iret hx hb hr (fun t ht _ => qs_end hS1 ht) (fun q hq => hS1.2.2 q hq) dJ0_length_8abf5_10
theorem ms_pcheck {adK adV : Nat → Nat} {A : Nat → Prop} {l : Launch} {j N : Nat} {f : Value} (h1 : j < N) (h2 : N < 1000) (hf : f.category = 1) : Met l yJ3_checkIndex_8e157 (.code yJ3_checkIndex_8e157 cJ3_checkIndex_8e157 3 (some .int) :: tbl) (Rm 1) (va_Pc [.int (nI j), .int (nI N), f] (SKs adK adV A)) (QSi (nI j)) 0 0 (fun _ => False) := by
  refine va_MetF (cc := cJ3_checkIndex_8e157) (maxL := 3) (ret := (some .int)) (by decide +kernel) rfl ?_
  intro p e s m args below meth c s₁ B hml hv
  obtain ⟨rfl, hs⟩ := hv
  have hs0 := hs
  obtain ⟨hs1, hs2, hs3⟩ := hs0
  have hts0 := atoms_spec (ws := .code yJ3_checkIndex_8e157 cJ3_checkIndex_8e157 3 (some .int) :: tbl) B.pre
  have hts : ∀ w ∈ tbl, w.before _ s = true := fun w hw => hts0 w (List.mem_cons_of_mem _ hw)
  have hx := B.exec
  have hb := B.bytes
  have hown := findClass_of_methodNamed B.named
  have hr := B.returns
  have hlk := B.notSynchronized
  have hS : va_S (fun _ => False) s.heap s.heap [] := va_S.rf
  have hl := lv_entry ([.int (nI j), .int (nI N), f] : List Value) (n := 3) (by simp [lg_sl, Value.category]; cases f <;> simp_all [Value.category])
  rw [lg_entry_eq]
  generalize (lg_sl ([.int (nI j), .int (nI N), f] : List Value) ++ List.replicate (3 - (lg_sl ([.int (nI j), .int (nI N), f] : List Value)).length) Slot.unset).toArray = ls at hl ⊢
  have hl : lv_has ls 3 (lv_args 0 [.int (nI j), .int (nI N), f]) := hl
  have l0 : ls[0]? = some (.val (.int (nI j))) := lv_at hl 0 rfl
  have l1 : ls[1]? = some (.val (.int (nI N))) := lv_at hl 1 rfl
  refine lv_iload_n hx hb dJ3_checkIndex_8e157_0 rfl l0 ?_
  refine lv_if_lt hx hb dJ3_checkIndex_8e157_1 (tgt := 9) rfl (fun z => absurd z (nI_pos (by omega))) (fun _ => ?_)
  refine lv_iload_n hx hb dJ3_checkIndex_8e157_4 rfl l0 ?_
  refine lv_iload_n hx hb dJ3_checkIndex_8e157_5 rfl l1 ?_
  refine lv_icmp_lt hx hb dJ3_checkIndex_8e157_6 (tgt := 16) rfl (fun _ => ?_) (fun z => absurd (nI_lt h1 (by omega)) z)
  refine lv_iload_n hx hb dJ3_checkIndex_8e157_16 rfl l0 ?_
  exact W.iret hx hb hr (fun t ht _ => qs_end hS ht) (fun q hq => hS.2.2 q hq) dJ3_checkIndex_8e157_17
theorem ms_check {adK adV : Nat → Nat} {A : Nat → Prop} {l : Launch} {j N : Nat} (h1 : j < N) (h2 : N < 1000) : Met l yJ0_checkIndex_df160 (.code yJ0_checkIndex_df160 cJ0_checkIndex_df160 2 none :: tbl) (Rm 2) (va_Pc [.int (nI j), .int (nI N)] (SKs adK adV A)) QSv 0 0 (fun _ => False) := by
  refine va_MetF (cc := cJ0_checkIndex_df160) (maxL := 2) (ret := none) (by decide +kernel) rfl ?_
  intro p e s m args below meth c s₁ B hml hv
  obtain ⟨rfl, hs⟩ := hv
  have hs0 := hs
  obtain ⟨hs1, hs2, hs3⟩ := hs0
  have hts0 := atoms_spec (ws := .code yJ0_checkIndex_df160 cJ0_checkIndex_df160 2 none :: tbl) B.pre
  have hts : ∀ w ∈ tbl, w.before _ s = true := fun w hw => hts0 w (List.mem_cons_of_mem _ hw)
  have hx := B.exec
  have hb := B.bytes
  have hown := findClass_of_methodNamed B.named
  have hr := B.returns
  have hlk := B.notSynchronized
  have hS : va_S (fun _ => False) s.heap s.heap [] := va_S.rf
  have hl := lv_entry ([.int (nI j), .int (nI N)] : List Value) (n := 2) (by simp [lg_sl, Value.category])
  rw [lg_entry_eq]
  generalize (lg_sl ([.int (nI j), .int (nI N)] : List Value) ++ List.replicate (2 - (lg_sl ([.int (nI j), .int (nI N)] : List Value)).length) Slot.unset).toArray = ls at hl ⊢
  have hl : lv_has ls 2 [(0, .int (nI j)), (1, .int (nI N))] := hl
  refine lv_iload_n hx hb dJ0_checkIndex_df160_0 rfl (lv_at hl 0 rfl) ?_
  refine lv_iload_n hx hb dJ0_checkIndex_df160_1 rfl (lv_at hl 1 rfl) ?_
  rcases hs3 with hz | ⟨t0, hz⟩
  · refine va_gets hx hb hz (vs_w hS) hown (hts _ wf_1053) (fun _ h => h) dJ0_checkIndex_df160_2 ?_
    refine s_callS (As := [.int (nI j), .int (nI N), .null]) (D := 2) (rest := []) hx hb hml hown hts hs (vs_w hS) hS (ms_pcheck h1 h2 rfl) ws_pcheck wt_pcheck rfl hl.1 (by simp) dJ0_checkIndex_df160_5 (by decide) ⟨Nat.le_refl _, Nat.le_refl _⟩ ⟨Nat.zero_le _, Nat.zero_le _⟩ (fun H1 locs1 hS1 _ => ?_)
    refine lv_pop hx hb dJ0_checkIndex_df160_8 rfl ?_
    exact W.vret hx hb hr (fun t ht _ => ⟨⟨(), rfl, trivial, trivial⟩, hS1.F ht⟩) (fun q hq => hS1.2.2 q hq) dJ0_checkIndex_df160_9
  · refine va_gets hx hb hz (vs_w hS) hown (hts _ wf_1053) (fun _ h => h) dJ0_checkIndex_df160_2 ?_
    refine s_callS (As := [.int (nI j), .int (nI N), .ref t0]) (D := 2) (rest := []) hx hb hml hown hts hs (vs_w hS) hS (ms_pcheck h1 h2 rfl) ws_pcheck wt_pcheck rfl hl.1 (by simp) dJ0_checkIndex_df160_5 (by decide) ⟨Nat.le_refl _, Nat.le_refl _⟩ ⟨Nat.zero_le _, Nat.zero_le _⟩ (fun H1 locs1 hS1 _ => ?_)
    refine lv_pop hx hb dJ0_checkIndex_df160_8 rfl ?_
    exact W.vret hx hb hr (fun t ht _ => ⟨⟨(), rfl, trivial, trivial⟩, hS1.F ht⟩) (fun q hq => hS1.2.2 q hq) dJ0_checkIndex_df160_9
def byW (i j : Nat) : Int32 := (skB.getD i []).getD j 0
set_option maxRecDepth 100000 in theorem by_ok : ∀ j, j < 192 → ((byW 0 j &&& 255).toUInt32 % 65536).toInt32 = byW 0 j ∧ narrow .char (.int (byW 0 j)) = .int (byW 0 j) := by decide +kernel
theorem ms_lcharAt {adK adV : Nat → Nat} {A : Nat → Prop} {l : Launch} {j : Nat} (hj : j < 192) : Met l yJ1_charAt_3b067 (.code yJ1_charAt_3b067 cJ1_charAt_3b067 2 (some .char) :: tbl) (Rm 3) (va_Pc [.ref (adV 0), .int (nI j)] (SKs adK adV A)) (QSi (byW 0 j)) 0 0 (fun _ => False) := by
  refine va_MetF (cc := cJ1_charAt_3b067) (maxL := 2) (ret := (some .char)) (by decide +kernel) rfl ?_
  intro p e s m args below meth c s₁ B hml hv
  obtain ⟨rfl, hs⟩ := hv
  have hs0 := hs
  obtain ⟨hs1, hs2, hs3⟩ := hs0
  have hts0 := atoms_spec (ws := .code yJ1_charAt_3b067 cJ1_charAt_3b067 2 (some .char) :: tbl) B.pre
  have hts : ∀ w ∈ tbl, w.before _ s = true := fun w hw => hts0 w (List.mem_cons_of_mem _ hw)
  have hx := B.exec
  have hb := B.bytes
  have hown := findClass_of_methodNamed B.named
  have hr := B.returns
  have hlk := B.notSynchronized
  have hS : va_S (fun _ => False) s.heap s.heap [] := va_S.rf
  have hl := lv_entry ([.ref (adV 0), .int (nI j)] : List Value) (n := 2) (by simp [lg_sl, Value.category])
  rw [lg_entry_eq]
  generalize (lg_sl ([.ref (adV 0), .int (nI j)] : List Value) ++ List.replicate (2 - (lg_sl ([.ref (adV 0), .int (nI j)] : List Value)).length) Slot.unset).toArray = ls at hl ⊢
  have hl : lv_has ls 2 [(0, .ref (adV 0)), (1, .int (nI j))] := hl
  obtain ⟨b1, b2⟩ := by_ok j hj
  refine lv_iload_n hx hb dJ1_charAt_3b067_0 rfl (lv_at hl 1 rfl) ?_
  refine lv_aload_n hx hb dJ1_charAt_3b067_1 rfl (lv_at hl 0 rfl) ?_
  refine va_tlen hx hb (hs1.1 0 (by decide)).2.2.2 (vs_w hS) (v := nI 192) rfl dJ1_charAt_3b067_2 ?_
  refine s_callT (As := [.int (nI j), .int (nI 192)]) (D := 3) (rest := []) hx hb hml hown hts hs (vs_w hS) hS (ms_check hj (by decide)) ws_check wt_check rfl hl.1 (by simp) dJ1_charAt_3b067_3 (by decide) ⟨Nat.le_refl _, Nat.le_refl _⟩ ⟨Nat.zero_le _, Nat.zero_le _⟩ (fun H1 locs1 hS1 _ => ?_)
  refine lv_aload_n hx hb dJ1_charAt_3b067_6 rfl (lv_at hl 0 rfl) ?_
  refine lv_iload_n hx hb dJ1_charAt_3b067_7 rfl (lv_at hl 1 rfl) ?_
  refine va_tb hx hb (hs1.1 0 (by decide)).2.2.2 (vs_w hS1) (vp_in_nI hj (by decide)) (v := .int (byW 0 j)) (by rw [nI_clamp (by omega)]; rfl) dJ1_charAt_3b067_8 ?_
  refine lv_sipush hx hb dJ1_charAt_3b067_9 (v := 255) (by decide) ?_
  refine lv_iand hx hb dJ1_charAt_3b067_12 ?_
  refine lv_i2c hx hb dJ1_charAt_3b067_13 b1 ?_
  exact W.zret hx hb hr b2 (fun t ht _ => qs_end hS1 ht) (fun q hq => hS1.2.2 q hq) dJ1_charAt_3b067_14
theorem ms_charAt {adK adV : Nat → Nat} {A : Nat → Prop} {l : Launch} {j : Nat} (hj : j < 192) : Met l yJ0_charAt_5068e (.code yJ0_charAt_5068e cJ0_charAt_5068e 2 (some .char) :: tbl) (Rm 4) (va_Pc [.ref (adK 0), .int (nI j)] (SKs adK adV A)) (QSi (byW 0 j)) 0 0 (fun _ => False) := by
  refine va_MetF (cc := cJ0_charAt_5068e) (maxL := 2) (ret := (some .char)) (by decide +kernel) rfl ?_
  intro p e s m args below meth c s₁ B hml hv
  obtain ⟨rfl, hs⟩ := hv
  have hs0 := hs
  obtain ⟨hs1, hs2, hs3⟩ := hs0
  have hts0 := atoms_spec (ws := .code yJ0_charAt_5068e cJ0_charAt_5068e 2 (some .char) :: tbl) B.pre
  have hts : ∀ w ∈ tbl, w.before _ s = true := fun w hw => hts0 w (List.mem_cons_of_mem _ hw)
  have hx := B.exec
  have hb := B.bytes
  have hown := findClass_of_methodNamed B.named
  have hr := B.returns
  have hlk := B.notSynchronized
  have hS : va_S (fun _ => False) s.heap s.heap [] := va_S.rf
  have hl := lv_entry ([.ref (adK 0), .int (nI j)] : List Value) (n := 2) (by simp [lg_sl, Value.category])
  rw [lg_entry_eq]
  generalize (lg_sl ([.ref (adK 0), .int (nI j)] : List Value) ++ List.replicate (2 - (lg_sl ([.ref (adK 0), .int (nI j)] : List Value)).length) Slot.unset).toArray = ls at hl ⊢
  have hl : lv_has ls 2 [(0, .ref (adK 0)), (1, .int (nI j))] := hl
  obtain ⟨b1, b2⟩ := by_ok j hj
  refine lv_aload_n hx hb dJ0_charAt_5068e_0 rfl (lv_at hl 0 rfl) ?_
  refine s_callV (As := []) (D := 4) (rest := []) hx hb hml hown hts hs (vs_w hS) hS (ms_isLatin1 (i := 0) (by decide)) ws_isLatin1 wv_isLatin1 (vk_recv hs1 (by decide) (vs_w hS)) rfl hl.1 (by simp) dJ0_charAt_5068e_1 (by decide) ⟨Nat.le_refl _, Nat.le_refl _⟩ ⟨Nat.zero_le _, Nat.zero_le _⟩ (fun H1 locs1 hS1 _ => ?_)
  refine lv_if_eq hx hb dJ0_charAt_5068e_4 (tgt := 16) rfl (fun z => absurd z (by decide)) (fun _ => ?_)
  refine lv_aload_n hx hb dJ0_charAt_5068e_7 rfl (lv_at hl 0 rfl) ?_
  refine vk_getf hx hb (hs1.1 0 (by decide)).2.2.1 (vs_w hS1) hown (hts _ wf_9) (fun _ h => h) dJ0_charAt_5068e_8 ?_
  refine lv_iload_n hx hb dJ0_charAt_5068e_11 rfl (lv_at hl 1 rfl) ?_
  refine s_callS (As := [.ref (adV 0), .int (nI j)]) (D := 4) (rest := []) hx hb hml hown hts hs (vs_w hS1) hS1 (ms_lcharAt hj) ws_lcharAt wt_lcharAt rfl hl.1 (by simp) dJ0_charAt_5068e_12 (by decide) ⟨Nat.le_refl _, Nat.le_refl _⟩ ⟨Nat.zero_le _, Nat.zero_le _⟩ (fun H2 locs2 hS2 _ => ?_)
  exact W.zret hx hb hr b2 (fun t ht _ => qs_end hS2 ht) (fun q hq => hS2.2.2 q hq) dJ0_charAt_5068e_15
theorem ms_canEncode {adK adV : Nat → Nat} {A : Nat → Prop} {l : Launch} {x : Nat} (h1 : x < 128) : Met l yJ1_canEncode_9a6ad (.code yJ1_canEncode_9a6ad cJ1_canEncode_9a6ad 1 (some .boolean) :: tbl) (Rm 1) (va_Pc [.int (nI x)] (SKs adK adV A)) (QSi (1)) 0 0 (fun _ => False) := by
  refine va_MetF (cc := cJ1_canEncode_9a6ad) (maxL := 1) (ret := (some .boolean)) (by decide +kernel) rfl ?_
  intro p e s m args below meth c s₁ B hml hv
  obtain ⟨rfl, hs⟩ := hv
  have hs0 := hs
  obtain ⟨hs1, hs2, hs3⟩ := hs0
  have hts0 := atoms_spec (ws := .code yJ1_canEncode_9a6ad cJ1_canEncode_9a6ad 1 (some .boolean) :: tbl) B.pre
  have hts : ∀ w ∈ tbl, w.before _ s = true := fun w hw => hts0 w (List.mem_cons_of_mem _ hw)
  have hx := B.exec
  have hb := B.bytes
  have hown := findClass_of_methodNamed B.named
  have hr := B.returns
  have hlk := B.notSynchronized
  have hS : va_S (fun _ => False) s.heap s.heap [] := va_S.rf
  have hl := lv_entry ([.int (nI x)] : List Value) (n := 1) (by simp [lg_sl, Value.category])
  rw [lg_entry_eq]
  generalize (lg_sl ([.int (nI x)] : List Value) ++ List.replicate (1 - (lg_sl ([.int (nI x)] : List Value)).length) Slot.unset).toArray = ls at hl ⊢
  have hl : lv_has ls 1 [(0, .int (nI x))] := hl
  refine lv_iload_n hx hb dJ1_canEncode_9a6ad_0 rfl (lv_at hl 0 rfl) ?_
  refine lv_if_lt hx hb dJ1_canEncode_9a6ad_1 (tgt := 15) rfl (fun z => absurd z (nI_pos (by omega))) (fun _ => ?_)
  refine lv_iload_n hx hb dJ1_canEncode_9a6ad_4 rfl (lv_at hl 0 rfl) ?_
  refine lv_sipush hx hb dJ1_canEncode_9a6ad_5 (v := nI 255) (by decide) ?_
  refine lv_icmp_gt hx hb dJ1_canEncode_9a6ad_8 (tgt := 15) rfl (fun z => absurd z (nI_nlt (a := 255) (b := x) (by omega) (by omega))) (fun _ => ?_)
  refine lv_iconst hx hb dJ1_canEncode_9a6ad_11 (v := 1) (by decide) ?_
  refine lv_goto hx hb dJ1_canEncode_9a6ad_12 (tgt := 16) rfl ?_
  exact W.zret hx hb hr (by decide) (fun t ht _ => qs_end hS ht) (fun q hq => hS.2.2 q hq) dJ1_canEncode_9a6ad_16
theorem by_i8 : ∀ x, x < 128 → (nI x).toInt8.toInt32 = nI x := by decide +kernel
theorem nI_to {x : Nat} (h : x < 128) : (nI x).toInt = (x : Int) := by
  show (Int32.ofNat x).toInt = _
  exact Int32.toInt_ofNat_of_lt (by omega)
theorem ix_step {x : Nat} {j : Nat} (hx : x < 128) (hj : j < 8) : ixOf (x : Int) ((skB.getD 1 []).drop j) (j : Int) = if byW 1 j = nI x then (j : Int) else ixOf (x : Int) ((skB.getD 1 []).drop (j + 1)) (j + 1 : Nat) := by
  have hl : j < (skB.getD 1 []).length := hj
  rw [List.drop_eq_getElem_cons hl]
  have e : byW 1 j = (skB.getD 1 [])[j] := by
    unfold byW
    rw [List.getD_eq_getElem?_getD, List.getElem?_eq_getElem hl]
    rfl
  rw [← e]
  show (if (byW 1 j).toInt = (x : Int) then (j : Int) else ixOf (x : Int) ((skB.getD 1 []).drop (j + 1)) ((j : Int) + 1)) = _
  have q : (byW 1 j).toInt = (x : Int) ↔ byW 1 j = nI x := by
    constructor
    · intro h
      have h2 : (byW 1 j).toInt = (nI x).toInt := by rw [h, nI_to hx]
      exact Int32.toInt_inj.mp h2
    · intro h
      rw [h, nI_to hx]
  by_cases c : byW 1 j = nI x
  · rw [if_pos c, if_pos (q.mpr c)]
  · rw [if_neg c, if_neg (fun z => c (q.mp z))]
    rfl
theorem ms_indexOfChar {adK adV : Nat → Nat} {A : Nat → Prop} {l : Launch} {x : Nat} (hx1 : x < 128) : Met l yJ1_indexOfChar_4cfef (.code yJ1_indexOfChar_4cfef cJ1_indexOfChar_4cfef 6 (some .int) :: tbl) (Rm 1) (va_Pc [.ref (adV 1), .int (nI x), .int (nI 0), .int (nI 8)] (SKs adK adV A)) (QSi (Int32.ofInt (ixOf (x : Int) (skB.getD 1 []) 0))) 0 0 (fun _ => False) := by
  refine va_MetF (cc := cJ1_indexOfChar_4cfef) (maxL := 6) (ret := (some .int)) (by decide +kernel) rfl ?_
  intro p e s m args below meth c s₁ B hml hv
  obtain ⟨rfl, hs⟩ := hv
  have hs0 := hs
  obtain ⟨hs1, hs2, hs3⟩ := hs0
  have hts0 := atoms_spec (ws := .code yJ1_indexOfChar_4cfef cJ1_indexOfChar_4cfef 6 (some .int) :: tbl) B.pre
  have hts : ∀ w ∈ tbl, w.before _ s = true := fun w hw => hts0 w (List.mem_cons_of_mem _ hw)
  have hx := B.exec
  have hb := B.bytes
  have hown := findClass_of_methodNamed B.named
  have hr := B.returns
  have hlk := B.notSynchronized
  have hS : va_S (fun _ => False) s.heap s.heap [] := va_S.rf
  have hl := lv_entry ([.ref (adV 1), .int (nI x), .int (nI 0), .int (nI 8)] : List Value) (n := 6) (by simp [lg_sl, Value.category])
  rw [lg_entry_eq]
  generalize (lg_sl ([.ref (adV 1), .int (nI x), .int (nI 0), .int (nI 8)] : List Value) ++ List.replicate (6 - (lg_sl ([.ref (adV 1), .int (nI x), .int (nI 0), .int (nI 8)] : List Value)).length) Slot.unset).toArray = ls at hl ⊢
  have hl : lv_has ls 6 [(0, .ref (adV 1)), (1, .int (nI x)), (2, .int (nI 0)), (3, .int (nI 8))] := hl
  refine lv_iload_n hx hb dJ1_indexOfChar_4cfef_0 rfl (lv_at hl 1 rfl) ?_
  refine lv_i2b hx hb dJ1_indexOfChar_4cfef_1 (by_i8 x hx1) ?_
  refine lv_istore hx hb dJ1_indexOfChar_4cfef_2 hl (by decide) rfl (fun ls1 hl1 => ?_)
  refine lv_iload_n hx hb dJ1_indexOfChar_4cfef_4 rfl (lv_at hl1 3 rfl) ?_
  refine lv_istore hx hb dJ1_indexOfChar_4cfef_5 hl1 (by decide) rfl (fun ls2 hl2 => ?_)
  have loop : ∀ k j : Nat, j + k = 8 → ∀ ls3 : Array Slot, lv_has ls3 6 [(5, .int (nI j)), (4, .int (nI x)), (0, .ref (adV 1)), (3, .int (nI 8))] → ixOf (x : Int) ((skB.getD 1 []).drop j) (j : Int) = ixOf (x : Int) (skB.getD 1 []) 0 → W p l e (headSpec (.code yJ1_indexOfChar_4cfef cJ1_indexOfChar_4cfef 6 (some .int) :: tbl) (Rm 1)).room s m ([.ref (adV 1), .int (nI x), .int (nI 0), .int (nI 8)] : List Value).toArray below meth c s.heap [] 0 0 (MQ below (QSi (Int32.ofInt (ixOf (x : Int) (skB.getD 1 []) 0))) ([.ref (adV 1), .int (nI x), .int (nI 0), .int (nI 8)] : List Value).toArray s 0 0 (fun _ => False)) (F0 m 7 ls3 []) := by
    intro k
    induction k with
    | zero =>
      intro j hj ls3 hl3 hq
      have e8 : j = 8 := by omega
      subst e8
      refine lv_iload hx hb dJ1_indexOfChar_4cfef_7 (lv_at hl3 0 rfl) ?_
      refine lv_iload_n hx hb dJ1_indexOfChar_4cfef_9 rfl (lv_at hl3 3 rfl) ?_
      refine lv_icmp_ge hx hb dJ1_indexOfChar_4cfef_10 (tgt := 31) rfl (fun _ => ?_) (fun z => absurd (Int32.le_refl _) z)
      rw [← hq]
      refine lv_iconst hx hb dJ1_indexOfChar_4cfef_31 (v := Int32.ofInt (-1)) rfl ?_
      exact W.iret hx hb hr (fun t ht _ => qs_end hS ht) (fun q hq => hS.2.2 q hq) dJ1_indexOfChar_4cfef_32
    | succ k ih =>
      intro j hj ls3 hl3 hq
      have st := ix_step (x := x) (j := j) hx1 (by omega)
      refine lv_iload hx hb dJ1_indexOfChar_4cfef_7 (lv_at hl3 0 rfl) ?_
      refine lv_iload_n hx hb dJ1_indexOfChar_4cfef_9 rfl (lv_at hl3 3 rfl) ?_
      refine lv_icmp_ge hx hb dJ1_indexOfChar_4cfef_10 (tgt := 31) rfl (fun z => absurd z (nI_ge (by omega) (by omega))) (fun _ => ?_)
      refine lv_aload_n hx hb dJ1_indexOfChar_4cfef_13 rfl (lv_at hl3 2 rfl) ?_
      refine lv_iload hx hb dJ1_indexOfChar_4cfef_14 (lv_at hl3 0 rfl) ?_
      refine va_tb hx hb (hs1.1 1 (by decide)).2.2.2 (vs_w hS) (vp_in_nI (show j < 8 by omega) (by decide)) (v := .int (byW 1 j)) (by rw [nI_clamp (by omega)]; rfl) dJ1_indexOfChar_4cfef_16 ?_
      refine lv_iload hx hb dJ1_indexOfChar_4cfef_17 (lv_at hl3 1 rfl) ?_
      refine lv_icmp_ne hx hb dJ1_indexOfChar_4cfef_19 (tgt := 25) rfl (fun ne => ?_) (fun eq => ?_)
      · rw [if_neg ne] at st
        refine lv_iinc hx hb dJ1_indexOfChar_4cfef_25 hl3 (k := 0) rfl (v := nI (j + 1)) (by rw [nI_succ]; rfl) (by decide) rfl (fun ls4 hl4 => ?_)
        refine lv_goto hx hb dJ1_indexOfChar_4cfef_28 (tgt := 7) rfl ?_
        exact ih (j + 1) (by omega) ls4 hl4 (st.symm.trans hq)
      · rw [if_pos eq] at st
        refine lv_iload hx hb dJ1_indexOfChar_4cfef_22 (lv_at hl3 0 rfl) ?_
        have ev : nI j = Int32.ofInt (ixOf (x : Int) (skB.getD 1 []) 0) := by
          rw [← hq, st]
          rfl
        rw [ev]
        exact W.iret hx hb hr (fun t ht _ => qs_end hS ht) (fun q hq => hS.2.2 q hq) dJ1_indexOfChar_4cfef_24
  exact loop 8 0 rfl ls2 (lv_sub hl2 [0, 1, 2, 5] rfl) rfl
theorem ms_lindexOf {adK adV : Nat → Nat} {A : Nat → Prop} {l : Launch} {x : Nat} (hx1 : x < 128) : Met l yJ1_indexOf_4cfef (.code yJ1_indexOf_4cfef cJ1_indexOf_4cfef 4 (some .int) :: tbl) (Rm 2) (va_Pc [.ref (adV 1), .int (nI x), .int (nI 0), .int (nI 8)] (SKs adK adV A)) (QSi (Int32.ofInt (ixOf (x : Int) (skB.getD 1 []) 0))) 0 0 (fun _ => False) := by
  refine va_MetF (cc := cJ1_indexOf_4cfef) (maxL := 4) (ret := (some .int)) (by decide +kernel) rfl ?_
  intro p e s m args below meth c s₁ B hml hv
  obtain ⟨rfl, hs⟩ := hv
  have hs0 := hs
  obtain ⟨hs1, hs2, hs3⟩ := hs0
  have hts0 := atoms_spec (ws := .code yJ1_indexOf_4cfef cJ1_indexOf_4cfef 4 (some .int) :: tbl) B.pre
  have hts : ∀ w ∈ tbl, w.before _ s = true := fun w hw => hts0 w (List.mem_cons_of_mem _ hw)
  have hx := B.exec
  have hb := B.bytes
  have hown := findClass_of_methodNamed B.named
  have hr := B.returns
  have hlk := B.notSynchronized
  have hS : va_S (fun _ => False) s.heap s.heap [] := va_S.rf
  have hl := lv_entry ([.ref (adV 1), .int (nI x), .int (nI 0), .int (nI 8)] : List Value) (n := 4) (by simp [lg_sl, Value.category])
  rw [lg_entry_eq]
  generalize (lg_sl ([.ref (adV 1), .int (nI x), .int (nI 0), .int (nI 8)] : List Value) ++ List.replicate (4 - (lg_sl ([.ref (adV 1), .int (nI x), .int (nI 0), .int (nI 8)] : List Value)).length) Slot.unset).toArray = ls at hl ⊢
  have hl : lv_has ls 4 [(0, .ref (adV 1)), (1, .int (nI x)), (2, .int (nI 0)), (3, .int (nI 8))] := hl
  refine lv_iload_n hx hb dJ1_indexOf_4cfef_0 rfl (lv_at hl 1 rfl) ?_
  refine s_callS (As := [.int (nI x)]) (D := 2) (rest := []) hx hb hml hown hts hs (vs_w hS) hS (ms_canEncode hx1) ws_canEncode wt_canEncode rfl hl.1 (by simp) dJ1_indexOf_4cfef_1 (by decide) ⟨Nat.le_refl _, Nat.le_refl _⟩ ⟨Nat.zero_le _, Nat.zero_le _⟩ (fun H1 locs1 hS1 _ => ?_)
  refine lv_if_ne hx hb dJ1_indexOf_4cfef_4 (tgt := 9) rfl (fun _ => ?_) (fun z => absurd z (by decide))
  refine lv_iload_n hx hb dJ1_indexOf_4cfef_9 rfl (lv_at hl 2 rfl) ?_
  refine lv_iconst hx hb dJ1_indexOf_4cfef_10 (v := nI 0) (by decide) ?_
  refine va_mmax hx hb (by rw [hml, hl.1]) hown (hts _ wm_max.1) (hts _ wm_max.2.1) (hts _ wm_max.2.2.1) (hts _ wm_max.2.2.2) (show 1 ≤ 2 by decide) (show (([] : List Value).map fun v => v.category).sum + 13 ≤ 64 * 2 by simp) (Nat.zero_le _) (Nat.zero_le _) dJ1_indexOf_4cfef_11 ?_
  rw [show (if nI 0 < nI 0 then nI 0 else nI 0) = nI 0 from by decide]
  refine lv_istore_n hx hb dJ1_indexOf_4cfef_14 rfl hl (by decide) rfl (fun ls1 hl1 => ?_)
  refine lv_iload_n hx hb dJ1_indexOf_4cfef_15 rfl (lv_at hl1 3 rfl) ?_
  refine lv_aload_n hx hb dJ1_indexOf_4cfef_16 rfl (lv_at hl1 1 rfl) ?_
  refine va_tlen hx hb (hs1.1 1 (by decide)).2.2.2 (vs_w hS1) (v := nI 8) rfl dJ1_indexOf_4cfef_17 ?_
  refine va_mmin hx hb (by rw [hml, hl1.1]) hown (hts _ wm_min.1) (hts _ wm_min.2.1) (hts _ wm_min.2.2.1) (hts _ wm_min.2.2.2) (show 1 ≤ 2 by decide) (show (([] : List Value).map fun v => v.category).sum + 13 ≤ 64 * 2 by simp) (Nat.zero_le _) (Nat.zero_le _) dJ1_indexOf_4cfef_18 ?_
  rw [show (if nI 8 < nI 8 then nI 8 else nI 8) = nI 8 from by decide]
  refine lv_istore_n hx hb dJ1_indexOf_4cfef_21 rfl hl1 (by decide) rfl (fun ls2 hl2 => ?_)
  refine lv_iload_n hx hb dJ1_indexOf_4cfef_22 rfl (lv_at hl2 1 rfl) ?_
  refine lv_iload_n hx hb dJ1_indexOf_4cfef_23 rfl (lv_at hl2 0 rfl) ?_
  refine lv_icmp_lt hx hb dJ1_indexOf_4cfef_24 (tgt := 29) rfl (fun _ => ?_) (fun z => absurd (show nI 0 < nI 8 from by decide) z)
  refine lv_aload_n hx hb dJ1_indexOf_4cfef_29 rfl (lv_at hl2 2 rfl) ?_
  refine lv_iload_n hx hb dJ1_indexOf_4cfef_30 rfl (lv_at hl2 3 rfl) ?_
  refine lv_iload_n hx hb dJ1_indexOf_4cfef_31 rfl (lv_at hl2 1 rfl) ?_
  refine lv_iload_n hx hb dJ1_indexOf_4cfef_32 rfl (lv_at hl2 0 rfl) ?_
  refine s_callS (As := [.ref (adV 1), .int (nI x), .int (nI 0), .int (nI 8)]) (D := 2) (rest := []) hx hb hml hown hts hs (vs_w hS1) hS1 (ms_indexOfChar hx1) ws_indexOfChar wt_indexOfChar rfl hl2.1 (by simp) dJ1_indexOf_4cfef_33 (by decide) ⟨Nat.le_refl _, Nat.le_refl _⟩ ⟨Nat.zero_le _, Nat.zero_le _⟩ (fun H2 locs2 hS2 _ => ?_)
  exact W.iret hx hb hr (fun t ht _ => qs_end hS2 ht) (fun q hq => hS2.2.2 q hq) dJ1_indexOf_4cfef_36
theorem ms_indexOf2 {adK adV : Nat → Nat} {A : Nat → Prop} {l : Launch} {x : Nat} (hx1 : x < 128) : Met l yJ0_indexOf_7cf53 (.code yJ0_indexOf_7cf53 cJ0_indexOf_7cf53 3 (some .int) :: tbl) (Rm 3) (va_Pc [.ref (adK 1), .int (nI x), .int (nI 0)] (SKs adK adV A)) (QSi (Int32.ofInt (ixOf (x : Int) (skB.getD 1 []) 0))) 0 0 (fun _ => False) := by
  refine va_MetF (cc := cJ0_indexOf_7cf53) (maxL := 3) (ret := (some .int)) (by decide +kernel) rfl ?_
  intro p e s m args below meth c s₁ B hml hv
  obtain ⟨rfl, hs⟩ := hv
  have hs0 := hs
  obtain ⟨hs1, hs2, hs3⟩ := hs0
  have hts0 := atoms_spec (ws := .code yJ0_indexOf_7cf53 cJ0_indexOf_7cf53 3 (some .int) :: tbl) B.pre
  have hts : ∀ w ∈ tbl, w.before _ s = true := fun w hw => hts0 w (List.mem_cons_of_mem _ hw)
  have hx := B.exec
  have hb := B.bytes
  have hown := findClass_of_methodNamed B.named
  have hr := B.returns
  have hlk := B.notSynchronized
  have hS : va_S (fun _ => False) s.heap s.heap [] := va_S.rf
  have hl := lv_entry ([.ref (adK 1), .int (nI x), .int (nI 0)] : List Value) (n := 3) (by simp [lg_sl, Value.category])
  rw [lg_entry_eq]
  generalize (lg_sl ([.ref (adK 1), .int (nI x), .int (nI 0)] : List Value) ++ List.replicate (3 - (lg_sl ([.ref (adK 1), .int (nI x), .int (nI 0)] : List Value)).length) Slot.unset).toArray = ls at hl ⊢
  have hl : lv_has ls 3 [(0, .ref (adK 1)), (1, .int (nI x)), (2, .int (nI 0))] := hl
  refine lv_aload_n hx hb dJ0_indexOf_7cf53_0 rfl (lv_at hl 0 rfl) ?_
  refine s_callV (As := []) (D := 3) (rest := []) hx hb hml hown hts hs (vs_w hS) hS (ms_isLatin1 (i := 1) (by decide)) ws_isLatin1 wv_isLatin1 (vk_recv hs1 (by decide) (vs_w hS)) rfl hl.1 (by simp) dJ0_indexOf_7cf53_1 (by decide) ⟨Nat.le_refl _, Nat.le_refl _⟩ ⟨Nat.zero_le _, Nat.zero_le _⟩ (fun H1 locs1 hS1 _ => ?_)
  refine lv_if_eq hx hb dJ0_indexOf_7cf53_4 (tgt := 23) rfl (fun z => absurd z (by decide)) (fun _ => ?_)
  refine lv_aload_n hx hb dJ0_indexOf_7cf53_7 rfl (lv_at hl 0 rfl) ?_
  refine vk_getf hx hb (hs1.1 1 (by decide)).2.2.1 (vs_w hS1) hown (hts _ wf_9) (fun _ h => h) dJ0_indexOf_7cf53_8 ?_
  refine lv_iload_n hx hb dJ0_indexOf_7cf53_11 rfl (lv_at hl 1 rfl) ?_
  refine lv_iload_n hx hb dJ0_indexOf_7cf53_12 rfl (lv_at hl 2 rfl) ?_
  refine lv_aload_n hx hb dJ0_indexOf_7cf53_13 rfl (lv_at hl 0 rfl) ?_
  refine s_callV (As := []) (D := 3) (rest := [.int (nI 0), .int (nI x), .ref (adV 1)]) hx hb hml hown hts hs (vs_w hS1) hS1 (ms_length (i := 1) (by decide)) ws_length2 wv_length (vk_recv hs1 (by decide) (vs_w hS1)) rfl hl.1 (by simp [Value.category]) dJ0_indexOf_7cf53_14 (by decide) ⟨Nat.le_refl _, Nat.le_refl _⟩ ⟨Nat.zero_le _, Nat.zero_le _⟩ (fun H2 locs2 hS2 _ => ?_)
  refine s_callS (As := [.ref (adV 1), .int (nI x), .int (nI 0), .int (nI 8)]) (D := 3) (rest := []) hx hb hml hown hts hs (vs_w hS2) hS2 (ms_lindexOf hx1) ws_lindexOf wt_lindexOf rfl hl.1 (by simp) dJ0_indexOf_7cf53_17 (by decide) ⟨Nat.le_refl _, Nat.le_refl _⟩ ⟨Nat.zero_le _, Nat.zero_le _⟩ (fun H3 locs3 hS3 _ => ?_)
  refine lv_goto hx hb dJ0_indexOf_7cf53_20 (tgt := 36) rfl ?_
  exact W.iret hx hb hr (fun t ht _ => qs_end hS3 ht) (fun q hq => hS3.2.2 q hq) dJ0_indexOf_7cf53_36
theorem ms_indexOf {adK adV : Nat → Nat} {A : Nat → Prop} {l : Launch} {x : Nat} (hx1 : x < 128) : Met l yJ0_indexOf_0f7a4 (.code yJ0_indexOf_0f7a4 cJ0_indexOf_0f7a4 2 (some .int) :: tbl) (Rm 4) (va_Pc [.ref (adK 1), .int (nI x)] (SKs adK adV A)) (QSi (Int32.ofInt (ixOf (x : Int) (skB.getD 1 []) 0))) 0 0 (fun _ => False) := by
  refine va_MetF (cc := cJ0_indexOf_0f7a4) (maxL := 2) (ret := (some .int)) (by decide +kernel) rfl ?_
  intro p e s m args below meth c s₁ B hml hv
  obtain ⟨rfl, hs⟩ := hv
  have hs0 := hs
  obtain ⟨hs1, hs2, hs3⟩ := hs0
  have hts0 := atoms_spec (ws := .code yJ0_indexOf_0f7a4 cJ0_indexOf_0f7a4 2 (some .int) :: tbl) B.pre
  have hts : ∀ w ∈ tbl, w.before _ s = true := fun w hw => hts0 w (List.mem_cons_of_mem _ hw)
  have hx := B.exec
  have hb := B.bytes
  have hown := findClass_of_methodNamed B.named
  have hr := B.returns
  have hlk := B.notSynchronized
  have hS : va_S (fun _ => False) s.heap s.heap [] := va_S.rf
  have hl := lv_entry ([.ref (adK 1), .int (nI x)] : List Value) (n := 2) (by simp [lg_sl, Value.category])
  rw [lg_entry_eq]
  generalize (lg_sl ([.ref (adK 1), .int (nI x)] : List Value) ++ List.replicate (2 - (lg_sl ([.ref (adK 1), .int (nI x)] : List Value)).length) Slot.unset).toArray = ls at hl ⊢
  have hl : lv_has ls 2 [(0, .ref (adK 1)), (1, .int (nI x))] := hl
  refine lv_aload_n hx hb dJ0_indexOf_0f7a4_0 rfl (lv_at hl 0 rfl) ?_
  refine lv_iload_n hx hb dJ0_indexOf_0f7a4_1 rfl (lv_at hl 1 rfl) ?_
  refine lv_iconst hx hb dJ0_indexOf_0f7a4_2 (v := nI 0) (by decide) ?_
  refine s_callV (As := [.int (nI x), .int (nI 0)]) (D := 4) (rest := []) hx hb hml hown hts hs (vs_w hS) hS (ms_indexOf2 hx1) ws_indexOf2 wv_indexOf2 (vk_recv hs1 (by decide) (vs_w hS)) rfl hl.1 (by simp) dJ0_indexOf_0f7a4_3 (by decide) ⟨Nat.le_refl _, Nat.le_refl _⟩ ⟨Nat.zero_le _, Nat.zero_le _⟩ (fun H1 locs1 hS1 _ => ?_)
  exact W.iret hx hb hr (fun t ht _ => qs_end hS1 ht) (fun q hq => hS1.2.2 q hq) dJ0_indexOf_0f7a4_6
theorem ix_rg {x : Int} : ∀ (L : List Int32) (i : Int), 0 ≤ i → i + L.length < 1000 → -1 ≤ ixOf x L i ∧ ixOf x L i < 1000
  | [], i, h, h2 => by
    show -1 ≤ (-1 : Int) ∧ (-1 : Int) < 1000
    omega
  | b :: r, i, h, h2 => by
    have e : ixOf x (b :: r) i = if b.toInt = x then i else ixOf x r (i + 1) := rfl
    rw [List.length_cons] at h2
    rw [e]
    split
    · omega
    · exact ix_rg r (i + 1) (by omega) (by omega)
section SG
variable {M : Md} {Γ : Cx} {pc p1 w : Nat}
theorem E_strlen0 (ho : M.2.1 = RX10) (hd : decode M.1 pc = .ok (.ldc 53, 2)) (hd2 : decode M.1 (pc + 2) = .ok (.invokevirtual 55, 3)) (hdep : 6 ≤ M.2.2.1) (hw8 : w ≤ 8) : EO M Γ w pc (pc + 5) 0 (numE 192) := by
  intro G env st μ v μ' h hw k
  cases h
  obtain ⟨p, l, e, s, m, args, below, meth, c, D, ad, sh, F, A, R, nc, ns, Q⟩ := Γ
  obtain ⟨hx, hb, hml, hown, hts, hD, hK, hKa, hrt, hlk, hal, hsk, hR, hQ⟩ := G
  intro H locs ls hP hMk hS hE hn hst
  rw [ho] at hown
  obtain ⟨adK, adV, h1, h2, h3, h4, h5⟩ := hsk
  refine va_ldcS hx hb hown h2 hd ?_
  refine s_callV (As := []) (D := M.2.2.1) (rest := sv ad st) hx hb hml hown hts ⟨h1, h4, h5⟩ hS hS (ms_length (i := 0) (by decide)) ws_length wv_length (vk_recv h1 (by decide) hS) rfl (by rw [hE.1, hn]) (by rw [wd_sv hst]; omega) hd2 (by omega) ⟨hR.1, hR.2.1⟩ ⟨hR.2.2.1, hR.2.2.2⟩ (fun H1 locs1 hS1 hk => ?_)
  exact k H1 locs1 ls (hP.kept (fun i q hq => hk q.1 (hP i q hq).lt)) hMk hS1 hE hn (sok_i hst ⟨by decide, by decide⟩)
theorem E_strch0 (ho : M.2.1 = RX10) {i : Nat} {j : Fin 4} (hd : decode M.1 pc = .ok (.ldc 53, 2)) (hd1 : decode M.1 (pc + 2) = .ok (.iload_n j, 1)) (hj : (j : Nat) = i) (hd2 : decode M.1 (pc + 3) = .ok (.invokevirtual 60, 3)) (hdep : 6 ≤ M.2.2.1) (hw8 : w ≤ 8) : EO M Γ w pc (pc + 6) 0 (strChE 0 (locE 0 i)) := by
  intro G env st μ v μ' h hw k
  obtain ⟨⟨x, μ1⟩, g1, g2⟩ := b_some h
  unfold locE at g1
  split at g1
  · rename_i t' v' hi
    split at g1
    · rename_i ht
      subst ht
      cases g1
      dsimp only at g2
      split at g2
      · rename_i hc
        cases g2
        obtain ⟨q, rfl⟩ := Int.eq_ofNat_of_zero_le hc.1
        have hq : q < 192 := by
          have := hc.2
          have e : skL.getD 0 0 = 192 := rfl
          rw [e] at this
          omega
        obtain ⟨p, l, e, s, m, args, below, meth, c, D, ad, sh, F, A, R, nc, ns, Q⟩ := Γ
        obtain ⟨hx, hb, hml, hown, hts, hD, hK, hKa, hrt, hlk, hal, hsk, hR, hQ⟩ := G
        intro H locs ls hP hMk hS hE hn hst
        rw [ho] at hown
        obtain ⟨adK, adV, h1, h2, h3, h4, h5⟩ := hsk
        obtain ⟨i1, i2, i3⟩ := hE.2.2 i 0 _ hi (by omega)
        have eq : (vv ad 0 ((q : Nat) : Int)) = .int (nI q) := rfl
        rw [eq] at i3
        refine va_ldcS hx hb hown h2 hd ?_
        refine lv_iload_n hx hb hd1 hj i3 ?_
        refine s_callV (As := [.int (nI q)]) (D := M.2.2.1) (rest := sv ad st) hx hb hml hown hts ⟨h1, h4, h5⟩ hS hS (ms_charAt hq) ws_charAt wv_charAt (vk_recv h1 (by decide) hS) rfl (by rw [hE.1, hn]) (by rw [wd_sv hst]; omega) hd2 (by omega) ⟨hR.1, hR.2.1⟩ ⟨hR.2.2.1, hR.2.2.2⟩ (fun H1 locs1 hS1 hk => ?_)
        have k1 := k H1 locs1 ls (hP.kept (fun i q hq => hk q.1 (hP i q hq).lt)) hMk hS1 hE hn (sok_i hst (i32_rg _ _))
        have ev : vv ad 0 ((skB.getD 0 []).getD ((q : Nat) : Int).toNat 0).toInt = .int (byW 0 q) := by
          show Value.int (Int32.ofInt ((skB.getD 0 []).getD q 0).toInt) = _
          rw [Int32.ofInt_toInt]
          rfl
        have k2 : W p l e R s m args below meth c H1 locs1 nc ns Q (F0 m (pc + 6) ls (vv ad 0 ((skB.getD 0 []).getD ((q : Nat) : Int).toNat 0).toInt :: sv ad st)) := k1
        rw [ev] at k2
        exact k2
      · cases g2
    · cases g1
  · cases g1
theorem E_strix1 (ho : M.2.1 = RX10) {i : Nat} {j : Fin 4} (hd : decode M.1 pc = .ok (.ldc 67, 2)) (hd1 : decode M.1 (pc + 2) = .ok (.iload_n j, 1)) (hj : (j : Nat) = i) (hd2 : decode M.1 (pc + 3) = .ok (.invokevirtual 69, 3)) (hdep : 6 ≤ M.2.2.1) (hw8 : w ≤ 8) : EO M Γ w pc (pc + 6) 0 (strIxE 1 (locE 0 i)) := by
  intro G env st μ v μ' h hw k
  obtain ⟨⟨x, μ1⟩, g1, g2⟩ := b_some h
  unfold locE at g1
  split at g1
  · rename_i t' v' hi
    split at g1
    · rename_i ht
      subst ht
      cases g1
      dsimp only at g2
      split at g2
      · rename_i hc
        cases g2
        obtain ⟨q, rfl⟩ := Int.eq_ofNat_of_zero_le hc.1
        have hq : q < 128 := by
          have := hc.2
          omega
        obtain ⟨p, l, e, s, m, args, below, meth, c, D, ad, sh, F, A, R, nc, ns, Q⟩ := Γ
        obtain ⟨hx, hb, hml, hown, hts, hD, hK, hKa, hrt, hlk, hal, hsk, hR, hQ⟩ := G
        intro H locs ls hP hMk hS hE hn hst
        rw [ho] at hown
        obtain ⟨adK, adV, h1, h2, h3, h4, h5⟩ := hsk
        obtain ⟨i1, i2, i3⟩ := hE.2.2 i 0 _ hi (by omega)
        have eq : (vv ad 0 ((q : Nat) : Int)) = .int (nI q) := rfl
        rw [eq] at i3
        refine va_ldcS hx hb hown h3 hd ?_
        refine lv_iload_n hx hb hd1 hj i3 ?_
        refine s_callV (As := [.int (nI q)]) (D := M.2.2.1) (rest := sv ad st) hx hb hml hown hts ⟨h1, h4, h5⟩ hS hS (ms_indexOf hq) ws_indexOf wv_indexOf (vk_recv h1 (by decide) hS) rfl (by rw [hE.1, hn]) (by rw [wd_sv hst]; omega) hd2 (by omega) ⟨hR.1, hR.2.1⟩ ⟨hR.2.2.1, hR.2.2.2⟩ (fun H1 locs1 hS1 hk => ?_)
        have rg := ix_rg (x := (q : Int)) (skB.getD 1 []) 0 (Int.le_refl _) (by decide)
        exact k H1 locs1 ls (hP.kept (fun i q hq => hk q.1 (hP i q hq).lt)) hMk hS1 hE hn (sok_i hst ⟨by omega, by omega⟩)
      · cases g2
    · cases g1
  · cases g1
end SG
