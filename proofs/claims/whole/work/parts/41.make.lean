/-! rules that make cells; constructors' contracts -/
/-- what the constructors want beside the tables' words -/
def XK (U : State) : Prop := va_AO "FlockGaps$Lying" U ∧ va_AO "FlockGaps$Fog" U ∧ va_Nw (.methodLinkNest RX11 9 yX10_init RX11) U ∧ va_Nw (.methodLinkNest RX1 33 yX4_init RX11) U ∧ va_Nw (.methodLinkNest RX11 47 yX2_init RX11) U ∧ va_Nw (.methodLinkNest RX11 61 yX0_init RX11) U ∧ va_Nw (.methodLinkNest RX11 68 yX3_init RX11) U ∧ va_Nw (.methodLinkNest RX11 75 yX5_init RX11) U ∧ va_Nw (.methodLinkNest RX11 82 yX9_init RX11) U
theorem XK.to {s U : State} (hW : s.WarmedH U.vm) (h : XK s) : XK U := by
  obtain ⟨h1, h2, h3, h4, h5, h6, h7, h8, h9⟩ := h
  exact ⟨h1.moved hW.alike, h2.moved hW.alike, h3.warmM hW, h4.warmM hW, h5.warmM hW, h6.warmM hW, h7.warmM hW, h8.warmM hW, h9.warmM hW⟩
theorem XK.calling {U : State} {g : JFrame} {mk : MethodId} {a : Array Value} (h : XK U) : XK (U.calling g mk a) := by
  obtain ⟨h1, h2, h3, h4, h5, h6, h7, h8, h9⟩ := h
  have hv : U.vm.Alike (U.calling g mk a).vm := Vm.Alike.refl U.vm
  exact ⟨h1.moved hv, h2.moved hv, h3.same rfl rfl, h4.same rfl rfl, h5.same rfl rfl, h6.same rfl rfl, h7.same rfl rfl, h8.same rfl rfl, h9.same rfl rfl⟩
abbrev Gx (p : Program) (l : Launch) (e : Env) (s : State) (m : MethodId) (args : Array Value) (below : List Frame) (meth : Method) (c : Code) (D : va_G) (ad : Adr) (sh : Shp) (A : Nat → Prop) (R : Room) (nc ns : Nat) (Q : State → Prop) : Cx := (p, l, e, s, m, args, below, meth, c, D, ad, sh, (fun _ _ => False), A, R, nc, ns, Q)
section AL
variable {M : Md} {p : Program} {l : Launch} {e : Env} {s : State} {m : MethodId} {args : Array Value} {below : List Frame} {meth : Method} {c : Code} {D : va_G} {ad : Adr} {sh : Shp} {A : Nat → Prop} {R : Room} {nc ns : Nat} {Q : State → Prop} {pc : Nat} {env : Ev} {st : List Vl} {μ : Mem}
theorem ck_ext (G : CK M (Gx p l e s m args below meth c D ad sh A R nc ns Q)) {x : Nat × ClassId} {q : Nat × Nat} {N : Nat} (hD : va_D A (wsO (ad ++ [x]) (sh ++ [q]) (nwM μ sh.length q))) (hK : 100 ≤ q.1 → va_K D vwCl [(x.2, aty q.1)] s) (h1 : nc + 1 ≤ R.cells) (h2 : ns + N ≤ R.slots) : CK M (Gx p l e s m args below meth c D (ad ++ [x]) (sh ++ [q]) A R (nc + 1) (ns + N) Q) := by
  obtain ⟨hx, hb, hml, hown, hts, hD0, hK0, hKa, hrt, hlk, hal, hsk, hR, hQ⟩ := G
  refine ⟨hx, hb, hml, hown, hts, fun μ' => wsD_any hD, hK0, ?_, hrt, hlk, by simp [hal], hsk, ⟨hR.1, hR.2.1, h1, h2⟩, fun ⟨_, _, h⟩ => h.elim⟩
  intro k y hk hy
  by_cases h : k < sh.length
  · rw [List.getElem?_append_left h] at hk
    rw [ad2_ext (by omega)]
    exact hKa k y hk hy
  · have hk2 : k < (sh ++ [q]).length := (List.getElem?_eq_some_iff.mp hk).1
    rw [List.length_append, List.length_singleton] at hk2
    have h3 : k = sh.length := by omega
    subst h3
    rw [List.getElem?_append_right (Nat.le_refl _), Nat.sub_self] at hk
    cases hk
    rw [← hal, ad2_new]
    exact hK hy
theorem a_new (G : CK M (Gx p l e s m args below meth c D ad sh A R nc ns Q)) (hA : ∀ q, s.heap.size ≤ q → A q) {idx ci : Nat} {C : String} {T : u_T} {N : Nat} {ty : Nat → FieldType} (hc : vwCl[ci]? = some (C, T, N)) (hci : ci < 100) (hin : ∀ w ∈ u_ws C T N, w ∈ tbl) (hty : ∀ k, k < N → parseFieldDescriptor (T k).2.2.1 = some (ty k)) (hw1 : Cond.classLink M.2.1 idx C ∈ tbl) (hw2 : Cond.instantiable C N ∈ tbl) (hw3 : Cond.initialized C ∈ tbl) (hfs : ∀ j, j < N → ∀ ad : Adr, defaultValue (ty j) = vp_V ((ftab.getD ci []).mapIdx (fun j t => vv ad t (dv (ci, 0) j))) j) (h1 : nc + 1 ≤ R.cells) (h2 : ns + N ≤ R.slots) (hd : decode M.1 pc = .ok (.new idx, 3))
    (k : ∀ x : Nat × ClassId, CK M (Gx p l e s m args below meth c D (ad ++ [x]) (sh ++ [(ci, 0)]) A R (nc + 1) (ns + N) Q) → WP M (Gx p l e s m args below meth c D (ad ++ [x]) (sh ++ [(ci, 0)]) A R (nc + 1) (ns + N) Q) (pc + 3) env ((2, (sh.length : Int)) :: st) (nwM μ sh.length (ci, 0))) : WP M (Gx p l e s m args below meth c D ad sh A R nc ns Q) pc env st μ := by
  have G0 := G
  obtain ⟨hx, hb, hml, hown, hts, hD0, hK0, hKa, hrt, hlk, hal, hsk, hR, hQ⟩ := G
  intro H locs ls hP hM hS hE hn hst
  refine va_new (D := D) hx hb hts hin ty hty hown (hts _ hw1) (hts _ hw2) (hts _ hw3) hK0 hP (hD0 μ) hS hA hc (fs := (ftab.getD ci []).mapIdx (fun j t => vv ad t (dv (ci, 0) j))) (fun j hj => hfs j hj ad) h1 h2 hd (fun q H1 hP1 hD1 hS1 => ?_)
  have ec : cE (ad ++ [(q, 0)]) sh.length (ci, 0) (dv (ci, 0)) = .inr (ci, (ftab.getD ci []).mapIdx (fun j t => vv ad t (dv (ci, 0) j))) := by
    rw [cE_obj hci]
    congr 2
    apply List.ext_getElem?
    intro j
    rw [List.getElem?_mapIdx, List.getElem?_mapIdx]
    cases he : (ftab.getD ci [])[j]? with
    | none => rfl
    | some t =>
      have h4 := sty_lt (ci, 0) j
      have h5 : sty (ci, 0) j = t := sty_obj hci he
      show some (vv _ t (dv (ci, 0) j)) = some (vv _ t (dv (ci, 0) j))
      rw [vv_ext ?_ (by omega)]
      unfold dv
      rw [h5]
      match t, h5 ▸ h4 with
      | 0, _ => exact ⟨by omega, by omega⟩
      | 1, _ => exact ⟨by omega, by omega⟩
      | 2, _ => exact ⟨by omega, by simp only [if_true]; omega⟩
  have ew := wsO_ext (x := (q, 0)) (q := (ci, 0)) hal hM
  rw [ec] at ew
  rw [← ew] at hP1 hD1
  have h6 : (sh ++ [((ci, 0) : Nat × Nat)]).length = sh.length + 1 := by rw [List.length_append, List.length_singleton]
  have hst1 : sok (sh ++ [((ci, 0) : Nat × Nat)]).length ((2, (sh.length : Int)) :: st) := sok_c (sok_ext hst (by omega)) (by omega) ⟨by omega, by omega⟩ (by omega)
  have k1 := k (q, 0) (ck_ext G0 hD1 (fun h => by simp only at h; omega) h1 h2) H1 locs ls hP1 (mok_ext hM) hS1 (eok_ext hE hal (by omega)) hn hst1
  have es : sv (ad ++ [(q, 0)]) ((2, (sh.length : Int)) :: st) = .ref q :: sv ad st := by
    show vv _ 2 _ :: sv _ st = _
    rw [vv_ref (by omega), sv_ext hst hal, Int.toNat_natCast, ← hal, ad1_new]
  rw [es] at k1
  exact k1
theorem a_newa (G : CK M (Gx p l e s m args below meth c D ad sh A R nc ns Q)) (hA : ∀ q, s.heap.size ≤ q → A q) {at0 : ArrayType} {kd N : Nat} (hk : 100 ≤ kd ∧ kd < 110) (hty : newarray.typeOf at0 = aty kd) (hw : Cond.arrayClass (newarray.typeOf at0) ∈ tbl) (hcell : ∀ (ad : Adr) (k : Nat) (cA : ClassId), ∃ a0 : vp_A, cE (ad ++ [(k, cA)]) ad.length (kd, N) (dv (kd, N)) = .inl (cA, a0) ∧ ∀ cB : ClassId, vp_cell cB a0 = arrV cB N (fun _ => defaultValue (aty kd)))
    (hN : N < 2147483648) (hbytes : N * componentBytes (aty kd) ≤ 536870912) (h1 : nc + 1 ≤ R.cells) (h2 : ns + N ≤ R.slots) (hd : decode M.1 pc = .ok (.newarray at0, 2))
    (k : ∀ x : Nat × ClassId, CK M (Gx p l e s m args below meth c D (ad ++ [x]) (sh ++ [(kd, N)]) A R (nc + 1) (ns + N) Q) → WP M (Gx p l e s m args below meth c D (ad ++ [x]) (sh ++ [(kd, N)]) A R (nc + 1) (ns + N) Q) (pc + 2) env ((2, (sh.length : Int)) :: st) (nwM μ sh.length (kd, N))) : WP M (Gx p l e s m args below meth c D ad sh A R nc ns Q) pc env ((0, (N : Int)) :: st) μ := by
  have G0 := G
  obtain ⟨hx, hb, hml, hown, hts, hD0, hK0, hKa, hrt, hlk, hal, hsk, hR, hQ⟩ := G
  intro H locs ls hP hM hS hE hn hst
  obtain ⟨a0, ha0, ha1⟩ := hcell ad 0 0
  have hrN : rg sh.length 0 (N : Int) := ⟨by omega, by omega⟩
  refine va_newa (D := D) (a0 := a0) (N' := N) hx hb (hts _ hw) hty hK0 hP (hD0 μ) hS hA ha1 ?_ ?_ hbytes h1 h2 hd (fun q cA H1 hK1 hP1 hD1 hS1 => ?_)
  · intro z
    have := (i32_lt hrN (r0 sh.length)).mp z
    omega
  · rw [clampI hrN, Int.toNat_natCast]
  have ec : cE (ad ++ [(q, cA)]) sh.length (kd, N) (dv (kd, N)) = .inl (cA, a0) := by
    obtain ⟨b0, hb0, hb1⟩ := hcell ad q cA
    rw [← hal, hb0]
    have e0 : cE (ad ++ [((0 : Nat), (0 : ClassId))]) ad.length (kd, N) (dv (kd, N)) = .inl (0, a0) := ha0
    have hne : ¬ kd < 100 := by omega
    have hlt : kd < 110 := hk.2
    unfold cE at hb0 e0
    rw [ad2_new] at hb0 e0
    simp only [hne, if_false, hlt, if_true] at hb0 e0
    split at hb0
    · rename_i h9
      rw [if_pos h9] at e0
      cases hb0
      cases e0
      rfl
    · rename_i h9
      rw [if_neg h9] at e0
      cases hb0
      cases e0
      rfl
  have ew := wsO_ext (x := (q, cA)) (q := (kd, N)) hal hM
  rw [ec] at ew
  rw [← ew] at hP1 hD1
  have h6 : (sh ++ [((kd, N) : Nat × Nat)]).length = sh.length + 1 := by rw [List.length_append, List.length_singleton]
  have hst1 : sok (sh ++ [((kd, N) : Nat × Nat)]).length ((2, (sh.length : Int)) :: st) := sok_c (sok_ext (sok_d hst) (by omega)) (by omega) ⟨by omega, by omega⟩ (by omega)
  have k1 := k (q, cA) (ck_ext G0 hD1 (fun _ => hK1) h1 h2) H1 locs ls hP1 (mok_ext hM) hS1 (eok_ext hE hal (by omega)) hn hst1
  have es : sv (ad ++ [(q, cA)]) ((2, (sh.length : Int)) :: st) = .ref q :: sv ad st := by
    show vv _ 2 _ :: sv _ st = _
    rw [vv_ref (by omega), sv_ext (sok_d hst) hal, Int.toNat_natCast, ← hal, ad1_new]
  rw [es] at k1
  exact k1
theorem a_anew (G : CK M (Gx p l e s m args below meth c D ad sh A R nc ns Q)) (hA : ∀ q, s.heap.size ≤ q → A q) {idx ci N : Nat} {C : String} {T : u_T} {nf : Nat} (hc : vwCl[ci]? = some (C, T, nf)) (hci : ci < 100) (hw : Cond.classLink M.2.1 idx C ∈ tbl) (hov : va_AO C s) (hN : N < 1000) (h1 : nc + 1 ≤ R.cells) (h2 : ns + N ≤ R.slots) (hd : decode M.1 pc = .ok (.anewarray idx, 3))
    (k : ∀ x : Nat × ClassId, CK M (Gx p l e s m args below meth c D (ad ++ [x]) (sh ++ [(110 + ci, N)]) A R (nc + 1) (ns + N) Q) → WP M (Gx p l e s m args below meth c D (ad ++ [x]) (sh ++ [(110 + ci, N)]) A R (nc + 1) (ns + N) Q) (pc + 3) env ((2, (sh.length : Int)) :: st) (nwM μ sh.length (110 + ci, N))) : WP M (Gx p l e s m args below meth c D ad sh A R nc ns Q) pc env ((0, (N : Int)) :: st) μ := by
  have G0 := G
  obtain ⟨hx, hb, hml, hown, hts, hD0, hK0, hKa, hrt, hlk, hal, hsk, hR, hQ⟩ := G
  intro H locs ls hP hM hS hE hn hst
  have hrN : rg sh.length 0 (N : Int) := ⟨by omega, by omega⟩
  refine va_newq (D := D) (N' := N) hx hb hown (hts _ hw) hov hK0 hP (hD0 μ) hS hA ?_ ?_ (by omega) h1 h2 hd (fun q cA H1 hK1 hP1 hD1 hS1 => ?_)
  · intro z
    have := (i32_lt hrN (r0 sh.length)).mp z
    omega
  · rw [clampI hrN, Int.toNat_natCast]
  have ec : cE (ad ++ [(q, cA)]) sh.length (110 + ci, N) (dv (110 + ci, N)) = .inl (cA, N, .inr (.inr (.inr (.inr (fun _ => none))))) := by
    unfold cE
    rw [if_neg (by simp only; omega), if_neg (by simp only; omega), if_neg (by simp only; omega), ← hal, ad2_new]
    congr 7
    funext j
    have : dv (110 + ci, N) j = -1 := by
      have e5 : sty (110 + ci, N) j = 2 := by
        unfold sty
        rw [if_neg (by simp only; omega), if_neg (by simp only; omega), if_neg (by simp only; omega)]
      unfold dv
      rw [e5]
      rfl
    rw [this]
    rfl
  have ew := wsO_ext (x := (q, cA)) (q := (110 + ci, N)) hal hM
  rw [ec] at ew
  rw [← ew] at hP1 hD1
  have h6 : (sh ++ [((110 + ci, N) : Nat × Nat)]).length = sh.length + 1 := by rw [List.length_append, List.length_singleton]
  have hst1 : sok (sh ++ [((110 + ci, N) : Nat × Nat)]).length ((2, (sh.length : Int)) :: st) := sok_c (sok_ext (sok_d hst) (by omega)) (by omega) ⟨by omega, by omega⟩ (by omega)
  have e3 : aty (110 + ci) = .object C := by
    unfold aty
    split <;> first | omega | skip
    rename_i h
    simp only [Nat.add_sub_cancel_left]
    rw [List.getD_eq_getElem?_getD, hc]
    rfl
  have k1 := k (q, cA) (ck_ext G0 hD1 (fun _ => by simp only; rw [e3]; exact hK1) h1 h2) H1 locs ls hP1 (mok_ext hM) hS1 (eok_ext hE hal (by omega)) hn hst1
  have es : sv (ad ++ [(q, cA)]) ((2, (sh.length : Int)) :: st) = .ref q :: sv ad st := by
    show vv _ 2 _ :: sv _ st = _
    rw [vv_ref (by omega), sv_ext (sok_d hst) hal, Int.toNat_natCast, ← hal, ad1_new]
  rw [es] at k1
  exact k1
/-- a reference put into an array of references -/
theorem a_aast (G : CK M (Gx p l e s m args below meth c D ad sh A R nc ns Q)) (hd : decode M.1 pc = .ok (.aastore, 1)) {a i v : Int} {n ci nn nf : Nat} {C : String} {T : u_T} (hc : vwCl[ci]? = some (C, T, nf)) (hci : ci < 100) (hs : sh[a.toNat]? = some (110 + ci, n)) (hv : sh[v.toNat]? = some (ci, nn)) (h0 : 0 ≤ i) (h1 : i < n) (k : WP M (Gx p l e s m args below meth c D ad sh A R nc ns Q) (pc + 1) env st (ud μ a.toNat i.toNat v)) : WP M (Gx p l e s m args below meth c D ad sh A R nc ns Q) pc env ((2, v) :: (0, i) :: (2, a) :: st) μ := by
  obtain ⟨hx, hb, hml, hown, hts, hD0, hK0, hKa, hrt, hlk, hal, hsk, hR, hQ⟩ := G
  intro H locs ls hP hM hS hE hn hst
  obtain ⟨-, -, ha2⟩ := sok_t (sok_d (sok_d hst))
  obtain ⟨-, hi1, -⟩ := sok_t (sok_d hst)
  obtain ⟨-, hv1, hv2⟩ := sok_t hst
  have hst2 := sok_d (sok_d (sok_d hst))
  show W _ _ _ _ _ _ _ _ _ _ _ _ _ _ _ (F0 m pc ls (vv ad 2 v :: .int (Int32.ofInt i) :: vv ad 2 a :: sv ad st))
  rw [vv_ref (ha2 rfl), vv_ref (hv2 rfl)]
  have e1 : (wsO ad sh μ)[a.toNat]? = some (ad1 ad a.toNat, .inl (ad2 ad a.toNat, n, .inr (.inr (.inr (.inr (fun j => if μ a.toNat j < 0 then none else some (ad1 ad (μ a.toNat j).toNat))))))) := by
    rw [wsO_at hs]
    unfold cE
    rw [if_neg (by simp only; omega), if_neg (by simp only; omega), if_neg (by simp only; omega)]
  have e2 : (wsO ad sh μ)[v.toNat]? = some (ad1 ad v.toNat, .inr (ci, (ftab.getD ci []).mapIdx (fun j t => vv ad t (μ v.toNat j)))) := by rw [wsO_at hv, cE_obj hci]
  have e3 : aty (110 + ci) = .object C := by
    unfold aty
    split <;> first | omega | skip
    rename_i h
    simp only [Nat.add_sub_cancel_left]
    rw [List.getD_eq_getElem?_getD, hc]
    rfl
  have hK2 := hKa _ _ hs (by simp only; omega)
  simp only at hK2
  rw [e3] at hK2
  refine va_astq (D := D) (r := (C, T, nf)) hx hb hK2 hP (hD0 μ) hS a.toNat 0 v.toNat ci e1 rfl e2 hc (vpin_of hi1 h0 h1) hd (fun H1 locs1 hP1 hD1 hS1 => ?_)
  rw [clampI hi1] at hP1
  rw [wsO_set (ad := ad) (μ := μ) hs i.toNat v ?_] at hP1
  · refine k H1 locs1 ls hP1 (mok_ud hM (fun q hq => ?_)) hS1 hE hn hst2
    rw [hs] at hq
    cases hq
    have e5 : sty (110 + ci, n) i.toNat = 2 := by
      unfold sty
      rw [if_neg (by simp only; omega), if_neg (by simp only; omega), if_neg (by simp only; omega)]
    rw [e5]
    exact hv1
  · rw [ud_k]
    unfold cE
    rw [if_neg (by simp only; omega), if_neg (by simp only; omega), if_neg (by simp only; omega)]
    congr 7
    funext j
    have hnv : ¬ v < 0 := by have := hv2 rfl; omega
    unfold va_up
    by_cases hj : j = i.toNat
    · simp [hj, hnv]
    · simp [hj]
/-- a final field written by its class's constructor -/
def FF (own : String) (idx ci j t : Nat) (ty : FieldType) : Prop := ∃ (C : String) (T : u_T) (N : Nat) (ty0 : Nat → FieldType), vwCl[ci]? = some (C, T, N) ∧ j < N ∧ (∀ w ∈ u_ws C T N, w ∈ tbl) ∧ Cond.fieldLink own idx (T j).1 (T j).2.1 (T j).2.2.1 ∈ tbl ∧ (ftab.getD ci [])[j]? = some t ∧ ci < 100 ∧ t < 3 ∧ (∀ k, k < N → parseFieldDescriptor (T k).2.2.1 = some (ty0 k)) ∧ (∀ a, a < N → ∀ b, b < N → a ≠ b → (T a).2.1 ≠ (T b).2.1) ∧ (T j).2.2.2 = true ∧ (T j).1 = own ∧ parseFieldDescriptor (T j).2.2.1 = some ty
theorem a_putF (G : CK M (Gx p l e s m args below meth c D ad sh A R nc ns Q)) (hin : meth.name = "<init>") {idx ci j : Nat} {ty : FieldType} (hf : FF M.2.1 idx ci j 2 ty) (hty : ∀ x, narrow ty (.ref x) = .ref x ∧ fits ty (.ref x) = true) (hd : decode M.1 pc = .ok (.putfield idx, 3)) {a v : Int} {nn : Nat} (hs : sh[a.toNat]? = some (ci, nn)) (k : WP M (Gx p l e s m args below meth c D ad sh A R nc ns Q) (pc + 3) env st (ud μ a.toNat j v)) : WP M (Gx p l e s m args below meth c D ad sh A R nc ns Q) pc env ((2, v) :: (2, a) :: st) μ := by
  obtain ⟨hx, hb, hml, hown, hts, hD, hK, hKa, hrt, hlk, hal, hsk, hR, hQ⟩ := G
  intro H locs ls hP hM hS hE hn hst
  obtain ⟨C, T, N, ty0, g1, g2, g3, g4, g5, g6, g7, g8, g9, g10, g12, g11⟩ := hf
  obtain ⟨-, -, ha2⟩ := sok_t (sok_d hst)
  obtain ⟨-, hv1, hv2⟩ := sok_t hst
  show W _ _ _ _ _ _ _ _ _ _ _ _ _ _ _ (F0 m pc ls (vv ad 2 v :: vv ad 2 a :: sv ad st))
  have hst2 := sok_d (sok_d hst)
  have hl := (List.getElem?_eq_some_iff.mp g5).1
  have hnv : narrow ty (vv ad 2 v) = vv ad 2 v ∧ fits ty (vv ad 2 v) = true := by
    rw [vv_ref (hv2 rfl)]
    exact hty _
  rw [vv_ref (ha2 rfl)]
  refine va_putF (D := D) hx hb hts g3 ty0 g8 g9 hown hK hP (hD μ) hS a.toNat (by rw [wsO_at hs, cE_obj g6]) g1 j g2 (hts _ g4) (fun _ h9 => h9) g10 hin g12 g11 hnv.1 hnv.2 (by rw [List.length_mapIdx]; exact hl) hd (fun H1 locs1 hP1 hD1 hS1 => ?_)
  have e1 := wsO_set (ad := ad) (μ := μ) hs j v (E := .inr (ci, ((ftab.getD ci []).mapIdx (fun j t => vv ad t (μ a.toNat j))).set j (vv ad 2 v))) (by rw [cE_obj g6, mapIdx_set g5, ud_k])
  rw [e1] at hP1
  exact k H1 locs1 ls hP1 (mok_ud hM (fun q hq => by rw [hs] at hq; cases hq; rw [sty_obj g6 g5]; exact hv1)) hS1 hE hn hst2
theorem a_obj (G : CK M (Gx p l e s m args below meth c D ad sh A R nc ns Q)) {idx : Nat} (hw1 : Cond.methodLink M.2.1 idx Lib.objectInit ∈ tbl) (hw2 : Cond.instanceMethod Lib.objectInit ∈ tbl) (hw3 : Cond.code Lib.objectInit ⟨#[0xb1]⟩ 1 none ∈ tbl) (hd : decode M.1 pc = .ok (.invokespecial idx, 3)) (hdep : 1 ≤ M.2.2.1) (hw8 : wd st ≤ 8) {a : Int} (k : WP M (Gx p l e s m args below meth c D ad sh A R nc ns Q) (pc + 3) env st μ) : WP M (Gx p l e s m args below meth c D ad sh A R nc ns Q) pc env ((2, a) :: st) μ := by
  obtain ⟨hx, hb, hml, hown, hts, hD, hK, hKa, hrt, hlk, hal, hsk, hR, hQ⟩ := G
  intro H locs ls hP hM hS hE hn hst
  obtain ⟨-, -, ha2⟩ := sok_t hst
  have hst2 := sok_d hst
  show W _ _ _ _ _ _ _ _ _ _ _ _ _ _ _ (F0 m pc ls (vv ad 2 a :: sv ad st))
  rw [vv_ref (ha2 rfl)]
  refine W.objInit hx hb hown (hts _ hw1) (hts _ hw2) (hts _ hw3) rfl ?_ rfl hd (Nat.le_trans hdep hR.1) ?_ (k H locs ls hP hM hS hE hn hst2)
  · show ls.size = _
    rw [hE.1, hn, hml]
  · show 2 * (F0 m pc ls (.ref (ad1 ad a.toNat) :: sv ad st)).monitorRoom + _ + 12 ≤ _
    have h1 := lv_room (m := m) (pc := pc) (ls := ls) (rest := .ref (ad1 ad a.toNat) :: sv ad st) (st := sv ad st) (by rw [wd_sv hst2]; exact hw8)
    have h2 := hR.2.1
    omega
end AL
