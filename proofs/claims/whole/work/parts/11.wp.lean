/-! the machine over the pure picture -/
def Rm (d : Nat) : Room := { frames := d, cells := 0, slots := 0, locals := 64 * d }
def rvv (ad : Adr) (rt : Nat) (r : Int) : Option Value := if rt = 3 then none else some (vv ad rt r)
def Aof (ad : Adr) (sh : Shp) : Nat → Prop := fun q => ∃ k, k < sh.length ∧ q = ad1 ad k
/-- a method's end: the answer and the memory are as F says -/
def Qx (D : va_G) (ad : Adr) (sh : Shp) (rt : Nat) (F : Int → Mem → Prop) : Array Value → State → Outcome → State → Prop := fun _ st oc t =>
  ∃ r μ, F r μ ∧ oc = .returned (rvv ad rt r) ∧ va_P D vwCl (wsO ad sh μ) t.heap ∧ mok sh μ ∧ (rt < 3 → rg sh.length rt r) ∧ va_F (Aof ad sh) st t
/-- the frame's locals hold the environment -/
def eok (ad : Adr) (n : Nat) (env : Ev) (ls : Array Slot) : Prop := ls.size = env.length ∧ lv_wf ls ∧ ∀ (i t : Nat) (v : Int), env[i]? = some (t, v) → t < 3 → rg n t v ∧ (t = 2 → 0 ≤ v) ∧ ls[i]? = some (.val (vv ad t v))
def sok (n : Nat) (st : List Vl) : Prop := ∀ q ∈ st, q.1 < 3 ∧ rg n q.1 q.2 ∧ (q.1 = 2 → 0 ≤ q.2)
def sv (ad : Adr) (st : List Vl) : List Value := st.map (fun q => vv ad q.1 q.2)
/-- bytes, class, depth, locals, kind of the answer -/
abbrev Md : Type := ByteArray × String × Nat × Nat × Option FieldType
abbrev Cx : Type := Program × Launch × Env × State × MethodId × Array Value × List Frame × Method × Code × va_G × Adr × Shp × (Int → Mem → Prop) × (Nat → Prop) × Room × Nat × Nat × (State → Prop)
def rk (r : Option FieldType) : Nat := match r with
  | none => 3
  | some .long => 1
  | some (.object _) => 2
  | some (.array _) => 2
  | some _ => 0
def WP (M : Md) (Γ : Cx) (pc : Nat) (env : Ev) (st : List Vl) (μ : Mem) : Prop := match Γ with
  | (p, l, e, s, m, args, below, meth, c, D, ad, sh, F, A, R, nc, ns, Q) => ∀ H locs ls, va_P D vwCl (wsO ad sh μ) H → mok sh μ → va_S A s.heap H locs → eok ad sh.length env ls → env.length = M.2.2.2.1 → sok sh.length st →
    W p l e R s m args below meth c H locs nc ns Q (F0 m pc ls (sv ad st))
def CK (M : Md) (Γ : Cx) : Prop := match Γ with
  | (p, l, e, s, m, args, below, meth, c, D, ad, sh, F, A, R, nc, ns, Q) => p.tables.exec = Jvm.exec ∧ c.code = M.1 ∧ c.maxLocals = M.2.2.2.1 ∧ s.vm.findClass M.2.1 = some m.cls ∧ (∀ w ∈ tbl, w.before args s = true) ∧ (∀ μ, va_D A (wsO ad sh μ)) ∧ va_K D vwCl [] s ∧ (∀ k q, sh[k]? = some q → 100 ≤ q.1 → va_K D vwCl [(ad2 ad k, aty q.1)] s) ∧ meth.sig.returnType = M.2.2.2.2 ∧ meth.locks = false ∧ ad.length = sh.length ∧ SKx A s s.heap ∧ (M.2.2.1 ≤ R.frames ∧ 64 * M.2.2.1 ≤ R.locals ∧ nc ≤ R.cells ∧ ns ≤ R.slots) ∧ ((∃ v μ, F v μ) → A = Aof ad sh ∧ Q = MQ below (Qx D ad sh (rk M.2.2.2.2) F) args s nc ns (Aof ad sh))
def cs (Γ : Cx) : Shp := Γ.2.2.2.2.2.2.2.2.2.2.2.1
def cF (Γ : Cx) : Int → Mem → Prop := Γ.2.2.2.2.2.2.2.2.2.2.2.2.1
theorem sok_t {n : Nat} {st : List Vl} {t : Nat} {v : Int} (h : sok n ((t, v) :: st)) : t < 3 ∧ rg n t v ∧ (t = 2 → 0 ≤ v) := h (t, v) List.mem_cons_self
theorem sok_d {n : Nat} {st : List Vl} {q : Vl} (h : sok n (q :: st)) : sok n st := fun x hx => h x (List.mem_cons_of_mem _ hx)
theorem sok_c {n : Nat} {st : List Vl} {t : Nat} {v : Int} (h : sok n st) (h1 : t < 3) (h2 : rg n t v) (h3 : t = 2 → 0 ≤ v) : sok n ((t, v) :: st) := by
  intro q hq
  rcases List.mem_cons.mp hq with rfl | hq
  · exact ⟨h1, h2, h3⟩
  · exact h q hq
theorem sok_i {n : Nat} {st : List Vl} {v : Int} (h : sok n st) (h2 : rg n 0 v) : sok n ((0, v) :: st) := sok_c h (by omega) h2 (by omega)
theorem sok_l {n : Nat} {st : List Vl} {v : Int} (h : sok n st) (h2 : rg n 1 v) : sok n ((1, v) :: st) := sok_c h (by omega) h2 (by omega)
theorem vv_ref {ad : Adr} {v : Int} (h : 0 ≤ v) : vv ad 2 v = .ref (ad1 ad v.toNat) := by
  show (if v < 0 then Value.null else _) = _
  rw [if_neg (by omega)]
section RU
variable {M : Md} {Γ : Cx} {pc : Nat} {env : Ev} {st : List Vl} {μ : Mem}
/-- a number pushed -/
theorem r_iconst (G : CK M Γ) {n : Int} (hd : decode M.1 pc = .ok (.iconst n, 1)) (hr : -2147483648 ≤ n ∧ n < 2147483648) (k : WP M Γ (pc + 1) env ((0, n) :: st) μ) : WP M Γ pc env st μ := by
  obtain ⟨p, l, e, s, m, args, below, meth, c, D, ad, sh, F, A, R, nc, ns, Q⟩ := Γ
  obtain ⟨hx, hb, hml, hown, hts, hD, hK, hKa, hrt, hlk, hal, hsk, hR, hQ⟩ := G
  intro H locs ls hP hM hS hE hn hst
  exact lv_iconst hx hb hd rfl (k H locs ls hP hM hS hE hn (sok_i hst hr))
theorem r_bipush (G : CK M Γ) {n : Int} (hd : decode M.1 pc = .ok (.bipush n, 2)) (hr : -128 ≤ n ∧ n < 128) (k : WP M Γ (pc + 2) env ((0, n) :: st) μ) : WP M Γ pc env st μ := by
  obtain ⟨p, l, e, s, m, args, below, meth, c, D, ad, sh, F, A, R, nc, ns, Q⟩ := Γ
  obtain ⟨hx, hb, hml, hown, hts, hD, hK, hKa, hrt, hlk, hal, hsk, hR, hQ⟩ := G
  intro H locs ls hP hM hS hE hn hst
  have hv : (Int8.ofInt n).toInt32 = Int32.ofInt n := by
    apply i32_of
    rw [Int8.toInt_toInt32, Int8.toInt_ofInt, Int.bmod_def]
    simp only [Int8.size]
    omega
  exact lv_bipush hx hb hd hv (k H locs ls hP hM hS hE hn (sok_i hst ⟨by omega, by omega⟩))
theorem r_sipush (G : CK M Γ) {n : Int} (hd : decode M.1 pc = .ok (.sipush n, 3)) (hr : -32768 ≤ n ∧ n < 32768) (k : WP M Γ (pc + 3) env ((0, n) :: st) μ) : WP M Γ pc env st μ := by
  obtain ⟨p, l, e, s, m, args, below, meth, c, D, ad, sh, F, A, R, nc, ns, Q⟩ := Γ
  obtain ⟨hx, hb, hml, hown, hts, hD, hK, hKa, hrt, hlk, hal, hsk, hR, hQ⟩ := G
  intro H locs ls hP hM hS hE hn hst
  have hv : (Int16.ofInt n).toInt32 = Int32.ofInt n := by
    apply i32_of
    rw [Int16.toInt_toInt32, Int16.toInt_ofInt, Int.bmod_def]
    simp only [Int16.size]
    omega
  exact lv_sipush hx hb hd hv (k H locs ls hP hM hS hE hn (sok_i hst ⟨by omega, by omega⟩))
theorem r_ldc (G : CK M Γ) {i : Nat} {n : Int} (hd : decode M.1 pc = .ok (.ldc i, 2)) (hw : Cond.constant M.2.1 i (Int32.ofInt n) ∈ tbl) (hr : -2147483648 ≤ n ∧ n < 2147483648) (k : WP M Γ (pc + 2) env ((0, n) :: st) μ) : WP M Γ pc env st μ := by
  obtain ⟨p, l, e, s, m, args, below, meth, c, D, ad, sh, F, A, R, nc, ns, Q⟩ := Γ
  obtain ⟨hx, hb, hml, hown, hts, hD, hK, hKa, hrt, hlk, hal, hsk, hR, hQ⟩ := G
  intro H locs ls hP hM hS hE hn hst
  exact lv_ldc hx hb hown (hts _ hw) hd (k H locs ls hP hM hS hE hn (sok_i hst hr))
theorem r_ldc2 (G : CK M Γ) {i : Nat} {n : Int} (hd : decode M.1 pc = .ok (.ldc2_w i, 3)) (hw : Cond.constantLong M.2.1 i (Int64.ofInt n) ∈ tbl) (hr : -9223372036854775808 ≤ n ∧ n < 9223372036854775808) (k : WP M Γ (pc + 3) env ((1, n) :: st) μ) : WP M Γ pc env st μ := by
  obtain ⟨p, l, e, s, m, args, below, meth, c, D, ad, sh, F, A, R, nc, ns, Q⟩ := Γ
  obtain ⟨hx, hb, hml, hown, hts, hD, hK, hKa, hrt, hlk, hal, hsk, hR, hQ⟩ := G
  intro H locs ls hP hM hS hE hn hst
  exact lv_ldc2 hx hb hown (hts _ hw) hd (k H locs ls hP hM hS hE hn (sok_l hst hr))
theorem r_lconst (G : CK M Γ) {j : Fin 2} {n : Int} (hd : decode M.1 pc = .ok (.lconst j, 1)) (hj : ((j : Nat) : Int) = n) (k : WP M Γ (pc + 1) env ((1, n) :: st) μ) : WP M Γ pc env st μ := by
  obtain ⟨p, l, e, s, m, args, below, meth, c, D, ad, sh, F, A, R, nc, ns, Q⟩ := Γ
  obtain ⟨hx, hb, hml, hown, hts, hD, hK, hKa, hrt, hlk, hal, hsk, hR, hQ⟩ := G
  intro H locs ls hP hM hS hE hn hst
  have h2 := j.isLt
  exact lv_lconst hx hb hd (by rw [← hj]; rfl) (k H locs ls hP hM hS hE hn (sok_l hst ⟨by omega, by omega⟩))
/-- a local read -/
theorem r_iload_n (G : CK M Γ) {j : Fin 4} {i : Nat} {v : Int} (hd : decode M.1 pc = .ok (.iload_n j, 1)) (hj : (j : Nat) = i) (hi : env[i]? = some (0, v)) (k : WP M Γ (pc + 1) env ((0, v) :: st) μ) : WP M Γ pc env st μ := by
  obtain ⟨p, l, e, s, m, args, below, meth, c, D, ad, sh, F, A, R, nc, ns, Q⟩ := Γ
  obtain ⟨hx, hb, hml, hown, hts, hD, hK, hKa, hrt, hlk, hal, hsk, hR, hQ⟩ := G
  intro H locs ls hP hM hS hE hn hst
  obtain ⟨h1, h2, h3⟩ := hE.2.2 i 0 v hi (by omega)
  exact lv_iload_n hx hb hd hj h3 (k H locs ls hP hM hS hE hn (sok_i hst h1))
theorem r_iload (G : CK M Γ) {i : Nat} {v : Int} (hd : decode M.1 pc = .ok (.iload i, 2)) (hi : env[i]? = some (0, v)) (k : WP M Γ (pc + 2) env ((0, v) :: st) μ) : WP M Γ pc env st μ := by
  obtain ⟨p, l, e, s, m, args, below, meth, c, D, ad, sh, F, A, R, nc, ns, Q⟩ := Γ
  obtain ⟨hx, hb, hml, hown, hts, hD, hK, hKa, hrt, hlk, hal, hsk, hR, hQ⟩ := G
  intro H locs ls hP hM hS hE hn hst
  obtain ⟨h1, h2, h3⟩ := hE.2.2 i 0 v hi (by omega)
  exact lv_iload hx hb hd h3 (k H locs ls hP hM hS hE hn (sok_i hst h1))
theorem r_lload_n (G : CK M Γ) {j : Fin 4} {i : Nat} {v : Int} (hd : decode M.1 pc = .ok (.lload_n j, 1)) (hj : (j : Nat) = i) (hi : env[i]? = some (1, v)) (k : WP M Γ (pc + 1) env ((1, v) :: st) μ) : WP M Γ pc env st μ := by
  obtain ⟨p, l, e, s, m, args, below, meth, c, D, ad, sh, F, A, R, nc, ns, Q⟩ := Γ
  obtain ⟨hx, hb, hml, hown, hts, hD, hK, hKa, hrt, hlk, hal, hsk, hR, hQ⟩ := G
  intro H locs ls hP hM hS hE hn hst
  obtain ⟨h1, h2, h3⟩ := hE.2.2 i 1 v hi (by omega)
  exact lv_lload_n hx hb hd hj h3 (k H locs ls hP hM hS hE hn (sok_l hst h1))
theorem r_lload (G : CK M Γ) {i : Nat} {v : Int} (hd : decode M.1 pc = .ok (.lload i, 2)) (hi : env[i]? = some (1, v)) (k : WP M Γ (pc + 2) env ((1, v) :: st) μ) : WP M Γ pc env st μ := by
  obtain ⟨p, l, e, s, m, args, below, meth, c, D, ad, sh, F, A, R, nc, ns, Q⟩ := Γ
  obtain ⟨hx, hb, hml, hown, hts, hD, hK, hKa, hrt, hlk, hal, hsk, hR, hQ⟩ := G
  intro H locs ls hP hM hS hE hn hst
  obtain ⟨h1, h2, h3⟩ := hE.2.2 i 1 v hi (by omega)
  exact lv_lload hx hb hd h3 (k H locs ls hP hM hS hE hn (sok_l hst h1))
theorem r_aload_n (G : CK M Γ) {j : Fin 4} {i : Nat} {v : Int} (hd : decode M.1 pc = .ok (.aload_n j, 1)) (hj : (j : Nat) = i) (hi : env[i]? = some (2, v)) (k : WP M Γ (pc + 1) env ((2, v) :: st) μ) : WP M Γ pc env st μ := by
  obtain ⟨p, l, e, s, m, args, below, meth, c, D, ad, sh, F, A, R, nc, ns, Q⟩ := Γ
  obtain ⟨hx, hb, hml, hown, hts, hD, hK, hKa, hrt, hlk, hal, hsk, hR, hQ⟩ := G
  intro H locs ls hP hM hS hE hn hst
  obtain ⟨h1, h2, h3⟩ := hE.2.2 i 2 v hi (by omega)
  have k1 := k H locs ls hP hM hS hE hn (sok_c hst (by omega) h1 h2)
  rw [vv_ref (h2 rfl)] at h3
  refine lv_aload_n hx hb hd hj h3 ?_
  rw [← vv_ref (h2 rfl)]
  exact k1
theorem r_aload (G : CK M Γ) {i : Nat} {v : Int} (hd : decode M.1 pc = .ok (.aload i, 2)) (hi : env[i]? = some (2, v)) (k : WP M Γ (pc + 2) env ((2, v) :: st) μ) : WP M Γ pc env st μ := by
  obtain ⟨p, l, e, s, m, args, below, meth, c, D, ad, sh, F, A, R, nc, ns, Q⟩ := Γ
  obtain ⟨hx, hb, hml, hown, hts, hD, hK, hKa, hrt, hlk, hal, hsk, hR, hQ⟩ := G
  intro H locs ls hP hM hS hE hn hst
  obtain ⟨h1, h2, h3⟩ := hE.2.2 i 2 v hi (by omega)
  have k1 := k H locs ls hP hM hS hE hn (sok_c hst (by omega) h1 h2)
  rw [vv_ref (h2 rfl)] at h3
  refine lv_aload hx hb hd h3 ?_
  rw [← vv_ref (h2 rfl)]
  exact k1
end RU
