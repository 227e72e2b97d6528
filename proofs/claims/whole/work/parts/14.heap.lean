/-! fields, arrays, returns -/
def FL (own : String) (idx ci j t : Nat) : Prop := ∃ (C : String) (T : u_T) (N : Nat), vwCl[ci]? = some (C, T, N) ∧ j < N ∧ (∀ w ∈ u_ws C T N, w ∈ tbl) ∧ Cond.fieldLink own idx (T j).1 (T j).2.1 (T j).2.2.1 ∈ tbl ∧ (ftab.getD ci [])[j]? = some t ∧ ci < 100 ∧ t < 3
def FP (own : String) (idx ci j t : Nat) (ty : FieldType) : Prop := ∃ (C : String) (T : u_T) (N : Nat) (ty0 : Nat → FieldType), vwCl[ci]? = some (C, T, N) ∧ j < N ∧ (∀ w ∈ u_ws C T N, w ∈ tbl) ∧ Cond.fieldLink own idx (T j).1 (T j).2.1 (T j).2.2.1 ∈ tbl ∧ (ftab.getD ci [])[j]? = some t ∧ ci < 100 ∧ t < 3 ∧ (∀ k, k < N → parseFieldDescriptor (T k).2.2.1 = some (ty0 k)) ∧ (∀ a, a < N → ∀ b, b < N → a ≠ b → (T a).2.1 ≠ (T b).2.1) ∧ (T j).2.2.2 = false ∧ parseFieldDescriptor (T j).2.2.1 = some ty
/-- what may be put into a field of that type -/
def okv (ty : FieldType) (t : Nat) (v : Int) : Prop := match ty with
  | .int => t = 0
  | .long => t = 1
  | .boolean => t = 0 ∧ (v = 0 ∨ v = 1)
  | .object _ => t = 2 ∧ 0 ≤ v
  | _ => False
theorem okv_n {ad : Adr} {ty : FieldType} {t : Nat} {v : Int} (h : okv ty t v) : narrow ty (vv ad t v) = vv ad t v ∧ fits ty (vv ad t v) = true := by
  cases ty <;> simp only [okv] at h
  · subst h; exact ⟨rfl, rfl⟩
  · subst h; exact ⟨rfl, rfl⟩
  · obtain ⟨rfl, h⟩ := h
    rcases h with rfl | rfl <;> exact ⟨rfl, rfl⟩
  · obtain ⟨rfl, h⟩ := h
    rw [vv_ref h]
    exact ⟨rfl, rfl⟩
theorem mapIdx_set {ad : Adr} {L : List Nat} {f : Nat → Int} {j t : Nat} {v : Int} (h : L[j]? = some t) : (L.mapIdx (fun i t => vv ad t (f i))).set j (vv ad t v) = L.mapIdx (fun i t => vv ad t (if i = j then v else f i)) := by
  have hl := (List.getElem?_eq_some_iff.mp h).1
  apply List.ext_getElem?
  intro i
  by_cases hi : i = j
  · subst hi
    rw [List.getElem?_set_self (by rw [List.length_mapIdx]; exact hl), List.getElem?_mapIdx, h]
    simp
  · rw [List.getElem?_set_ne (Ne.symm hi), List.getElem?_mapIdx, List.getElem?_mapIdx]
    simp [hi]
theorem cE_obj {ad : Adr} {k ci n : Nat} {f : Nat → Int} (h : ci < 100) : cE ad k (ci, n) f = .inr (ci, (ftab.getD ci []).mapIdx (fun j t => vv ad t (f j))) := by
  unfold cE
  rw [if_pos h]
theorem sty_obj {ci n j t : Nat} (h : ci < 100) (hj : (ftab.getD ci [])[j]? = some t) : sty (ci, n) j = t := by
  unfold sty
  rw [if_pos h]
  simp only [List.getD_eq_getElem?_getD] at hj ⊢
  rw [hj]
  rfl
theorem clampI {n : Nat} {i : Int} (h : rg n 0 i) : (Int32.ofInt i).toNatClampNeg = i.toNat := by
  show (Int32.ofInt i).toInt.toNat = i.toNat
  rw [i32_rgto h]
theorem vpin_of {n N : Nat} {i : Int} (h : rg n 0 i) (h0 : 0 ≤ i) (h1 : i < N) : vp_in (Int32.ofInt i) N := by
  rw [vp_in_iff, i32_rgto h]
  exact ⟨h0, h1⟩
theorem aof_inj {A : Nat → Prop} {ad : Adr} {sh : Shp} {μ : Mem} (hD : va_D A (wsO ad sh μ)) {a b : Nat} (ha : a < sh.length) (hb : b < sh.length) (h : ad1 ad a = ad1 ad b) : a = b :=
  hD.1 a b _ _ (wsO_at (List.getElem?_eq_getElem ha)) (wsO_at (List.getElem?_eq_getElem hb)) h
section RU
variable {M : Md} {Γ : Cx} {pc : Nat} {env : Ev} {st : List Vl} {μ : Mem}
theorem r_getf (G : CK M Γ) {idx ci j t : Nat} (hf : FL M.2.1 idx ci j t) (hd : decode M.1 pc = .ok (.getfield idx, 3)) {a : Int} {nn : Nat} (hs : (cs Γ)[a.toNat]? = some (ci, nn)) (h0 : t = 2 → 0 ≤ μ a.toNat j) (k : WP M Γ (pc + 3) env ((t, μ a.toNat j) :: st) μ) : WP M Γ pc env ((2, a) :: st) μ := by
  obtain ⟨p, l, e, s, m, args, below, meth, c, D, ad, sh, F, A, R, nc, ns, Q⟩ := Γ
  obtain ⟨hx, hb, hml, hown, hts, hD, hK, hKa, hrt, hlk, hal, hsk, hR, hQ⟩ := G
  intro H locs ls hP hM hS hE hn hst
  obtain ⟨C, T, N, g1, g2, g3, g4, g5, g6, g7⟩ := hf
  obtain ⟨-, -, ha2⟩ := sok_t hst
  have hs : sh[a.toNat]? = some (ci, nn) := hs
  show W _ _ _ _ _ _ _ _ _ _ _ _ _ _ _ (F0 m pc ls (vv ad 2 a :: sv ad st))
  rw [vv_ref (ha2 rfl)]
  have hrg := hM a.toNat _ hs j
  rw [sty_obj g6 g5] at hrg
  exact va_get (D := D) hx hb hts g3 hown hK hP a.toNat (by rw [wsO_at hs, cE_obj g6]) g1 j g2 (hts _ g4) (fun _ h9 => h9) (by rw [List.getElem?_mapIdx, g5]; rfl) hd (k H locs ls hP hM hS hE hn (sok_c (sok_d hst) g7 hrg h0))
theorem r_putf (G : CK M Γ) {idx ci j t : Nat} {ty : FieldType} (hf : FP M.2.1 idx ci j t ty) (hd : decode M.1 pc = .ok (.putfield idx, 3)) {a v : Int} {nn : Nat} (hs : (cs Γ)[a.toNat]? = some (ci, nn)) (hv : okv ty t v) (k : WP M Γ (pc + 3) env st (ud μ a.toNat j v)) : WP M Γ pc env ((t, v) :: (2, a) :: st) μ := by
  obtain ⟨p, l, e, s, m, args, below, meth, c, D, ad, sh, F, A, R, nc, ns, Q⟩ := Γ
  obtain ⟨hx, hb, hml, hown, hts, hD, hK, hKa, hrt, hlk, hal, hsk, hR, hQ⟩ := G
  intro H locs ls hP hM hS hE hn hst
  obtain ⟨C, T, N, ty0, g1, g2, g3, g4, g5, g6, g7, g8, g9, g10, g11⟩ := hf
  obtain ⟨-, -, ha2⟩ := sok_t (sok_d hst)
  obtain ⟨-, hv1, hv2⟩ := sok_t hst
  have hs : sh[a.toNat]? = some (ci, nn) := hs
  show W _ _ _ _ _ _ _ _ _ _ _ _ _ _ _ (F0 m pc ls (vv ad t v :: vv ad 2 a :: sv ad st))
  rw [vv_ref (ha2 rfl)]
  have hst2 := sok_d (sok_d hst)
  have hl := (List.getElem?_eq_some_iff.mp g5).1
  refine va_put (D := D) hx hb hts g3 ty0 g8 g9 hown hK hP (hD μ) hS a.toNat (by rw [wsO_at hs, cE_obj g6]) g1 j g2 (hts _ g4) (fun _ h9 => h9) g10 g11 (okv_n hv).1 (okv_n hv).2 (by rw [List.length_mapIdx]; exact hl) hd (fun H1 locs1 hP1 hD1 hS1 => ?_)
  have e1 := wsO_set (ad := ad) (μ := μ) hs j v (E := .inr (ci, ((ftab.getD ci []).mapIdx (fun j t => vv ad t (μ a.toNat j))).set j (vv ad t v))) (by rw [cE_obj g6, mapIdx_set g5, ud_k])
  rw [e1] at hP1
  exact k H1 locs1 ls hP1 (mok_ud hM (fun q hq => by rw [hs] at hq; cases hq; rw [sty_obj g6 g5]; exact hv1)) hS1 hE hn hst2
theorem r_iald (G : CK M Γ) (hd : decode M.1 pc = .ok (.iaload, 1)) {a i : Int} {n : Nat} (hs : (cs Γ)[a.toNat]? = some (100, n)) (h0 : 0 ≤ i) (h1 : i < n) (k : WP M Γ (pc + 1) env ((0, μ a.toNat i.toNat) :: st) μ) : WP M Γ pc env ((0, i) :: (2, a) :: st) μ := by
  obtain ⟨p, l, e, s, m, args, below, meth, c, D, ad, sh, F, A, R, nc, ns, Q⟩ := Γ
  obtain ⟨hx, hb, hml, hown, hts, hD, hK, hKa, hrt, hlk, hal, hsk, hR, hQ⟩ := G
  intro H locs ls hP hM hS hE hn hst
  obtain ⟨-, -, ha2⟩ := sok_t (sok_d hst)
  obtain ⟨-, hi1, -⟩ := sok_t hst
  have hs : sh[a.toNat]? = some (100, n) := hs
  show W _ _ _ _ _ _ _ _ _ _ _ _ _ _ _ (F0 m pc ls (.int (Int32.ofInt i) :: vv ad 2 a :: sv ad st))
  rw [vv_ref (ha2 rfl)]
  have hrg := hM a.toNat _ hs i.toNat
  have k1 := k H locs ls hP hM hS hE hn (sok_i (sok_d (sok_d hst)) hrg)
  have e1 : (wsO ad sh μ)[a.toNat]? = some (ad1 ad a.toNat, .inl (ad2 ad a.toNat, n, .inl (fun j => Int32.ofInt (μ a.toNat j)))) := by rw [wsO_at hs]; rfl
  refine va_iald (D := D) hx hb (hKa _ _ hs (Nat.le_of_ble_eq_true rfl)) hP a.toNat 0 e1 rfl (vpin_of hi1 h0 h1) hd ?_
  rw [clampI hi1]
  exact k1
theorem r_cald (G : CK M Γ) (hd : decode M.1 pc = .ok (.caload, 1)) {a i : Int} {n : Nat} (hs : (cs Γ)[a.toNat]? = some (102, n)) (h0 : 0 ≤ i) (h1 : i < n) (k : WP M Γ (pc + 1) env ((0, μ a.toNat i.toNat) :: st) μ) : WP M Γ pc env ((0, i) :: (2, a) :: st) μ := by
  obtain ⟨p, l, e, s, m, args, below, meth, c, D, ad, sh, F, A, R, nc, ns, Q⟩ := Γ
  obtain ⟨hx, hb, hml, hown, hts, hD, hK, hKa, hrt, hlk, hal, hsk, hR, hQ⟩ := G
  intro H locs ls hP hM hS hE hn hst
  obtain ⟨-, -, ha2⟩ := sok_t (sok_d hst)
  obtain ⟨-, hi1, -⟩ := sok_t hst
  have hs : sh[a.toNat]? = some (102, n) := hs
  show W _ _ _ _ _ _ _ _ _ _ _ _ _ _ _ (F0 m pc ls (.int (Int32.ofInt i) :: vv ad 2 a :: sv ad st))
  rw [vv_ref (ha2 rfl)]
  have hrg := hM a.toNat _ hs i.toNat
  have k1 := k H locs ls hP hM hS hE hn (sok_i (sok_d (sok_d hst)) hrg)
  have e1 : (wsO ad sh μ)[a.toNat]? = some (ad1 ad a.toNat, .inl (ad2 ad a.toNat, n, .inl (fun j => Int32.ofInt (μ a.toNat j)))) := by rw [wsO_at hs]; rfl
  refine va_cald (D := D) hx hb (hKa _ _ hs (Nat.le_of_ble_eq_true rfl)) hP a.toNat 0 e1 rfl (vpin_of hi1 h0 h1) hd ?_
  rw [clampI hi1]
  exact k1
theorem r_bald (G : CK M Γ) (hd : decode M.1 pc = .ok (.baload, 1)) {a i : Int} {n : Nat} (hs : (cs Γ)[a.toNat]? = some (103, n)) (h0 : 0 ≤ i) (h1 : i < n) (k : WP M Γ (pc + 1) env ((0, μ a.toNat i.toNat) :: st) μ) : WP M Γ pc env ((0, i) :: (2, a) :: st) μ := by
  obtain ⟨p, l, e, s, m, args, below, meth, c, D, ad, sh, F, A, R, nc, ns, Q⟩ := Γ
  obtain ⟨hx, hb, hml, hown, hts, hD, hK, hKa, hrt, hlk, hal, hsk, hR, hQ⟩ := G
  intro H locs ls hP hM hS hE hn hst
  obtain ⟨-, -, ha2⟩ := sok_t (sok_d hst)
  obtain ⟨-, hi1, -⟩ := sok_t hst
  have hs : sh[a.toNat]? = some (103, n) := hs
  show W _ _ _ _ _ _ _ _ _ _ _ _ _ _ _ (F0 m pc ls (.int (Int32.ofInt i) :: vv ad 2 a :: sv ad st))
  rw [vv_ref (ha2 rfl)]
  have hrg := hM a.toNat _ hs i.toNat
  have k1 := k H locs ls hP hM hS hE hn (sok_i (sok_d (sok_d hst)) hrg)
  have e1 : (wsO ad sh μ)[a.toNat]? = some (ad1 ad a.toNat, .inl (ad2 ad a.toNat, n, .inl (fun j => Int32.ofInt (μ a.toNat j)))) := by rw [wsO_at hs]; rfl
  refine va_bald (D := D) hx hb (hKa _ _ hs (Nat.le_of_ble_eq_true rfl)) hP a.toNat 0 e1 rfl (vpin_of hi1 h0 h1) hd ?_
  rw [clampI hi1]
  exact k1
theorem r_zald (G : CK M Γ) (hd : decode M.1 pc = .ok (.baload, 1)) {a i : Int} {n : Nat} (hs : (cs Γ)[a.toNat]? = some (104, n)) (h0 : 0 ≤ i) (h1 : i < n) (k : WP M Γ (pc + 1) env ((0, μ a.toNat i.toNat) :: st) μ) : WP M Γ pc env ((0, i) :: (2, a) :: st) μ := by
  obtain ⟨p, l, e, s, m, args, below, meth, c, D, ad, sh, F, A, R, nc, ns, Q⟩ := Γ
  obtain ⟨hx, hb, hml, hown, hts, hD, hK, hKa, hrt, hlk, hal, hsk, hR, hQ⟩ := G
  intro H locs ls hP hM hS hE hn hst
  obtain ⟨-, -, ha2⟩ := sok_t (sok_d hst)
  obtain ⟨-, hi1, -⟩ := sok_t hst
  have hs : sh[a.toNat]? = some (104, n) := hs
  show W _ _ _ _ _ _ _ _ _ _ _ _ _ _ _ (F0 m pc ls (.int (Int32.ofInt i) :: vv ad 2 a :: sv ad st))
  rw [vv_ref (ha2 rfl)]
  have hrg := hM a.toNat _ hs i.toNat
  have k1 := k H locs ls hP hM hS hE hn (sok_i (sok_d (sok_d hst)) hrg)
  have e1 : (wsO ad sh μ)[a.toNat]? = some (ad1 ad a.toNat, .inl (ad2 ad a.toNat, n, .inl (fun j => Int32.ofInt (μ a.toNat j)))) := by rw [wsO_at hs]; rfl
  refine va_zald (D := D) hx hb (hKa _ _ hs (Nat.le_of_ble_eq_true rfl)) hP a.toNat 0 e1 rfl (vpin_of hi1 h0 h1) hd ?_
  rw [clampI hi1]
  exact k1
theorem r_lald (G : CK M Γ) (hd : decode M.1 pc = .ok (.laload, 1)) {a i : Int} {n : Nat} (hs : (cs Γ)[a.toNat]? = some (101, n)) (h0 : 0 ≤ i) (h1 : i < n) (k : WP M Γ (pc + 1) env ((1, μ a.toNat i.toNat) :: st) μ) : WP M Γ pc env ((0, i) :: (2, a) :: st) μ := by
  obtain ⟨p, l, e, s, m, args, below, meth, c, D, ad, sh, F, A, R, nc, ns, Q⟩ := Γ
  obtain ⟨hx, hb, hml, hown, hts, hD, hK, hKa, hrt, hlk, hal, hsk, hR, hQ⟩ := G
  intro H locs ls hP hM hS hE hn hst
  obtain ⟨-, -, ha2⟩ := sok_t (sok_d hst)
  obtain ⟨-, hi1, -⟩ := sok_t hst
  have hs : sh[a.toNat]? = some (101, n) := hs
  show W _ _ _ _ _ _ _ _ _ _ _ _ _ _ _ (F0 m pc ls (.int (Int32.ofInt i) :: vv ad 2 a :: sv ad st))
  rw [vv_ref (ha2 rfl)]
  have hrg := hM a.toNat _ hs i.toNat
  have k1 := k H locs ls hP hM hS hE hn (sok_l (sok_d (sok_d hst)) hrg)
  have e1 : (wsO ad sh μ)[a.toNat]? = some (ad1 ad a.toNat, .inl (ad2 ad a.toNat, n, .inr (.inl (fun j => Int64.ofInt (μ a.toNat j))))) := by rw [wsO_at hs]; rfl
  refine va_lald (D := D) hx hb (hKa _ _ hs (Nat.le_of_ble_eq_true rfl)) hP a.toNat 0 e1 rfl (vpin_of hi1 h0 h1) hd ?_
  rw [clampI hi1]
  exact k1
theorem r_aald (G : CK M Γ) (hd : decode M.1 pc = .ok (.aaload, 1)) {a i : Int} {n ci : Nat} (hs : (cs Γ)[a.toNat]? = some (110 + ci, n)) (h0 : 0 ≤ i) (h1 : i < n) (hnn : 0 ≤ μ a.toNat i.toNat) (k : WP M Γ (pc + 1) env ((2, μ a.toNat i.toNat) :: st) μ) : WP M Γ pc env ((0, i) :: (2, a) :: st) μ := by
  obtain ⟨p, l, e, s, m, args, below, meth, c, D, ad, sh, F, A, R, nc, ns, Q⟩ := Γ
  obtain ⟨hx, hb, hml, hown, hts, hD, hK, hKa, hrt, hlk, hal, hsk, hR, hQ⟩ := G
  intro H locs ls hP hM hS hE hn hst
  obtain ⟨-, -, ha2⟩ := sok_t (sok_d hst)
  obtain ⟨-, hi1, -⟩ := sok_t hst
  have hs : sh[a.toNat]? = some (110 + ci, n) := hs
  show W _ _ _ _ _ _ _ _ _ _ _ _ _ _ _ (F0 m pc ls (.int (Int32.ofInt i) :: vv ad 2 a :: sv ad st))
  rw [vv_ref (ha2 rfl)]
  have hrg := hM a.toNat _ hs i.toNat
  have e2 : sty (110 + ci, n) i.toNat = 2 := by
    unfold sty
    rw [if_neg (by simp only; omega), if_neg (by simp only; omega), if_neg (by simp only; omega)]
  rw [e2] at hrg
  have k1 := k H locs ls hP hM hS hE hn (sok_c (sok_d (sok_d hst)) (by omega) hrg (fun _ => hnn))
  have e1 : (wsO ad sh μ)[a.toNat]? = some (ad1 ad a.toNat, .inl (ad2 ad a.toNat, n, .inr (.inr (.inr (.inr (fun j => if μ a.toNat j < 0 then none else some (ad1 ad (μ a.toNat j).toNat))))))) := by
    rw [wsO_at hs]
    unfold cE
    rw [if_neg (by simp only; omega), if_neg (by simp only; omega), if_neg (by simp only; omega)]
  have e3 : aty (110 + ci) = .object ((vwCl.getD ci ("", TX0, 0)).1) := by
    unfold aty
    split <;> first | omega | skip
    rename_i h
    simp
  have hK2 := hKa _ _ hs (by simp only; omega)
  simp only at hK2
  rw [e3] at hK2
  refine va_aldq (D := D) hx hb hK2 hP a.toNat 0 e1 rfl (vpin_of hi1 h0 h1) hd ?_
  rw [clampI hi1]
  show W _ _ _ _ _ _ _ _ _ _ _ _ _ _ _ (F0 m (pc + 1) ls (va_rf (if μ a.toNat i.toNat < 0 then none else some (ad1 ad (μ a.toNat i.toNat).toNat)) :: sv ad st))
  rw [if_neg (by omega)]
  show W _ _ _ _ _ _ _ _ _ _ _ _ _ _ _ (F0 m (pc + 1) ls (.ref (ad1 ad (μ a.toNat i.toNat).toNat) :: sv ad st))
  rw [← vv_ref hnn]
  exact k1
theorem r_alen (G : CK M Γ) (hd : decode M.1 pc = .ok (.arraylength, 1)) {a : Int} {kd n : Nat} (hs : (cs Γ)[a.toNat]? = some (kd, n)) (hk : 100 ≤ kd) (hn2 : (n : Int) < 2147483648) (k : WP M Γ (pc + 1) env ((0, (n : Int)) :: st) μ) : WP M Γ pc env ((2, a) :: st) μ := by
  obtain ⟨p, l, e, s, m, args, below, meth, c, D, ad, sh, F, A, R, nc, ns, Q⟩ := Γ
  obtain ⟨hx, hb, hml, hown, hts, hD, hK, hKa, hrt, hlk, hal, hsk, hR, hQ⟩ := G
  intro H locs ls hP hM hS hE hn hst
  obtain ⟨-, -, ha2⟩ := sok_t hst
  have hs : sh[a.toNat]? = some (kd, n) := hs
  show W _ _ _ _ _ _ _ _ _ _ _ _ _ _ _ (F0 m pc ls (vv ad 2 a :: sv ad st))
  rw [vv_ref (ha2 rfl)]
  have k1 := k H locs ls hP hM hS hE hn (sok_i (sok_d hst) ⟨by omega, hn2⟩)
  have e1 : ∃ x : vp_A, x.1 = n ∧ (wsO ad sh μ)[a.toNat]? = some (ad1 ad a.toNat, .inl (ad2 ad a.toNat, x)) := by
    rw [wsO_at hs]
    unfold cE
    rw [if_neg (by simp only; omega)]
    split
    · exact ⟨_, rfl, rfl⟩
    · split
      · exact ⟨_, rfl, rfl⟩
      · exact ⟨_, rfl, rfl⟩
  obtain ⟨x, hx1, e1⟩ := e1
  refine va_alen (D := D) hx hb (hKa _ _ hs hk) hP a.toNat 0 e1 rfl (v := Int32.ofInt (n : Int)) ?_ hd k1
  rw [hx1]
  exact (Int32.ofInt_eq_ofNat).symm
theorem r_iast (G : CK M Γ) (hd : decode M.1 pc = .ok (.iastore, 1)) {a i v : Int} {n : Nat} (hs : (cs Γ)[a.toNat]? = some (100, n)) (h0 : 0 ≤ i) (h1 : i < n) (k : WP M Γ (pc + 1) env st (ud μ a.toNat i.toNat (v))) : WP M Γ pc env ((0, v) :: (0, i) :: (2, a) :: st) μ := by
  obtain ⟨p, l, e, s, m, args, below, meth, c, D, ad, sh, F, A, R, nc, ns, Q⟩ := Γ
  obtain ⟨hx, hb, hml, hown, hts, hD, hK, hKa, hrt, hlk, hal, hsk, hR, hQ⟩ := G
  intro H locs ls hP hM hS hE hn hst
  obtain ⟨-, -, ha2⟩ := sok_t (sok_d (sok_d hst))
  obtain ⟨-, hi1, -⟩ := sok_t (sok_d hst)
  obtain ⟨-, hv1, -⟩ := sok_t hst
  have hs : sh[a.toNat]? = some (100, n) := hs
  have hst2 := sok_d (sok_d (sok_d hst))
  show W _ _ _ _ _ _ _ _ _ _ _ _ _ _ _ (F0 m pc ls (vv ad 0 v :: .int (Int32.ofInt i) :: vv ad 2 a :: sv ad st))
  rw [vv_ref (ha2 rfl)]
  have e1 : (wsO ad sh μ)[a.toNat]? = some (ad1 ad a.toNat, .inl (ad2 ad a.toNat, n, .inl (fun j => Int32.ofInt (μ a.toNat j)))) := by rw [wsO_at hs]; rfl
  refine va_iast (D := D) hx hb (hKa _ _ hs (Nat.le_of_ble_eq_true rfl)) hP (hD μ) hS a.toNat 0 e1 rfl (vpin_of hi1 h0 h1) hd (fun H1 locs1 hP1 hD1 hS1 => ?_)
  rw [clampI hi1] at hP1
  rw [wsO_set (ad := ad) (μ := μ) hs i.toNat (v) ?_] at hP1
  · exact k H1 locs1 ls hP1 (mok_ud hM (fun q hq => by rw [hs] at hq; cases hq; exact hv1)) hS1 hE hn hst2
  · rw [ud_k]
    show _ = Sum.inl (ad2 ad a.toNat, n, Sum.inl (fun j => Int32.ofInt (if j = i.toNat then v else μ a.toNat j)))
    congr 4
    funext j
    show (if _ then _ else _) = _
    split
    · rfl
    · rfl
theorem r_cast (G : CK M Γ) (hd : decode M.1 pc = .ok (.castore, 1)) {a i v : Int} {n : Nat} (hs : (cs Γ)[a.toNat]? = some (102, n)) (h0 : 0 ≤ i) (h1 : i < n) (k : WP M Γ (pc + 1) env st (ud μ a.toNat i.toNat ((vp_nar .char (Int32.ofInt v)).toInt))) : WP M Γ pc env ((0, v) :: (0, i) :: (2, a) :: st) μ := by
  obtain ⟨p, l, e, s, m, args, below, meth, c, D, ad, sh, F, A, R, nc, ns, Q⟩ := Γ
  obtain ⟨hx, hb, hml, hown, hts, hD, hK, hKa, hrt, hlk, hal, hsk, hR, hQ⟩ := G
  intro H locs ls hP hM hS hE hn hst
  obtain ⟨-, -, ha2⟩ := sok_t (sok_d (sok_d hst))
  obtain ⟨-, hi1, -⟩ := sok_t (sok_d hst)
  obtain ⟨-, hv1, -⟩ := sok_t hst
  have hs : sh[a.toNat]? = some (102, n) := hs
  have hst2 := sok_d (sok_d (sok_d hst))
  show W _ _ _ _ _ _ _ _ _ _ _ _ _ _ _ (F0 m pc ls (vv ad 0 v :: .int (Int32.ofInt i) :: vv ad 2 a :: sv ad st))
  rw [vv_ref (ha2 rfl)]
  have e1 : (wsO ad sh μ)[a.toNat]? = some (ad1 ad a.toNat, .inl (ad2 ad a.toNat, n, .inl (fun j => Int32.ofInt (μ a.toNat j)))) := by rw [wsO_at hs]; rfl
  refine va_cast (D := D) hx hb (hKa _ _ hs (Nat.le_of_ble_eq_true rfl)) hP (hD μ) hS a.toNat 0 e1 rfl (vpin_of hi1 h0 h1) hd (fun H1 locs1 hP1 hD1 hS1 => ?_)
  rw [clampI hi1] at hP1
  rw [wsO_set (ad := ad) (μ := μ) hs i.toNat ((vp_nar .char (Int32.ofInt v)).toInt) ?_] at hP1
  · exact k H1 locs1 ls hP1 (mok_ud hM (fun q hq => by rw [hs] at hq; cases hq; exact i32_rg _ _)) hS1 hE hn hst2
  · rw [ud_k]
    show _ = Sum.inl (ad2 ad a.toNat, n, Sum.inl (fun j => Int32.ofInt (if j = i.toNat then (vp_nar .char (Int32.ofInt v)).toInt else μ a.toNat j)))
    congr 4
    funext j
    show (if _ then _ else _) = _
    split
    · exact i32_of rfl
    · rfl
theorem r_bast (G : CK M Γ) (hd : decode M.1 pc = .ok (.bastore, 1)) {a i v : Int} {n : Nat} (hs : (cs Γ)[a.toNat]? = some (103, n)) (h0 : 0 ≤ i) (h1 : i < n) (k : WP M Γ (pc + 1) env st (ud μ a.toNat i.toNat ((vp_nar .byte (Int32.ofInt v)).toInt))) : WP M Γ pc env ((0, v) :: (0, i) :: (2, a) :: st) μ := by
  obtain ⟨p, l, e, s, m, args, below, meth, c, D, ad, sh, F, A, R, nc, ns, Q⟩ := Γ
  obtain ⟨hx, hb, hml, hown, hts, hD, hK, hKa, hrt, hlk, hal, hsk, hR, hQ⟩ := G
  intro H locs ls hP hM hS hE hn hst
  obtain ⟨-, -, ha2⟩ := sok_t (sok_d (sok_d hst))
  obtain ⟨-, hi1, -⟩ := sok_t (sok_d hst)
  obtain ⟨-, hv1, -⟩ := sok_t hst
  have hs : sh[a.toNat]? = some (103, n) := hs
  have hst2 := sok_d (sok_d (sok_d hst))
  show W _ _ _ _ _ _ _ _ _ _ _ _ _ _ _ (F0 m pc ls (vv ad 0 v :: .int (Int32.ofInt i) :: vv ad 2 a :: sv ad st))
  rw [vv_ref (ha2 rfl)]
  have e1 : (wsO ad sh μ)[a.toNat]? = some (ad1 ad a.toNat, .inl (ad2 ad a.toNat, n, .inl (fun j => Int32.ofInt (μ a.toNat j)))) := by rw [wsO_at hs]; rfl
  refine va_bast (D := D) hx hb (hKa _ _ hs (Nat.le_of_ble_eq_true rfl)) hP (hD μ) hS a.toNat 0 e1 rfl (vpin_of hi1 h0 h1) hd (fun H1 locs1 hP1 hD1 hS1 => ?_)
  rw [clampI hi1] at hP1
  rw [wsO_set (ad := ad) (μ := μ) hs i.toNat ((vp_nar .byte (Int32.ofInt v)).toInt) ?_] at hP1
  · exact k H1 locs1 ls hP1 (mok_ud hM (fun q hq => by rw [hs] at hq; cases hq; exact i32_rg _ _)) hS1 hE hn hst2
  · rw [ud_k]
    show _ = Sum.inl (ad2 ad a.toNat, n, Sum.inl (fun j => Int32.ofInt (if j = i.toNat then (vp_nar .byte (Int32.ofInt v)).toInt else μ a.toNat j)))
    congr 4
    funext j
    show (if _ then _ else _) = _
    split
    · exact i32_of rfl
    · rfl
theorem r_zast (G : CK M Γ) (hd : decode M.1 pc = .ok (.bastore, 1)) {a i v : Int} {n : Nat} (hs : (cs Γ)[a.toNat]? = some (104, n)) (h0 : 0 ≤ i) (h1 : i < n) (k : WP M Γ (pc + 1) env st (ud μ a.toNat i.toNat ((vp_nar .boolean (Int32.ofInt v)).toInt))) : WP M Γ pc env ((0, v) :: (0, i) :: (2, a) :: st) μ := by
  obtain ⟨p, l, e, s, m, args, below, meth, c, D, ad, sh, F, A, R, nc, ns, Q⟩ := Γ
  obtain ⟨hx, hb, hml, hown, hts, hD, hK, hKa, hrt, hlk, hal, hsk, hR, hQ⟩ := G
  intro H locs ls hP hM hS hE hn hst
  obtain ⟨-, -, ha2⟩ := sok_t (sok_d (sok_d hst))
  obtain ⟨-, hi1, -⟩ := sok_t (sok_d hst)
  obtain ⟨-, hv1, -⟩ := sok_t hst
  have hs : sh[a.toNat]? = some (104, n) := hs
  have hst2 := sok_d (sok_d (sok_d hst))
  show W _ _ _ _ _ _ _ _ _ _ _ _ _ _ _ (F0 m pc ls (vv ad 0 v :: .int (Int32.ofInt i) :: vv ad 2 a :: sv ad st))
  rw [vv_ref (ha2 rfl)]
  have e1 : (wsO ad sh μ)[a.toNat]? = some (ad1 ad a.toNat, .inl (ad2 ad a.toNat, n, .inl (fun j => Int32.ofInt (μ a.toNat j)))) := by rw [wsO_at hs]; rfl
  refine va_zast (D := D) hx hb (hKa _ _ hs (Nat.le_of_ble_eq_true rfl)) hP (hD μ) hS a.toNat 0 e1 rfl (vpin_of hi1 h0 h1) hd (fun H1 locs1 hP1 hD1 hS1 => ?_)
  rw [clampI hi1] at hP1
  rw [wsO_set (ad := ad) (μ := μ) hs i.toNat ((vp_nar .boolean (Int32.ofInt v)).toInt) ?_] at hP1
  · exact k H1 locs1 ls hP1 (mok_ud hM (fun q hq => by rw [hs] at hq; cases hq; exact i32_rg _ _)) hS1 hE hn hst2
  · rw [ud_k]
    show _ = Sum.inl (ad2 ad a.toNat, n, Sum.inl (fun j => Int32.ofInt (if j = i.toNat then (vp_nar .boolean (Int32.ofInt v)).toInt else μ a.toNat j)))
    congr 4
    funext j
    show (if _ then _ else _) = _
    split
    · exact i32_of rfl
    · rfl
theorem r_last (G : CK M Γ) (hd : decode M.1 pc = .ok (.lastore, 1)) {a i v : Int} {n : Nat} (hs : (cs Γ)[a.toNat]? = some (101, n)) (h0 : 0 ≤ i) (h1 : i < n) (k : WP M Γ (pc + 1) env st (ud μ a.toNat i.toNat (v))) : WP M Γ pc env ((1, v) :: (0, i) :: (2, a) :: st) μ := by
  obtain ⟨p, l, e, s, m, args, below, meth, c, D, ad, sh, F, A, R, nc, ns, Q⟩ := Γ
  obtain ⟨hx, hb, hml, hown, hts, hD, hK, hKa, hrt, hlk, hal, hsk, hR, hQ⟩ := G
  intro H locs ls hP hM hS hE hn hst
  obtain ⟨-, -, ha2⟩ := sok_t (sok_d (sok_d hst))
  obtain ⟨-, hi1, -⟩ := sok_t (sok_d hst)
  obtain ⟨-, hv1, -⟩ := sok_t hst
  have hs : sh[a.toNat]? = some (101, n) := hs
  have hst2 := sok_d (sok_d (sok_d hst))
  show W _ _ _ _ _ _ _ _ _ _ _ _ _ _ _ (F0 m pc ls (vv ad 1 v :: .int (Int32.ofInt i) :: vv ad 2 a :: sv ad st))
  rw [vv_ref (ha2 rfl)]
  have e1 : (wsO ad sh μ)[a.toNat]? = some (ad1 ad a.toNat, .inl (ad2 ad a.toNat, n, .inr (.inl (fun j => Int64.ofInt (μ a.toNat j))))) := by rw [wsO_at hs]; rfl
  refine va_last (D := D) hx hb (hKa _ _ hs (Nat.le_of_ble_eq_true rfl)) hP (hD μ) hS a.toNat 0 e1 rfl (vpin_of hi1 h0 h1) hd (fun H1 locs1 hP1 hD1 hS1 => ?_)
  rw [clampI hi1] at hP1
  rw [wsO_set (ad := ad) (μ := μ) hs i.toNat (v) ?_] at hP1
  · exact k H1 locs1 ls hP1 (mok_ud hM (fun q hq => by rw [hs] at hq; cases hq; exact hv1)) hS1 hE hn hst2
  · rw [ud_k]
    show _ = Sum.inl (ad2 ad a.toNat, n, Sum.inr <| Sum.inl (fun j => Int64.ofInt (if j = i.toNat then v else μ a.toNat j)))
    congr 5
    funext j
    show (if _ then _ else _) = _
    split
    · rfl
    · rfl
theorem r_iret (G : CK M Γ) {v : Int} (hr : M.2.2.2.2 = some .int) (hd : decode M.1 pc = .ok (.ireturn, 1)) (k : cF Γ v μ) : WP M Γ pc env [(0, v)] μ := by
  obtain ⟨p, l, e, s, m, args, below, meth, c, D, ad, sh, F, A, R, nc, ns, Q⟩ := Γ
  obtain ⟨hx, hb, hml, hown, hts, hD, hK, hKa, hrt, hlk, hal, hsk, hR, hQ⟩ := G
  intro H locs ls hP hM hS hE hn hst
  obtain ⟨rfl, rfl⟩ := hQ ⟨_, _, k⟩
  rw [hr] at hrt
  refine W.iret hx hb hrt (fun t ht hW => ⟨v, μ, k, ?_, by rw [ht]; exact hP, hM, ?_, hS.F ht⟩) hS.2.2 hd
  · rw [hr]; rfl
  · rw [hr]; exact fun _ => (sok_t hst).2.1
theorem r_zret (G : CK M Γ) {v : Int} (hr : M.2.2.2.2 = some .boolean) (h01 : v = 0 ∨ v = 1) (hd : decode M.1 pc = .ok (.ireturn, 1)) (k : cF Γ v μ) : WP M Γ pc env [(0, v)] μ := by
  obtain ⟨p, l, e, s, m, args, below, meth, c, D, ad, sh, F, A, R, nc, ns, Q⟩ := Γ
  obtain ⟨hx, hb, hml, hown, hts, hD, hK, hKa, hrt, hlk, hal, hsk, hR, hQ⟩ := G
  intro H locs ls hP hM hS hE hn hst
  obtain ⟨rfl, rfl⟩ := hQ ⟨_, _, k⟩
  rw [hr] at hrt
  refine W.zret hx hb hrt (by rcases h01 with rfl | rfl <;> rfl) (fun t ht hW => ⟨v, μ, k, ?_, by rw [ht]; exact hP, hM, ?_, hS.F ht⟩) hS.2.2 hd
  · rw [hr]; rfl
  · rw [hr]; exact fun _ => (sok_t hst).2.1
theorem r_lret (G : CK M Γ) {v : Int} (hr : M.2.2.2.2 = some .long) (hd : decode M.1 pc = .ok (.lreturn, 1)) (k : cF Γ v μ) : WP M Γ pc env [(1, v)] μ := by
  obtain ⟨p, l, e, s, m, args, below, meth, c, D, ad, sh, F, A, R, nc, ns, Q⟩ := Γ
  obtain ⟨hx, hb, hml, hown, hts, hD, hK, hKa, hrt, hlk, hal, hsk, hR, hQ⟩ := G
  intro H locs ls hP hM hS hE hn hst
  obtain ⟨rfl, rfl⟩ := hQ ⟨_, _, k⟩
  rw [hr] at hrt
  refine W.lret hx hb hrt (fun t ht hW => ⟨v, μ, k, ?_, by rw [ht]; exact hP, hM, ?_, hS.F ht⟩) hS.2.2 hd
  · rw [hr]; rfl
  · rw [hr]; exact fun _ => (sok_t hst).2.1
theorem r_vret (G : CK M Γ) (hr : M.2.2.2.2 = none) (hd : decode M.1 pc = .ok (.return_, 1)) (k : cF Γ 0 μ) : WP M Γ pc env [] μ := by
  obtain ⟨p, l, e, s, m, args, below, meth, c, D, ad, sh, F, A, R, nc, ns, Q⟩ := Γ
  obtain ⟨hx, hb, hml, hown, hts, hD, hK, hKa, hrt, hlk, hal, hsk, hR, hQ⟩ := G
  intro H locs ls hP hM hS hE hn hst
  obtain ⟨rfl, rfl⟩ := hQ ⟨_, _, k⟩
  rw [hr] at hrt
  refine W.vret hx hb hrt (fun t ht hW => ⟨0, μ, k, ?_, by rw [ht]; exact hP, hM, ?_, hS.F ht⟩) hS.2.2 hd
  · rw [hr]; rfl
  · rw [hr]; exact fun h => absurd h (by decide)
end RU
