/-! arithmetic, conversions, branches -/
noncomputable def o_iand (a b : Int) : Int := opq ((Int32.ofInt a &&& Int32.ofInt b).toInt)
noncomputable def o_ior (a b : Int) : Int := opq ((Int32.ofInt a ||| Int32.ofInt b).toInt)
noncomputable def o_ixor (a b : Int) : Int := opq ((Int32.ofInt a ^^^ Int32.ofInt b).toInt)
noncomputable def o_ishl (a b : Int) : Int := opq ((Int32.ofInt a <<< (Int32.ofInt b &&& 31)).toInt)
noncomputable def o_ishr (a b : Int) : Int := opq ((Int32.ofInt a >>> (Int32.ofInt b &&& 31)).toInt)
noncomputable def o_land (a b : Int) : Int := opq ((Int64.ofInt a &&& Int64.ofInt b).toInt)
noncomputable def o_lor (a b : Int) : Int := opq ((Int64.ofInt a ||| Int64.ofInt b).toInt)
noncomputable def o_lshl (a b : Int) : Int := opq ((Int64.ofInt a <<< ((Int32.ofInt b).toInt64 &&& 63)).toInt)
noncomputable def o_lshr (a b : Int) : Int := opq ((Int64.ofInt a >>> ((Int32.ofInt b).toInt64 &&& 63)).toInt)
noncomputable def o_lushr (a b : Int) : Int := opq ((((Int64.ofInt a).toUInt64 >>> ((Int32.ofInt b).toInt64.toUInt64 &&& Int64.toUInt64 63)).toInt64).toInt)
noncomputable def o_i2c (a : Int) : Int := opq ((((Int32.ofInt a).toUInt32 % 65536).toInt32).toInt)
noncomputable def o_i2b (a : Int) : Int := opq (((Int32.ofInt a).toInt8.toInt32).toInt)
theorem tdiv_rg32 {n : Nat} {a b : Int} (ha : rg n 0 a) (hb : rg n 0 b) (h0 : b ≠ 0) : (Int32.ofInt a / Int32.ofInt b) = Int32.ofInt (w32 (Int.tdiv a b)) := by
  apply i32_of
  rw [Int32.toInt_div, i32_rgto ha, i32_rgto hb]
  exact bm32 _
theorem tdiv_rg64 {n : Nat} {a b : Int} (ha : rg n 1 a) (hb : rg n 1 b) (h0 : b ≠ 0) : (Int64.ofInt a / Int64.ofInt b) = Int64.ofInt (w64 (Int.tdiv a b)) := by
  apply i64_of
  rw [Int64.toInt_div, i64_rgto ha, i64_rgto hb]
  exact bm64 _
theorem tmod_32 {n : Nat} {a b : Int} (ha : rg n 0 a) (hb : rg n 0 b) (h0 : b ≠ 0) : Int32.ofInt a - Int32.ofInt a / Int32.ofInt b * Int32.ofInt b = Int32.ofInt (w32 (Int.tmod a b)) := by
  rw [tdiv_rg32 ha hb h0, i32_w, i32_w, ← Int32.ofInt_mul, ← Int32.ofInt_sub]
  congr 1
  have := Int.tmod_add_tdiv_mul a b
  have := Int.mul_comm (Int.tdiv a b) b
  omega
theorem tmod_64 {n : Nat} {a b : Int} (ha : rg n 1 a) (hb : rg n 1 b) (h0 : b ≠ 0) : Int64.ofInt a - Int64.ofInt a / Int64.ofInt b * Int64.ofInt b = Int64.ofInt (w64 (Int.tmod a b)) := by
  rw [tdiv_rg64 ha hb h0, i64_w, i64_w, ← Int64.ofInt_mul, ← Int64.ofInt_sub]
  congr 1
  have := Int.tmod_add_tdiv_mul a b
  have := Int.mul_comm (Int.tdiv a b) b
  omega
theorem i32_ne0 {n : Nat} {b : Int} (hb : rg n 0 b) (h0 : b ≠ 0) : ¬ Int32.ofInt b = 0 := by
  intro h
  apply h0
  have h2 := congrArg Int32.toInt h
  rw [i32_rgto hb] at h2
  exact h2
theorem i64_ne0 {n : Nat} {b : Int} (hb : rg n 1 b) (h0 : b ≠ 0) : ¬ Int64.ofInt b = 0 := by
  intro h
  apply h0
  have h2 := congrArg Int64.toInt h
  rw [i64_rgto hb] at h2
  exact h2
theorem i32_lt {n : Nat} {a b : Int} (ha : rg n 0 a) (hb : rg n 0 b) : Int32.ofInt a < Int32.ofInt b ↔ a < b := by
  rw [Int32.lt_iff_toInt_lt, i32_rgto ha, i32_rgto hb]
theorem i32_le {n : Nat} {a b : Int} (ha : rg n 0 a) (hb : rg n 0 b) : Int32.ofInt a ≤ Int32.ofInt b ↔ a ≤ b := by
  rw [Int32.le_iff_toInt_le, i32_rgto ha, i32_rgto hb]
theorem i32_eq {n : Nat} {a b : Int} (ha : rg n 0 a) (hb : rg n 0 b) : Int32.ofInt a = Int32.ofInt b ↔ a = b := by
  rw [← Int32.toInt_inj, i32_rgto ha, i32_rgto hb]
theorem i64_lt {n : Nat} {a b : Int} (ha : rg n 1 a) (hb : rg n 1 b) : Int64.ofInt a < Int64.ofInt b ↔ a < b := by
  rw [Int64.lt_iff_toInt_lt, i64_rgto ha, i64_rgto hb]
theorem i64_eq {n : Nat} {a b : Int} (ha : rg n 1 a) (hb : rg n 1 b) : Int64.ofInt a = Int64.ofInt b ↔ a = b := by
  rw [← Int64.toInt_inj, i64_rgto ha, i64_rgto hb]
def o_lcmp (a b : Int) : Int := if b < a then 1 else if a = b then 0 else -1
theorem lcmp_of {n : Nat} {a b : Int} (ha : rg n 1 a) (hb : rg n 1 b) : lg_cmp (Int64.ofInt a) (Int64.ofInt b) = Int32.ofInt (o_lcmp a b) := by
  unfold lg_cmp o_lcmp
  simp only [gt_iff_lt, i64_lt hb ha, i64_eq ha hb]
  split
  · rfl
  · split <;> rfl
theorem r0 (n : Nat) : rg n 0 0 := ⟨by omega, by omega⟩
section RU
variable {M : Md} {Γ : Cx} {pc : Nat} {env : Ev} {st : List Vl} {μ : Mem}
theorem r_iadd (G : CK M Γ) {a b : Int} (hd : decode M.1 pc = .ok (.iadd, 1)) (k : WP M Γ (pc + 1) env ((0, w32 (a + b)) :: st) μ) : WP M Γ pc env ((0, b) :: (0, a) :: st) μ := by
  obtain ⟨p, l, e, s, m, args, below, meth, c, D, ad, sh, F, A, R, nc, ns, Q⟩ := Γ
  obtain ⟨hx, hb, hml, hown, hts, hD, hK, hKa, hrt, hlk, hal, hsk, hR, hQ⟩ := G
  intro H locs ls hP hM hS hE hn hst
  obtain ⟨-, hb1, -⟩ := sok_t hst
  obtain ⟨-, ha1, -⟩ := sok_t (sok_d hst)
  have hst2 := sok_d (sok_d hst)
  have k1 := k H locs ls hP hM hS hE hn (sok_i hst2 (w32_rg _ _))
  exact lv_iadd hx hb hd (by rw [i32_add]; exact k1)
theorem r_isub (G : CK M Γ) {a b : Int} (hd : decode M.1 pc = .ok (.isub, 1)) (k : WP M Γ (pc + 1) env ((0, w32 (a - b)) :: st) μ) : WP M Γ pc env ((0, b) :: (0, a) :: st) μ := by
  obtain ⟨p, l, e, s, m, args, below, meth, c, D, ad, sh, F, A, R, nc, ns, Q⟩ := Γ
  obtain ⟨hx, hb, hml, hown, hts, hD, hK, hKa, hrt, hlk, hal, hsk, hR, hQ⟩ := G
  intro H locs ls hP hM hS hE hn hst
  obtain ⟨-, hb1, -⟩ := sok_t hst
  obtain ⟨-, ha1, -⟩ := sok_t (sok_d hst)
  have hst2 := sok_d (sok_d hst)
  have k1 := k H locs ls hP hM hS hE hn (sok_i hst2 (w32_rg _ _))
  exact lv_isub hx hb hd (by rw [i32_sub]; exact k1)
theorem r_imul (G : CK M Γ) {a b : Int} (hd : decode M.1 pc = .ok (.imul, 1)) (k : WP M Γ (pc + 1) env ((0, w32 (a * b)) :: st) μ) : WP M Γ pc env ((0, b) :: (0, a) :: st) μ := by
  obtain ⟨p, l, e, s, m, args, below, meth, c, D, ad, sh, F, A, R, nc, ns, Q⟩ := Γ
  obtain ⟨hx, hb, hml, hown, hts, hD, hK, hKa, hrt, hlk, hal, hsk, hR, hQ⟩ := G
  intro H locs ls hP hM hS hE hn hst
  obtain ⟨-, hb1, -⟩ := sok_t hst
  obtain ⟨-, ha1, -⟩ := sok_t (sok_d hst)
  have hst2 := sok_d (sok_d hst)
  have k1 := k H locs ls hP hM hS hE hn (sok_i hst2 (w32_rg _ _))
  exact lv_imul hx hb hd (by rw [i32_mul]; exact k1)
theorem r_ladd (G : CK M Γ) {a b : Int} (hd : decode M.1 pc = .ok (.ladd, 1)) (k : WP M Γ (pc + 1) env ((1, w64 (a + b)) :: st) μ) : WP M Γ pc env ((1, b) :: (1, a) :: st) μ := by
  obtain ⟨p, l, e, s, m, args, below, meth, c, D, ad, sh, F, A, R, nc, ns, Q⟩ := Γ
  obtain ⟨hx, hb, hml, hown, hts, hD, hK, hKa, hrt, hlk, hal, hsk, hR, hQ⟩ := G
  intro H locs ls hP hM hS hE hn hst
  obtain ⟨-, hb1, -⟩ := sok_t hst
  obtain ⟨-, ha1, -⟩ := sok_t (sok_d hst)
  have hst2 := sok_d (sok_d hst)
  have k1 := k H locs ls hP hM hS hE hn (sok_l hst2 (w64_rg _ _))
  exact lv_ladd hx hb hd (by rw [i64_add]; exact k1)
theorem r_lsub (G : CK M Γ) {a b : Int} (hd : decode M.1 pc = .ok (.lsub, 1)) (k : WP M Γ (pc + 1) env ((1, w64 (a - b)) :: st) μ) : WP M Γ pc env ((1, b) :: (1, a) :: st) μ := by
  obtain ⟨p, l, e, s, m, args, below, meth, c, D, ad, sh, F, A, R, nc, ns, Q⟩ := Γ
  obtain ⟨hx, hb, hml, hown, hts, hD, hK, hKa, hrt, hlk, hal, hsk, hR, hQ⟩ := G
  intro H locs ls hP hM hS hE hn hst
  obtain ⟨-, hb1, -⟩ := sok_t hst
  obtain ⟨-, ha1, -⟩ := sok_t (sok_d hst)
  have hst2 := sok_d (sok_d hst)
  have k1 := k H locs ls hP hM hS hE hn (sok_l hst2 (w64_rg _ _))
  exact lv_lsub hx hb hd (by rw [i64_sub]; exact k1)
theorem r_lmul (G : CK M Γ) {a b : Int} (hd : decode M.1 pc = .ok (.lmul, 1)) (k : WP M Γ (pc + 1) env ((1, w64 (a * b)) :: st) μ) : WP M Γ pc env ((1, b) :: (1, a) :: st) μ := by
  obtain ⟨p, l, e, s, m, args, below, meth, c, D, ad, sh, F, A, R, nc, ns, Q⟩ := Γ
  obtain ⟨hx, hb, hml, hown, hts, hD, hK, hKa, hrt, hlk, hal, hsk, hR, hQ⟩ := G
  intro H locs ls hP hM hS hE hn hst
  obtain ⟨-, hb1, -⟩ := sok_t hst
  obtain ⟨-, ha1, -⟩ := sok_t (sok_d hst)
  have hst2 := sok_d (sok_d hst)
  have k1 := k H locs ls hP hM hS hE hn (sok_l hst2 (w64_rg _ _))
  exact lv_lmul hx hb hd (by rw [i64_mul]; exact k1)
theorem r_iand (G : CK M Γ) {a b : Int} (hd : decode M.1 pc = .ok (.iand, 1)) (k : WP M Γ (pc + 1) env ((0, o_iand a b) :: st) μ) : WP M Γ pc env ((0, b) :: (0, a) :: st) μ := by
  obtain ⟨p, l, e, s, m, args, below, meth, c, D, ad, sh, F, A, R, nc, ns, Q⟩ := Γ
  obtain ⟨hx, hb, hml, hown, hts, hD, hK, hKa, hrt, hlk, hal, hsk, hR, hQ⟩ := G
  intro H locs ls hP hM hS hE hn hst
  obtain ⟨-, hb1, -⟩ := sok_t hst
  obtain ⟨-, ha1, -⟩ := sok_t (sok_d hst)
  have hst2 := sok_d (sok_d hst)
  have k1 := k H locs ls hP hM hS hE hn (sok_i hst2 (rgo32 _ _))
  refine lv_iand hx hb hd ?_
  have e1 := i32_of (show _ = o_iand a b from (opq_eq _).symm)
  rw [e1]
  exact k1
theorem r_ior (G : CK M Γ) {a b : Int} (hd : decode M.1 pc = .ok (.ior, 1)) (k : WP M Γ (pc + 1) env ((0, o_ior a b) :: st) μ) : WP M Γ pc env ((0, b) :: (0, a) :: st) μ := by
  obtain ⟨p, l, e, s, m, args, below, meth, c, D, ad, sh, F, A, R, nc, ns, Q⟩ := Γ
  obtain ⟨hx, hb, hml, hown, hts, hD, hK, hKa, hrt, hlk, hal, hsk, hR, hQ⟩ := G
  intro H locs ls hP hM hS hE hn hst
  obtain ⟨-, hb1, -⟩ := sok_t hst
  obtain ⟨-, ha1, -⟩ := sok_t (sok_d hst)
  have hst2 := sok_d (sok_d hst)
  have k1 := k H locs ls hP hM hS hE hn (sok_i hst2 (rgo32 _ _))
  refine lv_ior hx hb hd ?_
  have e1 := i32_of (show _ = o_ior a b from (opq_eq _).symm)
  rw [e1]
  exact k1
theorem r_ixor (G : CK M Γ) {a b : Int} (hd : decode M.1 pc = .ok (.ixor, 1)) (k : WP M Γ (pc + 1) env ((0, o_ixor a b) :: st) μ) : WP M Γ pc env ((0, b) :: (0, a) :: st) μ := by
  obtain ⟨p, l, e, s, m, args, below, meth, c, D, ad, sh, F, A, R, nc, ns, Q⟩ := Γ
  obtain ⟨hx, hb, hml, hown, hts, hD, hK, hKa, hrt, hlk, hal, hsk, hR, hQ⟩ := G
  intro H locs ls hP hM hS hE hn hst
  obtain ⟨-, hb1, -⟩ := sok_t hst
  obtain ⟨-, ha1, -⟩ := sok_t (sok_d hst)
  have hst2 := sok_d (sok_d hst)
  have k1 := k H locs ls hP hM hS hE hn (sok_i hst2 (rgo32 _ _))
  refine lv_ixor hx hb hd ?_
  have e1 := i32_of (show _ = o_ixor a b from (opq_eq _).symm)
  rw [e1]
  exact k1
theorem r_ishl (G : CK M Γ) {a b : Int} (hd : decode M.1 pc = .ok (.ishl, 1)) (k : WP M Γ (pc + 1) env ((0, o_ishl a b) :: st) μ) : WP M Γ pc env ((0, b) :: (0, a) :: st) μ := by
  obtain ⟨p, l, e, s, m, args, below, meth, c, D, ad, sh, F, A, R, nc, ns, Q⟩ := Γ
  obtain ⟨hx, hb, hml, hown, hts, hD, hK, hKa, hrt, hlk, hal, hsk, hR, hQ⟩ := G
  intro H locs ls hP hM hS hE hn hst
  obtain ⟨-, hb1, -⟩ := sok_t hst
  obtain ⟨-, ha1, -⟩ := sok_t (sok_d hst)
  have hst2 := sok_d (sok_d hst)
  have k1 := k H locs ls hP hM hS hE hn (sok_i hst2 (rgo32 _ _))
  refine lv_ishl hx hb hd ?_
  have e1 := i32_of (show _ = o_ishl a b from (opq_eq _).symm)
  rw [e1]
  exact k1
theorem r_ishr (G : CK M Γ) {a b : Int} (hd : decode M.1 pc = .ok (.ishr, 1)) (k : WP M Γ (pc + 1) env ((0, o_ishr a b) :: st) μ) : WP M Γ pc env ((0, b) :: (0, a) :: st) μ := by
  obtain ⟨p, l, e, s, m, args, below, meth, c, D, ad, sh, F, A, R, nc, ns, Q⟩ := Γ
  obtain ⟨hx, hb, hml, hown, hts, hD, hK, hKa, hrt, hlk, hal, hsk, hR, hQ⟩ := G
  intro H locs ls hP hM hS hE hn hst
  obtain ⟨-, hb1, -⟩ := sok_t hst
  obtain ⟨-, ha1, -⟩ := sok_t (sok_d hst)
  have hst2 := sok_d (sok_d hst)
  have k1 := k H locs ls hP hM hS hE hn (sok_i hst2 (rgo32 _ _))
  refine lv_ishr hx hb hd ?_
  have e1 := i32_of (show _ = o_ishr a b from (opq_eq _).symm)
  rw [e1]
  exact k1
theorem r_land (G : CK M Γ) {a b : Int} (hd : decode M.1 pc = .ok (.land, 1)) (k : WP M Γ (pc + 1) env ((1, o_land a b) :: st) μ) : WP M Γ pc env ((1, b) :: (1, a) :: st) μ := by
  obtain ⟨p, l, e, s, m, args, below, meth, c, D, ad, sh, F, A, R, nc, ns, Q⟩ := Γ
  obtain ⟨hx, hb, hml, hown, hts, hD, hK, hKa, hrt, hlk, hal, hsk, hR, hQ⟩ := G
  intro H locs ls hP hM hS hE hn hst
  obtain ⟨-, hb1, -⟩ := sok_t hst
  obtain ⟨-, ha1, -⟩ := sok_t (sok_d hst)
  have hst2 := sok_d (sok_d hst)
  have k1 := k H locs ls hP hM hS hE hn (sok_l hst2 (rgo64 _ _))
  refine lv_land hx hb hd ?_
  have e1 := i64_of (show _ = o_land a b from (opq_eq _).symm)
  rw [e1]
  exact k1
theorem r_lor (G : CK M Γ) {a b : Int} (hd : decode M.1 pc = .ok (.lor, 1)) (k : WP M Γ (pc + 1) env ((1, o_lor a b) :: st) μ) : WP M Γ pc env ((1, b) :: (1, a) :: st) μ := by
  obtain ⟨p, l, e, s, m, args, below, meth, c, D, ad, sh, F, A, R, nc, ns, Q⟩ := Γ
  obtain ⟨hx, hb, hml, hown, hts, hD, hK, hKa, hrt, hlk, hal, hsk, hR, hQ⟩ := G
  intro H locs ls hP hM hS hE hn hst
  obtain ⟨-, hb1, -⟩ := sok_t hst
  obtain ⟨-, ha1, -⟩ := sok_t (sok_d hst)
  have hst2 := sok_d (sok_d hst)
  have k1 := k H locs ls hP hM hS hE hn (sok_l hst2 (rgo64 _ _))
  refine lv_lor hx hb hd ?_
  have e1 := i64_of (show _ = o_lor a b from (opq_eq _).symm)
  rw [e1]
  exact k1
theorem r_lshl (G : CK M Γ) {a b : Int} (hd : decode M.1 pc = .ok (.lshl, 1)) (k : WP M Γ (pc + 1) env ((1, o_lshl a b) :: st) μ) : WP M Γ pc env ((0, b) :: (1, a) :: st) μ := by
  obtain ⟨p, l, e, s, m, args, below, meth, c, D, ad, sh, F, A, R, nc, ns, Q⟩ := Γ
  obtain ⟨hx, hb, hml, hown, hts, hD, hK, hKa, hrt, hlk, hal, hsk, hR, hQ⟩ := G
  intro H locs ls hP hM hS hE hn hst
  obtain ⟨-, hb1, -⟩ := sok_t hst
  obtain ⟨-, ha1, -⟩ := sok_t (sok_d hst)
  have hst2 := sok_d (sok_d hst)
  have k1 := k H locs ls hP hM hS hE hn (sok_l hst2 (rgo64 _ _))
  exact lv_lshl hx hb hd (i64_of (show _ = o_lshl a b from (opq_eq _).symm)) k1
theorem r_lshr (G : CK M Γ) {a b : Int} (hd : decode M.1 pc = .ok (.lshr, 1)) (k : WP M Γ (pc + 1) env ((1, o_lshr a b) :: st) μ) : WP M Γ pc env ((0, b) :: (1, a) :: st) μ := by
  obtain ⟨p, l, e, s, m, args, below, meth, c, D, ad, sh, F, A, R, nc, ns, Q⟩ := Γ
  obtain ⟨hx, hb, hml, hown, hts, hD, hK, hKa, hrt, hlk, hal, hsk, hR, hQ⟩ := G
  intro H locs ls hP hM hS hE hn hst
  obtain ⟨-, hb1, -⟩ := sok_t hst
  obtain ⟨-, ha1, -⟩ := sok_t (sok_d hst)
  have hst2 := sok_d (sok_d hst)
  have k1 := k H locs ls hP hM hS hE hn (sok_l hst2 (rgo64 _ _))
  exact lv_lshr hx hb hd (i64_of (show _ = o_lshr a b from (opq_eq _).symm)) k1
theorem r_lushr (G : CK M Γ) {a b : Int} (hd : decode M.1 pc = .ok (.lushr, 1)) (k : WP M Γ (pc + 1) env ((1, o_lushr a b) :: st) μ) : WP M Γ pc env ((0, b) :: (1, a) :: st) μ := by
  obtain ⟨p, l, e, s, m, args, below, meth, c, D, ad, sh, F, A, R, nc, ns, Q⟩ := Γ
  obtain ⟨hx, hb, hml, hown, hts, hD, hK, hKa, hrt, hlk, hal, hsk, hR, hQ⟩ := G
  intro H locs ls hP hM hS hE hn hst
  obtain ⟨-, hb1, -⟩ := sok_t hst
  obtain ⟨-, ha1, -⟩ := sok_t (sok_d hst)
  have hst2 := sok_d (sok_d hst)
  have k1 := k H locs ls hP hM hS hE hn (sok_l hst2 (rgo64 _ _))
  exact lv_lushr hx hb hd (i64_of (show _ = o_lushr a b from (opq_eq _).symm)) k1
theorem r_idiv (G : CK M Γ) {a b : Int} (hd : decode M.1 pc = .ok (.idiv, 1)) (h0 : b ≠ 0) (k : WP M Γ (pc + 1) env ((0, w32 (Int.tdiv a b)) :: st) μ) : WP M Γ pc env ((0, b) :: (0, a) :: st) μ := by
  obtain ⟨p, l, e, s, m, args, below, meth, c, D, ad, sh, F, A, R, nc, ns, Q⟩ := Γ
  obtain ⟨hx, hb, hml, hown, hts, hD, hK, hKa, hrt, hlk, hal, hsk, hR, hQ⟩ := G
  intro H locs ls hP hM hS hE hn hst
  obtain ⟨-, hb1, -⟩ := sok_t hst
  obtain ⟨-, ha1, -⟩ := sok_t (sok_d hst)
  have hst2 := sok_d (sok_d hst)
  have k1 := k H locs ls hP hM hS hE hn (sok_i hst2 (w32_rg _ _))
  exact lv_idiv hx hb hd (i32_ne0 hb1 h0) (by rw [tdiv_rg32 ha1 hb1 h0]; exact k1)
theorem r_irem (G : CK M Γ) {a b : Int} (hd : decode M.1 pc = .ok (.irem, 1)) (h0 : b ≠ 0) (k : WP M Γ (pc + 1) env ((0, w32 (Int.tmod a b)) :: st) μ) : WP M Γ pc env ((0, b) :: (0, a) :: st) μ := by
  obtain ⟨p, l, e, s, m, args, below, meth, c, D, ad, sh, F, A, R, nc, ns, Q⟩ := Γ
  obtain ⟨hx, hb, hml, hown, hts, hD, hK, hKa, hrt, hlk, hal, hsk, hR, hQ⟩ := G
  intro H locs ls hP hM hS hE hn hst
  obtain ⟨-, hb1, -⟩ := sok_t hst
  obtain ⟨-, ha1, -⟩ := sok_t (sok_d hst)
  have hst2 := sok_d (sok_d hst)
  have k1 := k H locs ls hP hM hS hE hn (sok_i hst2 (w32_rg _ _))
  exact lv_irem hx hb hd (i32_ne0 hb1 h0) (by rw [tmod_32 ha1 hb1 h0]; exact k1)
theorem r_ldiv (G : CK M Γ) {a b : Int} (hd : decode M.1 pc = .ok (.ldiv, 1)) (h0 : b ≠ 0) (k : WP M Γ (pc + 1) env ((1, w64 (Int.tdiv a b)) :: st) μ) : WP M Γ pc env ((1, b) :: (1, a) :: st) μ := by
  obtain ⟨p, l, e, s, m, args, below, meth, c, D, ad, sh, F, A, R, nc, ns, Q⟩ := Γ
  obtain ⟨hx, hb, hml, hown, hts, hD, hK, hKa, hrt, hlk, hal, hsk, hR, hQ⟩ := G
  intro H locs ls hP hM hS hE hn hst
  obtain ⟨-, hb1, -⟩ := sok_t hst
  obtain ⟨-, ha1, -⟩ := sok_t (sok_d hst)
  have hst2 := sok_d (sok_d hst)
  have k1 := k H locs ls hP hM hS hE hn (sok_l hst2 (w64_rg _ _))
  exact lv_ldiv hx hb hd (i64_ne0 hb1 h0) (by rw [tdiv_rg64 ha1 hb1 h0]; exact k1)
theorem r_lrem (G : CK M Γ) {a b : Int} (hd : decode M.1 pc = .ok (.lrem, 1)) (h0 : b ≠ 0) (k : WP M Γ (pc + 1) env ((1, w64 (Int.tmod a b)) :: st) μ) : WP M Γ pc env ((1, b) :: (1, a) :: st) μ := by
  obtain ⟨p, l, e, s, m, args, below, meth, c, D, ad, sh, F, A, R, nc, ns, Q⟩ := Γ
  obtain ⟨hx, hb, hml, hown, hts, hD, hK, hKa, hrt, hlk, hal, hsk, hR, hQ⟩ := G
  intro H locs ls hP hM hS hE hn hst
  obtain ⟨-, hb1, -⟩ := sok_t hst
  obtain ⟨-, ha1, -⟩ := sok_t (sok_d hst)
  have hst2 := sok_d (sok_d hst)
  have k1 := k H locs ls hP hM hS hE hn (sok_l hst2 (w64_rg _ _))
  exact lv_lrem hx hb hd (i64_ne0 hb1 h0) (by rw [tmod_64 ha1 hb1 h0]; exact k1)
theorem r_lcmp (G : CK M Γ) {a b : Int} (hd : decode M.1 pc = .ok (.lcmp, 1)) (k : WP M Γ (pc + 1) env ((0, o_lcmp a b) :: st) μ) : WP M Γ pc env ((1, b) :: (1, a) :: st) μ := by
  obtain ⟨p, l, e, s, m, args, below, meth, c, D, ad, sh, F, A, R, nc, ns, Q⟩ := Γ
  obtain ⟨hx, hb, hml, hown, hts, hD, hK, hKa, hrt, hlk, hal, hsk, hR, hQ⟩ := G
  intro H locs ls hP hM hS hE hn hst
  obtain ⟨-, hb1, -⟩ := sok_t hst
  obtain ⟨-, ha1, -⟩ := sok_t (sok_d hst)
  have hst2 := sok_d (sok_d hst)
  have k1 := k H locs ls hP hM hS hE hn (sok_i hst2 (by unfold o_lcmp; split; exact ⟨by omega, by omega⟩; split <;> exact ⟨by omega, by omega⟩))
  exact W.lcmp hx hb hd (by rw [lcmp_of ha1 hb1]; exact k1)
theorem r_i2l (G : CK M Γ) {a : Int} (hd : decode M.1 pc = .ok (.i2l, 1)) (k : WP M Γ (pc + 1) env ((1, a) :: st) μ) : WP M Γ pc env ((0, a) :: st) μ := by
  obtain ⟨p, l, e, s, m, args, below, meth, c, D, ad, sh, F, A, R, nc, ns, Q⟩ := Γ
  obtain ⟨hx, hb, hml, hown, hts, hD, hK, hKa, hrt, hlk, hal, hsk, hR, hQ⟩ := G
  intro H locs ls hP hM hS hE hn hst
  obtain ⟨-, ha1, -⟩ := sok_t hst
  have k1 := k H locs ls hP hM hS hE hn (sok_l (sok_d hst) (by obtain ⟨h1, h2⟩ := ha1; exact ⟨by omega, by omega⟩))
  exact lv_i2l hx hb hd (i64_of (by rw [Int32.toInt_toInt64, i32_rgto ha1])) k1
theorem r_l2i (G : CK M Γ) {a : Int} (hd : decode M.1 pc = .ok (.l2i, 1)) (k : WP M Γ (pc + 1) env ((0, w32 a) :: st) μ) : WP M Γ pc env ((1, a) :: st) μ := by
  obtain ⟨p, l, e, s, m, args, below, meth, c, D, ad, sh, F, A, R, nc, ns, Q⟩ := Γ
  obtain ⟨hx, hb, hml, hown, hts, hD, hK, hKa, hrt, hlk, hal, hsk, hR, hQ⟩ := G
  intro H locs ls hP hM hS hE hn hst
  obtain ⟨-, ha1, -⟩ := sok_t hst
  have k1 := k H locs ls hP hM hS hE hn (sok_i (sok_d hst) (w32_rg _ _))
  exact lv_l2i hx hb hd (i32_of (by rw [Int64.toInt_toInt32, i64_rgto ha1]; exact bm32 _)) k1
theorem r_i2c (G : CK M Γ) {a : Int} (hd : decode M.1 pc = .ok (.i2c, 1)) (k : WP M Γ (pc + 1) env ((0, o_i2c a) :: st) μ) : WP M Γ pc env ((0, a) :: st) μ := by
  obtain ⟨p, l, e, s, m, args, below, meth, c, D, ad, sh, F, A, R, nc, ns, Q⟩ := Γ
  obtain ⟨hx, hb, hml, hown, hts, hD, hK, hKa, hrt, hlk, hal, hsk, hR, hQ⟩ := G
  intro H locs ls hP hM hS hE hn hst
  obtain ⟨-, ha1, -⟩ := sok_t hst
  have k1 := k H locs ls hP hM hS hE hn (sok_i (sok_d hst) (rgo32 _ _))
  exact lv_i2c hx hb hd (i32_of (show _ = o_i2c a from (opq_eq _).symm)) k1
theorem r_i2b (G : CK M Γ) {a : Int} (hd : decode M.1 pc = .ok (.i2b, 1)) (k : WP M Γ (pc + 1) env ((0, o_i2b a) :: st) μ) : WP M Γ pc env ((0, a) :: st) μ := by
  obtain ⟨p, l, e, s, m, args, below, meth, c, D, ad, sh, F, A, R, nc, ns, Q⟩ := Γ
  obtain ⟨hx, hb, hml, hown, hts, hD, hK, hKa, hrt, hlk, hal, hsk, hR, hQ⟩ := G
  intro H locs ls hP hM hS hE hn hst
  obtain ⟨-, ha1, -⟩ := sok_t hst
  have k1 := k H locs ls hP hM hS hE hn (sok_i (sok_d hst) (rgo32 _ _))
  exact lv_i2b hx hb hd (i32_of (show _ = o_i2b a from (opq_eq _).symm)) k1
theorem r_if_eq (G : CK M Γ) {a : Int} {off : Int} {tgt : Nat} (hd : decode M.1 pc = .ok (.ifCond .eq off, 3)) (ht : (pc : Int) + off = (tgt : Int)) (kt : a = 0 → WP M Γ tgt env st μ) (kf : ¬ (a = 0) → WP M Γ (pc + 3) env st μ) : WP M Γ pc env ((0, a) :: st) μ := by
  obtain ⟨p, l, e, s, m, args, below, meth, c, D, ad, sh, F, A, R, nc, ns, Q⟩ := Γ
  obtain ⟨hx, hb, hml, hown, hts, hD, hK, hKa, hrt, hlk, hal, hsk, hR, hQ⟩ := G
  intro H locs ls hP hM hS hE hn hst
  obtain ⟨-, ha1, -⟩ := sok_t hst
  have hst2 := sok_d hst
  have hq := (i32_eq ha1 (r0 _))
  exact lv_if_eq hx hb hd ht (fun h => kt (hq.mp h) H locs ls hP hM hS hE hn hst2) (fun h => kf (fun z => h (hq.mpr z)) H locs ls hP hM hS hE hn hst2)
theorem r_if_ne (G : CK M Γ) {a : Int} {off : Int} {tgt : Nat} (hd : decode M.1 pc = .ok (.ifCond .ne off, 3)) (ht : (pc : Int) + off = (tgt : Int)) (kt : ¬ a = 0 → WP M Γ tgt env st μ) (kf : ¬ (¬ a = 0) → WP M Γ (pc + 3) env st μ) : WP M Γ pc env ((0, a) :: st) μ := by
  obtain ⟨p, l, e, s, m, args, below, meth, c, D, ad, sh, F, A, R, nc, ns, Q⟩ := Γ
  obtain ⟨hx, hb, hml, hown, hts, hD, hK, hKa, hrt, hlk, hal, hsk, hR, hQ⟩ := G
  intro H locs ls hP hM hS hE hn hst
  obtain ⟨-, ha1, -⟩ := sok_t hst
  have hst2 := sok_d hst
  have hq := (i32_eq ha1 (r0 _))
  exact lv_if_ne hx hb hd ht (fun h => kt (fun z => h (hq.mpr z)) H locs ls hP hM hS hE hn hst2) (fun h => kf (fun z => z (hq.mp h)) H locs ls hP hM hS hE hn hst2)
theorem r_if_lt (G : CK M Γ) {a : Int} {off : Int} {tgt : Nat} (hd : decode M.1 pc = .ok (.ifCond .lt off, 3)) (ht : (pc : Int) + off = (tgt : Int)) (kt : a < 0 → WP M Γ tgt env st μ) (kf : ¬ (a < 0) → WP M Γ (pc + 3) env st μ) : WP M Γ pc env ((0, a) :: st) μ := by
  obtain ⟨p, l, e, s, m, args, below, meth, c, D, ad, sh, F, A, R, nc, ns, Q⟩ := Γ
  obtain ⟨hx, hb, hml, hown, hts, hD, hK, hKa, hrt, hlk, hal, hsk, hR, hQ⟩ := G
  intro H locs ls hP hM hS hE hn hst
  obtain ⟨-, ha1, -⟩ := sok_t hst
  have hst2 := sok_d hst
  have hq := (i32_lt ha1 (r0 _))
  exact lv_if_lt hx hb hd ht (fun h => kt (hq.mp h) H locs ls hP hM hS hE hn hst2) (fun h => kf (fun z => h (hq.mpr z)) H locs ls hP hM hS hE hn hst2)
theorem r_if_ge (G : CK M Γ) {a : Int} {off : Int} {tgt : Nat} (hd : decode M.1 pc = .ok (.ifCond .ge off, 3)) (ht : (pc : Int) + off = (tgt : Int)) (kt : 0 ≤ a → WP M Γ tgt env st μ) (kf : ¬ (0 ≤ a) → WP M Γ (pc + 3) env st μ) : WP M Γ pc env ((0, a) :: st) μ := by
  obtain ⟨p, l, e, s, m, args, below, meth, c, D, ad, sh, F, A, R, nc, ns, Q⟩ := Γ
  obtain ⟨hx, hb, hml, hown, hts, hD, hK, hKa, hrt, hlk, hal, hsk, hR, hQ⟩ := G
  intro H locs ls hP hM hS hE hn hst
  obtain ⟨-, ha1, -⟩ := sok_t hst
  have hst2 := sok_d hst
  have hq := (i32_le (r0 _) ha1)
  exact lv_if_ge hx hb hd ht (fun h => kt (hq.mp h) H locs ls hP hM hS hE hn hst2) (fun h => kf (fun z => h (hq.mpr z)) H locs ls hP hM hS hE hn hst2)
theorem r_if_gt (G : CK M Γ) {a : Int} {off : Int} {tgt : Nat} (hd : decode M.1 pc = .ok (.ifCond .gt off, 3)) (ht : (pc : Int) + off = (tgt : Int)) (kt : 0 < a → WP M Γ tgt env st μ) (kf : ¬ (0 < a) → WP M Γ (pc + 3) env st μ) : WP M Γ pc env ((0, a) :: st) μ := by
  obtain ⟨p, l, e, s, m, args, below, meth, c, D, ad, sh, F, A, R, nc, ns, Q⟩ := Γ
  obtain ⟨hx, hb, hml, hown, hts, hD, hK, hKa, hrt, hlk, hal, hsk, hR, hQ⟩ := G
  intro H locs ls hP hM hS hE hn hst
  obtain ⟨-, ha1, -⟩ := sok_t hst
  have hst2 := sok_d hst
  have hq := (i32_lt (r0 _) ha1)
  exact lv_if_gt hx hb hd ht (fun h => kt (hq.mp h) H locs ls hP hM hS hE hn hst2) (fun h => kf (fun z => h (hq.mpr z)) H locs ls hP hM hS hE hn hst2)
theorem r_if_le (G : CK M Γ) {a : Int} {off : Int} {tgt : Nat} (hd : decode M.1 pc = .ok (.ifCond .le off, 3)) (ht : (pc : Int) + off = (tgt : Int)) (kt : a ≤ 0 → WP M Γ tgt env st μ) (kf : ¬ (a ≤ 0) → WP M Γ (pc + 3) env st μ) : WP M Γ pc env ((0, a) :: st) μ := by
  obtain ⟨p, l, e, s, m, args, below, meth, c, D, ad, sh, F, A, R, nc, ns, Q⟩ := Γ
  obtain ⟨hx, hb, hml, hown, hts, hD, hK, hKa, hrt, hlk, hal, hsk, hR, hQ⟩ := G
  intro H locs ls hP hM hS hE hn hst
  obtain ⟨-, ha1, -⟩ := sok_t hst
  have hst2 := sok_d hst
  have hq := (i32_le ha1 (r0 _))
  exact lv_if_le hx hb hd ht (fun h => kt (hq.mp h) H locs ls hP hM hS hE hn hst2) (fun h => kf (fun z => h (hq.mpr z)) H locs ls hP hM hS hE hn hst2)
theorem r_icmp_eq (G : CK M Γ) {a b : Int} {off : Int} {tgt : Nat} (hd : decode M.1 pc = .ok (.if_icmp .eq off, 3)) (ht : (pc : Int) + off = (tgt : Int)) (kt : a = b → WP M Γ tgt env st μ) (kf : ¬ (a = b) → WP M Γ (pc + 3) env st μ) : WP M Γ pc env ((0, b) :: (0, a) :: st) μ := by
  obtain ⟨p, l, e, s, m, args, below, meth, c, D, ad, sh, F, A, R, nc, ns, Q⟩ := Γ
  obtain ⟨hx, hb, hml, hown, hts, hD, hK, hKa, hrt, hlk, hal, hsk, hR, hQ⟩ := G
  intro H locs ls hP hM hS hE hn hst
  obtain ⟨-, hb1, -⟩ := sok_t hst
  obtain ⟨-, ha1, -⟩ := sok_t (sok_d hst)
  have hst2 := sok_d (sok_d hst)
  have hq := (i32_eq ha1 hb1)
  exact lv_icmp_eq hx hb hd ht (fun h => kt (hq.mp h) H locs ls hP hM hS hE hn hst2) (fun h => kf (fun z => h (hq.mpr z)) H locs ls hP hM hS hE hn hst2)
theorem r_icmp_ne (G : CK M Γ) {a b : Int} {off : Int} {tgt : Nat} (hd : decode M.1 pc = .ok (.if_icmp .ne off, 3)) (ht : (pc : Int) + off = (tgt : Int)) (kt : ¬ a = b → WP M Γ tgt env st μ) (kf : ¬ (¬ a = b) → WP M Γ (pc + 3) env st μ) : WP M Γ pc env ((0, b) :: (0, a) :: st) μ := by
  obtain ⟨p, l, e, s, m, args, below, meth, c, D, ad, sh, F, A, R, nc, ns, Q⟩ := Γ
  obtain ⟨hx, hb, hml, hown, hts, hD, hK, hKa, hrt, hlk, hal, hsk, hR, hQ⟩ := G
  intro H locs ls hP hM hS hE hn hst
  obtain ⟨-, hb1, -⟩ := sok_t hst
  obtain ⟨-, ha1, -⟩ := sok_t (sok_d hst)
  have hst2 := sok_d (sok_d hst)
  have hq := (i32_eq ha1 hb1)
  exact lv_icmp_ne hx hb hd ht (fun h => kt (fun z => h (hq.mpr z)) H locs ls hP hM hS hE hn hst2) (fun h => kf (fun z => z (hq.mp h)) H locs ls hP hM hS hE hn hst2)
theorem r_icmp_lt (G : CK M Γ) {a b : Int} {off : Int} {tgt : Nat} (hd : decode M.1 pc = .ok (.if_icmp .lt off, 3)) (ht : (pc : Int) + off = (tgt : Int)) (kt : a < b → WP M Γ tgt env st μ) (kf : ¬ (a < b) → WP M Γ (pc + 3) env st μ) : WP M Γ pc env ((0, b) :: (0, a) :: st) μ := by
  obtain ⟨p, l, e, s, m, args, below, meth, c, D, ad, sh, F, A, R, nc, ns, Q⟩ := Γ
  obtain ⟨hx, hb, hml, hown, hts, hD, hK, hKa, hrt, hlk, hal, hsk, hR, hQ⟩ := G
  intro H locs ls hP hM hS hE hn hst
  obtain ⟨-, hb1, -⟩ := sok_t hst
  obtain ⟨-, ha1, -⟩ := sok_t (sok_d hst)
  have hst2 := sok_d (sok_d hst)
  have hq := (i32_lt ha1 hb1)
  exact lv_icmp_lt hx hb hd ht (fun h => kt (hq.mp h) H locs ls hP hM hS hE hn hst2) (fun h => kf (fun z => h (hq.mpr z)) H locs ls hP hM hS hE hn hst2)
theorem r_icmp_ge (G : CK M Γ) {a b : Int} {off : Int} {tgt : Nat} (hd : decode M.1 pc = .ok (.if_icmp .ge off, 3)) (ht : (pc : Int) + off = (tgt : Int)) (kt : b ≤ a → WP M Γ tgt env st μ) (kf : ¬ (b ≤ a) → WP M Γ (pc + 3) env st μ) : WP M Γ pc env ((0, b) :: (0, a) :: st) μ := by
  obtain ⟨p, l, e, s, m, args, below, meth, c, D, ad, sh, F, A, R, nc, ns, Q⟩ := Γ
  obtain ⟨hx, hb, hml, hown, hts, hD, hK, hKa, hrt, hlk, hal, hsk, hR, hQ⟩ := G
  intro H locs ls hP hM hS hE hn hst
  obtain ⟨-, hb1, -⟩ := sok_t hst
  obtain ⟨-, ha1, -⟩ := sok_t (sok_d hst)
  have hst2 := sok_d (sok_d hst)
  have hq := (i32_le hb1 ha1)
  exact lv_icmp_ge hx hb hd ht (fun h => kt (hq.mp h) H locs ls hP hM hS hE hn hst2) (fun h => kf (fun z => h (hq.mpr z)) H locs ls hP hM hS hE hn hst2)
theorem r_icmp_gt (G : CK M Γ) {a b : Int} {off : Int} {tgt : Nat} (hd : decode M.1 pc = .ok (.if_icmp .gt off, 3)) (ht : (pc : Int) + off = (tgt : Int)) (kt : b < a → WP M Γ tgt env st μ) (kf : ¬ (b < a) → WP M Γ (pc + 3) env st μ) : WP M Γ pc env ((0, b) :: (0, a) :: st) μ := by
  obtain ⟨p, l, e, s, m, args, below, meth, c, D, ad, sh, F, A, R, nc, ns, Q⟩ := Γ
  obtain ⟨hx, hb, hml, hown, hts, hD, hK, hKa, hrt, hlk, hal, hsk, hR, hQ⟩ := G
  intro H locs ls hP hM hS hE hn hst
  obtain ⟨-, hb1, -⟩ := sok_t hst
  obtain ⟨-, ha1, -⟩ := sok_t (sok_d hst)
  have hst2 := sok_d (sok_d hst)
  have hq := (i32_lt hb1 ha1)
  exact lv_icmp_gt hx hb hd ht (fun h => kt (hq.mp h) H locs ls hP hM hS hE hn hst2) (fun h => kf (fun z => h (hq.mpr z)) H locs ls hP hM hS hE hn hst2)
theorem r_icmp_le (G : CK M Γ) {a b : Int} {off : Int} {tgt : Nat} (hd : decode M.1 pc = .ok (.if_icmp .le off, 3)) (ht : (pc : Int) + off = (tgt : Int)) (kt : a ≤ b → WP M Γ tgt env st μ) (kf : ¬ (a ≤ b) → WP M Γ (pc + 3) env st μ) : WP M Γ pc env ((0, b) :: (0, a) :: st) μ := by
  obtain ⟨p, l, e, s, m, args, below, meth, c, D, ad, sh, F, A, R, nc, ns, Q⟩ := Γ
  obtain ⟨hx, hb, hml, hown, hts, hD, hK, hKa, hrt, hlk, hal, hsk, hR, hQ⟩ := G
  intro H locs ls hP hM hS hE hn hst
  obtain ⟨-, hb1, -⟩ := sok_t hst
  obtain ⟨-, ha1, -⟩ := sok_t (sok_d hst)
  have hst2 := sok_d (sok_d hst)
  have hq := (i32_le ha1 hb1)
  exact lv_icmp_le hx hb hd ht (fun h => kt (hq.mp h) H locs ls hP hM hS hE hn hst2) (fun h => kf (fun z => h (hq.mpr z)) H locs ls hP hM hS hE hn hst2)
theorem r_goto (G : CK M Γ) {off : Int} {tgt : Nat} (hd : decode M.1 pc = .ok (.goto off, 3)) (ht : (pc : Int) + off = (tgt : Int)) (k : WP M Γ tgt env st μ) : WP M Γ pc env st μ := by
  obtain ⟨p, l, e, s, m, args, below, meth, c, D, ad, sh, F, A, R, nc, ns, Q⟩ := Γ
  obtain ⟨hx, hb, hml, hown, hts, hD, hK, hKa, hrt, hlk, hal, hsk, hR, hQ⟩ := G
  intro H locs ls hP hM hS hE hn hst
  exact lv_goto hx hb hd ht (k H locs ls hP hM hS hE hn hst)
theorem vv_cat1 {ad : Adr} {t : Nat} {v : Int} (h : t < 3) (h1 : t ≠ 1) : (vv ad t v).category = 1 := by
  have h2 := (vv_cat (ad := ad) (v := v) h)
  rcases lv_cat (vv ad t v) with h3 | h3
  · exact h3
  · exact absurd (h2.mp h3) h1
theorem r_dup (G : CK M Γ) {t : Nat} {a : Int} (hd : decode M.1 pc = .ok (.dup, 1)) (ht : t ≠ 1) (k : WP M Γ (pc + 1) env ((t, a) :: (t, a) :: st) μ) : WP M Γ pc env ((t, a) :: st) μ := by
  obtain ⟨p, l, e, s, m, args, below, meth, c, D, ad, sh, F, A, R, nc, ns, Q⟩ := Γ
  obtain ⟨hx, hb, hml, hown, hts, hD, hK, hKa, hrt, hlk, hal, hsk, hR, hQ⟩ := G
  intro H locs ls hP hM hS hE hn hst
  obtain ⟨ha0, ha1, ha2⟩ := sok_t hst
  exact lv_dup hx hb hd (vv_cat1 ha0 ht) (k H locs ls hP hM hS hE hn (sok_c hst ha0 ha1 ha2))
theorem r_dup2 (G : CK M Γ) {t u : Nat} {a b : Int} (hd : decode M.1 pc = .ok (.dup2, 1)) (ht : t ≠ 1) (hu : u ≠ 1) (k : WP M Γ (pc + 1) env ((t, a) :: (u, b) :: (t, a) :: (u, b) :: st) μ) : WP M Γ pc env ((t, a) :: (u, b) :: st) μ := by
  obtain ⟨p, l, e, s, m, args, below, meth, c, D, ad, sh, F, A, R, nc, ns, Q⟩ := Γ
  obtain ⟨hx, hb, hml, hown, hts, hD, hK, hKa, hrt, hlk, hal, hsk, hR, hQ⟩ := G
  intro H locs ls hP hM hS hE hn hst
  obtain ⟨ha0, ha1, ha2⟩ := sok_t hst
  obtain ⟨hb0, hb1, hb2⟩ := sok_t (sok_d hst)
  exact lv_dup2_11 hx hb hd (vv_cat1 ha0 ht) (vv_cat1 hb0 hu) (k H locs ls hP hM hS hE hn (sok_c (sok_c hst hb0 hb1 hb2) ha0 ha1 ha2))
theorem r_pop (G : CK M Γ) {t : Nat} {a : Int} (hd : decode M.1 pc = .ok (.pop, 1)) (ht : t ≠ 1) (k : WP M Γ (pc + 1) env st μ) : WP M Γ pc env ((t, a) :: st) μ := by
  obtain ⟨p, l, e, s, m, args, below, meth, c, D, ad, sh, F, A, R, nc, ns, Q⟩ := Γ
  obtain ⟨hx, hb, hml, hown, hts, hD, hK, hKa, hrt, hlk, hal, hsk, hR, hQ⟩ := G
  intro H locs ls hP hM hS hE hn hst
  obtain ⟨ha0, ha1, ha2⟩ := sok_t hst
  exact lv_pop hx hb hd (vv_cat1 ha0 ht) (k H locs ls hP hM hS hE hn (sok_d hst))
theorem r_ifnonnull (G : CK M Γ) {a : Int} {off : Int} {tgt : Nat} (hd : decode M.1 pc = .ok (.ifnonnull off, 3)) (ht : (pc : Int) + off = (tgt : Int)) (k : WP M Γ tgt env st μ) : WP M Γ pc env ((2, a) :: st) μ := by
  obtain ⟨p, l, e, s, m, args, below, meth, c, D, ad, sh, F, A, R, nc, ns, Q⟩ := Γ
  obtain ⟨hx, hb, hml, hown, hts, hD, hK, hKa, hrt, hlk, hal, hsk, hR, hQ⟩ := G
  intro H locs ls hP hM hS hE hn hst
  obtain ⟨ha0, ha1, ha2⟩ := sok_t hst
  show W _ _ _ _ _ _ _ _ _ _ _ _ _ _ _ (F0 m pc ls (vv ad 2 a :: sv ad st))
  rw [vv_ref (ha2 rfl)]
  exact lv_ifnonnull hx hb hd ht (k H locs ls hP hM hS hE hn (sok_d hst))
theorem r_ifnull (G : CK M Γ) {a : Int} {off : Int} (hd : decode M.1 pc = .ok (.ifnull off, 3)) (k : WP M Γ (pc + 3) env st μ) : WP M Γ pc env ((2, a) :: st) μ := by
  obtain ⟨p, l, e, s, m, args, below, meth, c, D, ad, sh, F, A, R, nc, ns, Q⟩ := Γ
  obtain ⟨hx, hb, hml, hown, hts, hD, hK, hKa, hrt, hlk, hal, hsk, hR, hQ⟩ := G
  intro H locs ls hP hM hS hE hn hst
  obtain ⟨ha0, ha1, ha2⟩ := sok_t hst
  show W _ _ _ _ _ _ _ _ _ _ _ _ _ _ _ (F0 m pc ls (vv ad 2 a :: sv ad st))
  rw [vv_ref (ha2 rfl)]
  exact lv_ifnull hx hb hd (k H locs ls hP hM hS hE hn (sok_d hst))
end RU
