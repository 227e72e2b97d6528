/-! how many bits are set, up to sixteen -/
set_option maxRecDepth 100000 in theorem bc_k1 : ∀ a : Fin 64, ∀ b : Fin 64, Nat.beq (bcN (4096 + 64 * a + b)) (pc16 (4096 + 64 * a + b)) = true := by decide +kernel
set_option maxRecDepth 100000 in theorem bc_k2 : ∀ a : Fin 64, ∀ b : Fin 64, Nat.beq (bcN (8192 + 64 * a + b)) (pc16 (8192 + 64 * a + b)) = true := by decide +kernel
set_option maxRecDepth 100000 in theorem bc_k3 : ∀ a : Fin 64, ∀ b : Fin 64, Nat.beq (bcN (12288 + 64 * a + b)) (pc16 (12288 + 64 * a + b)) = true := by decide +kernel
set_option maxRecDepth 100000 in theorem bc_k4 : ∀ a : Fin 64, ∀ b : Fin 64, Nat.beq (bcN (16384 + 64 * a + b)) (pc16 (16384 + 64 * a + b)) = true := by decide +kernel
set_option maxRecDepth 100000 in theorem bc_k5 : ∀ a : Fin 64, ∀ b : Fin 64, Nat.beq (bcN (20480 + 64 * a + b)) (pc16 (20480 + 64 * a + b)) = true := by decide +kernel
set_option maxRecDepth 100000 in theorem bc_k6 : ∀ a : Fin 64, ∀ b : Fin 64, Nat.beq (bcN (24576 + 64 * a + b)) (pc16 (24576 + 64 * a + b)) = true := by decide +kernel
set_option maxRecDepth 100000 in theorem bc_k7 : ∀ a : Fin 64, ∀ b : Fin 64, Nat.beq (bcN (28672 + 64 * a + b)) (pc16 (28672 + 64 * a + b)) = true := by decide +kernel
set_option maxRecDepth 100000 in theorem bc_k8 : ∀ a : Fin 64, ∀ b : Fin 64, Nat.beq (bcN (32768 + 64 * a + b)) (pc16 (32768 + 64 * a + b)) = true := by decide +kernel
set_option maxRecDepth 100000 in theorem bc_k9 : ∀ a : Fin 64, ∀ b : Fin 64, Nat.beq (bcN (36864 + 64 * a + b)) (pc16 (36864 + 64 * a + b)) = true := by decide +kernel
set_option maxRecDepth 100000 in theorem bc_k10 : ∀ a : Fin 64, ∀ b : Fin 64, Nat.beq (bcN (40960 + 64 * a + b)) (pc16 (40960 + 64 * a + b)) = true := by decide +kernel
set_option maxRecDepth 100000 in theorem bc_k11 : ∀ a : Fin 64, ∀ b : Fin 64, Nat.beq (bcN (45056 + 64 * a + b)) (pc16 (45056 + 64 * a + b)) = true := by decide +kernel
set_option maxRecDepth 100000 in theorem bc_k12 : ∀ a : Fin 64, ∀ b : Fin 64, Nat.beq (bcN (49152 + 64 * a + b)) (pc16 (49152 + 64 * a + b)) = true := by decide +kernel
set_option maxRecDepth 100000 in theorem bc_k13 : ∀ a : Fin 64, ∀ b : Fin 64, Nat.beq (bcN (53248 + 64 * a + b)) (pc16 (53248 + 64 * a + b)) = true := by decide +kernel
set_option maxRecDepth 100000 in theorem bc_k14 : ∀ a : Fin 64, ∀ b : Fin 64, Nat.beq (bcN (57344 + 64 * a + b)) (pc16 (57344 + 64 * a + b)) = true := by decide +kernel
set_option maxRecDepth 100000 in theorem bc_k15 : ∀ a : Fin 64, ∀ b : Fin 64, Nat.beq (bcN (61440 + 64 * a + b)) (pc16 (61440 + 64 * a + b)) = true := by decide +kernel
set_option maxRecDepth 100000 in theorem bc_pc16 {x : Nat} (h : x < 65536) : bcN x = pcN 16 x := by
  by_cases h0 : x < 4096
  · exact bc_pc h0
  rw [← pc_16]
  have h1 : x / 4096 = 1 ∨ x / 4096 = 2 ∨ x / 4096 = 3 ∨ x / 4096 = 4 ∨ x / 4096 = 5 ∨ x / 4096 = 6 ∨ x / 4096 = 7 ∨ x / 4096 = 8 ∨ x / 4096 = 9 ∨ x / 4096 = 10 ∨ x / 4096 = 11 ∨ x / 4096 = 12 ∨ x / 4096 = 13 ∨ x / 4096 = 14 ∨ x / 4096 = 15 := by omega
  rcases h1 with h | h | h | h | h | h | h | h | h | h | h | h | h | h | h
  · have := Nat.eq_of_beq_eq_true (bc_k1 ⟨(x - 4096) / 64, by omega⟩ ⟨(x - 4096) % 64, by omega⟩)
    simp only at this
    rw [show 4096 + 64 * ((x - 4096) / 64) + (x - 4096) % 64 = x by omega] at this
    exact this
  · have := Nat.eq_of_beq_eq_true (bc_k2 ⟨(x - 8192) / 64, by omega⟩ ⟨(x - 8192) % 64, by omega⟩)
    simp only at this
    rw [show 8192 + 64 * ((x - 8192) / 64) + (x - 8192) % 64 = x by omega] at this
    exact this
  · have := Nat.eq_of_beq_eq_true (bc_k3 ⟨(x - 12288) / 64, by omega⟩ ⟨(x - 12288) % 64, by omega⟩)
    simp only at this
    rw [show 12288 + 64 * ((x - 12288) / 64) + (x - 12288) % 64 = x by omega] at this
    exact this
  · have := Nat.eq_of_beq_eq_true (bc_k4 ⟨(x - 16384) / 64, by omega⟩ ⟨(x - 16384) % 64, by omega⟩)
    simp only at this
    rw [show 16384 + 64 * ((x - 16384) / 64) + (x - 16384) % 64 = x by omega] at this
    exact this
  · have := Nat.eq_of_beq_eq_true (bc_k5 ⟨(x - 20480) / 64, by omega⟩ ⟨(x - 20480) % 64, by omega⟩)
    simp only at this
    rw [show 20480 + 64 * ((x - 20480) / 64) + (x - 20480) % 64 = x by omega] at this
    exact this
  · have := Nat.eq_of_beq_eq_true (bc_k6 ⟨(x - 24576) / 64, by omega⟩ ⟨(x - 24576) % 64, by omega⟩)
    simp only at this
    rw [show 24576 + 64 * ((x - 24576) / 64) + (x - 24576) % 64 = x by omega] at this
    exact this
  · have := Nat.eq_of_beq_eq_true (bc_k7 ⟨(x - 28672) / 64, by omega⟩ ⟨(x - 28672) % 64, by omega⟩)
    simp only at this
    rw [show 28672 + 64 * ((x - 28672) / 64) + (x - 28672) % 64 = x by omega] at this
    exact this
  · have := Nat.eq_of_beq_eq_true (bc_k8 ⟨(x - 32768) / 64, by omega⟩ ⟨(x - 32768) % 64, by omega⟩)
    simp only at this
    rw [show 32768 + 64 * ((x - 32768) / 64) + (x - 32768) % 64 = x by omega] at this
    exact this
  · have := Nat.eq_of_beq_eq_true (bc_k9 ⟨(x - 36864) / 64, by omega⟩ ⟨(x - 36864) % 64, by omega⟩)
    simp only at this
    rw [show 36864 + 64 * ((x - 36864) / 64) + (x - 36864) % 64 = x by omega] at this
    exact this
  · have := Nat.eq_of_beq_eq_true (bc_k10 ⟨(x - 40960) / 64, by omega⟩ ⟨(x - 40960) % 64, by omega⟩)
    simp only at this
    rw [show 40960 + 64 * ((x - 40960) / 64) + (x - 40960) % 64 = x by omega] at this
    exact this
  · have := Nat.eq_of_beq_eq_true (bc_k11 ⟨(x - 45056) / 64, by omega⟩ ⟨(x - 45056) % 64, by omega⟩)
    simp only at this
    rw [show 45056 + 64 * ((x - 45056) / 64) + (x - 45056) % 64 = x by omega] at this
    exact this
  · have := Nat.eq_of_beq_eq_true (bc_k12 ⟨(x - 49152) / 64, by omega⟩ ⟨(x - 49152) % 64, by omega⟩)
    simp only at this
    rw [show 49152 + 64 * ((x - 49152) / 64) + (x - 49152) % 64 = x by omega] at this
    exact this
  · have := Nat.eq_of_beq_eq_true (bc_k13 ⟨(x - 53248) / 64, by omega⟩ ⟨(x - 53248) % 64, by omega⟩)
    simp only at this
    rw [show 53248 + 64 * ((x - 53248) / 64) + (x - 53248) % 64 = x by omega] at this
    exact this
  · have := Nat.eq_of_beq_eq_true (bc_k14 ⟨(x - 57344) / 64, by omega⟩ ⟨(x - 57344) % 64, by omega⟩)
    simp only at this
    rw [show 57344 + 64 * ((x - 57344) / 64) + (x - 57344) % 64 = x by omega] at this
    exact this
  · have := Nat.eq_of_beq_eq_true (bc_k15 ⟨(x - 61440) / 64, by omega⟩ ⟨(x - 61440) % 64, by omega⟩)
    simp only at this
    rw [show 61440 + 64 * ((x - 61440) / 64) + (x - 61440) % 64 = x by omega] at this
    exact this
set_option maxRecDepth 100000 in theorem f_bitCount16 {sh : Shp} {μ : Mem} {x : Nat} (h : x < 65536) : fJ6_bitCount_0f7a4 sh [(0, (x : Int))] μ = some ((pcN 16 x : Int), μ) := by
  rw [← bc_pc16 h]
  unfold bcN
  dsimp only
  have u1 : o_iushr (x : Int) 1 = ((x >>> 1 : Nat) : Int) := iushr_nat (b := 1) (by omega) (by omega)
  have k1 : x >>> 1 ≤ x := Nat.shiftRight_le x 1
  generalize x >>> 1 = z1 at *
  have a1 : o_iand (z1 : Int) 1431655765 = ((z1 &&& 1431655765 : Nat) : Int) := iand_nat (b := 1431655765) (by omega) (by decide)
  have l1 : z1 &&& 1431655765 ≤ z1 := Nat.and_le_left
  generalize z1 &&& 1431655765 = y1 at *
  have b1 : w32 ((x : Int) - (y1 : Int)) = ((x - y1 : Nat) : Int) := by rw [w32_id ⟨by omega, by omega⟩]; omega
  have l2 : x - y1 < 65536 := by omega
  generalize x - y1 = i1 at *
  have a2 : o_iand (i1 : Int) 858993459 = ((i1 &&& 858993459 : Nat) : Int) := iand_nat (b := 858993459) (by omega) (by decide)
  have u2 : o_iushr (i1 : Int) 2 = ((i1 >>> 2 : Nat) : Int) := iushr_nat (b := 2) (by omega) (by omega)
  have k2 : i1 >>> 2 ≤ i1 := Nat.shiftRight_le i1 2
  generalize i1 >>> 2 = z2 at *
  have a3 : o_iand (z2 : Int) 858993459 = ((z2 &&& 858993459 : Nat) : Int) := iand_nat (b := 858993459) (by omega) (by decide)
  have l3 : i1 &&& 858993459 ≤ i1 := Nat.and_le_left
  have l4 : z2 &&& 858993459 ≤ z2 := Nat.and_le_left
  generalize i1 &&& 858993459 = y2 at *
  generalize z2 &&& 858993459 = y3 at *
  have b2 : w32 ((y2 : Int) + (y3 : Int)) = ((y2 + y3 : Nat) : Int) := by rw [w32_id ⟨by omega, by omega⟩]; omega
  have l5 : y2 + y3 < 131072 := by omega
  generalize y2 + y3 = i2 at *
  have u4 : o_iushr (i2 : Int) 4 = ((i2 >>> 4 : Nat) : Int) := iushr_nat (b := 4) (by omega) (by omega)
  have k4 : i2 >>> 4 ≤ i2 := Nat.shiftRight_le i2 4
  generalize i2 >>> 4 = z4 at *
  have b3 : w32 ((i2 : Int) + (z4 : Int)) = ((i2 + z4 : Nat) : Int) := by rw [w32_id ⟨by omega, by omega⟩]; omega
  have l6 : i2 + z4 < 300000 := by omega
  generalize i2 + z4 = j3 at *
  have a5 : o_iand (j3 : Int) 252645135 = ((j3 &&& 252645135 : Nat) : Int) := iand_nat (b := 252645135) (by omega) (by decide)
  have l7 : j3 &&& 252645135 ≤ j3 := Nat.and_le_left
  generalize j3 &&& 252645135 = i3 at *
  have u6 : o_iushr (i3 : Int) 8 = ((i3 >>> 8 : Nat) : Int) := iushr_nat (b := 8) (by omega) (by omega)
  have k6 : i3 >>> 8 ≤ i3 := Nat.shiftRight_le i3 8
  generalize i3 >>> 8 = z6 at *
  have b4 : w32 ((i3 : Int) + (z6 : Int)) = ((i3 + z6 : Nat) : Int) := by rw [w32_id ⟨by omega, by omega⟩]; omega
  have l8 : i3 + z6 < 700000 := by omega
  generalize i3 + z6 = i4 at *
  have u7 : o_iushr (i4 : Int) 16 = ((i4 >>> 16 : Nat) : Int) := iushr_nat (b := 16) (by omega) (by omega)
  have k7 : i4 >>> 16 ≤ i4 := Nat.shiftRight_le i4 16
  generalize i4 >>> 16 = z7 at *
  have b5 : w32 ((i4 : Int) + (z7 : Int)) = ((i4 + z7 : Nat) : Int) := by rw [w32_id ⟨by omega, by omega⟩]; omega
  have l9 : i4 + z7 < 1400000 := by omega
  generalize i4 + z7 = i5 at *
  have a8 : o_iand (i5 : Int) 63 = ((i5 &&& 63 : Nat) : Int) := iand_nat (b := 63) (by omega) (by decide)
  generalize i5 &&& 63 = i6 at *
  simp -implicitDefEqProofs [fJ6_bitCount_0f7a4, bJ6_bitCount_0f7a4, v_cop, v_c1, v_c2, v_c3, v_c4, v_c5, v_bin, v_bn, v_bn2, v_div, v_dv, v_dv2, v_une, v_un, v_loc, v_num, v_get, v_gt, v_ald, v_al, v_al2, v_len, v_ln, v_rl0, v_rl1, v_rl2, v_rl3, v_rl4, v_rl5, v_cmp, v_cp, v_cp2, v_zC, v_zc, v_con, v_kc, v_and, v_an1, v_an0, v_or, v_or1, v_or0, v_not, v_nt, v_boo, v_bo, v_cnd, v_cd1, v_cd0, v_cnc, v_cc1, v_cc0, v_ev0, v_ev, v_e1, v_e2, v_cve, v_cv, v_cse, v_cs, v_skip, v_seq, v_sq0, v_sq1, v_sqr, v_sts, v_st, v_inc, v_put, v_pt, v_pt2, v_fop, v_fo, v_fo2, v_ast, v_as, v_as2, v_as3, v_aop, v_ao, v_ao2, v_ao3, v_exs, v_ex, v_ifs, v_if1, v_if0, v_ret, v_rt, v_rez, v_rz, v_rev, v_brk, v_sws, v_sw, v_sw2, v_run, v_rb, v_turn, v_tu1, v_tu0, v_tu2, v_tu3, fst1, snd1, Option.map_some, Option.getD_some, enA, en, stE, okb, narV, rf_toNat, rf_nn, List.getElem?_cons_zero, List.getElem?_cons_succ, w32_id, w64_id, ite_t, ite_f, Int.toNat_add, Int.toNat_mul, dec_t, dec_f, u1, a1, b1, a2, u2, a3, b2, u4, b3, a5, u6, b4, u7, b5, a8]
