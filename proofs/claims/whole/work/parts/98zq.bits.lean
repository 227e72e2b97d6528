/-! how many bits are set, up to sixteen -/
set_option maxRecDepth 100000 in theorem bc_ok16 : ∀ a : Fin 256, ∀ b : Fin 256, (Nat.beq (bcN (256 * a + b)) (pc16 (256 * a + b)) && (Nat.ble (pc16 (256 * a + b)) 1 == Nat.beq ((256 * a + b) &&& (256 * a + b - 1)) 0)) = true := by decide +kernel
set_option maxRecDepth 100000 in theorem bc_pc16 {x : Nat} (h : x < 65536) : bcN x = pcN 16 x := by
  have := bc_ok16 ⟨x / 256, by omega⟩ ⟨x % 256, by omega⟩
  simp only at this
  rw [show 256 * (x / 256) + x % 256 = x by omega] at this
  rw [Bool.and_eq_true] at this
  rw [Nat.eq_of_beq_eq_true this.1, pc_16]
set_option maxRecDepth 100000 in theorem one_bit {x : Nat} (h : x < 65536) : x &&& (x - 1) = 0 ↔ pcN 16 x ≤ 1 := by
  have := bc_ok16 ⟨x / 256, by omega⟩ ⟨x % 256, by omega⟩
  simp only at this
  rw [show 256 * (x / 256) + x % 256 = x by omega] at this
  rw [Bool.and_eq_true] at this
  have h2 := eq_of_beq this.2
  rw [pc_16] at h2
  constructor
  · intro z
    rw [z] at h2
    exact Nat.le_of_ble_eq_true (by rw [h2]; rfl)
  · intro z
    rw [Nat.ble_eq_true_of_le z] at h2
    exact Nat.eq_of_beq_eq_true h2.symm
set_option maxRecDepth 100000 in theorem f_bitCount16 {sh : Shp} {μ : Mem} {x : Nat} (h : x < 65536) : fJ6_bitCount_0f7a4 sh [(0, (x : Int))] μ = some ((pcN 16 x : Int), μ) := by
  rw [← bc_pc16 h]
  unfold bcN
  dsimp only
  have u1 : o_iushr (x : Int) 1 = ((x >>> 1 : Nat) : Int) := iushr_nat (b := 1) (by omega) (by omega)
  have k1 : x >>> 1 ≤ x := Nat.shiftRight_le x 1
  generalize x >>> 1 = z1 at *
  have a1 : o_iand (z1 : Int) 1431655765 = ((z1 &&& 1431655765 : Nat) : Int) := iand_nat (b := 1431655765) (by omega) (by decide)
  have l1 : z1 &&& 1431655765 ≤ z1 := Nat.and_le_left
  generalize z1 &&& 1431655765 = y1 at *
  have b1 : w32 ((x : Int) - (y1 : Int)) = ((x - y1 : Nat) : Int) := by rw [w32_id ⟨by omega, by omega⟩]; omega
  have l2 : x - y1 < 65536 := by omega
  generalize x - y1 = i1 at *
  have a2 : o_iand (i1 : Int) 858993459 = ((i1 &&& 858993459 : Nat) : Int) := iand_nat (b := 858993459) (by omega) (by decide)
  have u2 : o_iushr (i1 : Int) 2 = ((i1 >>> 2 : Nat) : Int) := iushr_nat (b := 2) (by omega) (by omega)
  have k2 : i1 >>> 2 ≤ i1 := Nat.shiftRight_le i1 2
  generalize i1 >>> 2 = z2 at *
  have a3 : o_iand (z2 : Int) 858993459 = ((z2 &&& 858993459 : Nat) : Int) := iand_nat (b := 858993459) (by omega) (by decide)
  have l3 : i1 &&& 858993459 ≤ i1 := Nat.and_le_left
  have l4 : z2 &&& 858993459 ≤ z2 := Nat.and_le_left
  generalize i1 &&& 858993459 = y2 at *
  generalize z2 &&& 858993459 = y3 at *
  have b2 : w32 ((y2 : Int) + (y3 : Int)) = ((y2 + y3 : Nat) : Int) := by rw [w32_id ⟨by omega, by omega⟩]; omega
  have l5 : y2 + y3 < 131072 := by omega
  generalize y2 + y3 = i2 at *
  have u4 : o_iushr (i2 : Int) 4 = ((i2 >>> 4 : Nat) : Int) := iushr_nat (b := 4) (by omega) (by omega)
  have k4 : i2 >>> 4 ≤ i2 := Nat.shiftRight_le i2 4
  generalize i2 >>> 4 = z4 at *
  have b3 : w32 ((i2 : Int) + (z4 : Int)) = ((i2 + z4 : Nat) : Int) := by rw [w32_id ⟨by omega, by omega⟩]; omega
  have l6 : i2 + z4 < 300000 := by omega
  generalize i2 + z4 = j3 at *
  have a5 : o_iand (j3 : Int) 252645135 = ((j3 &&& 252645135 : Nat) : Int) := iand_nat (b := 252645135) (by omega) (by decide)
  have l7 : j3 &&& 252645135 ≤ j3 := Nat.and_le_left
  generalize j3 &&& 252645135 = i3 at *
  have u6 : o_iushr (i3 : Int) 8 = ((i3 >>> 8 : Nat) : Int) := iushr_nat (b := 8) (by omega) (by omega)
  have k6 : i3 >>> 8 ≤ i3 := Nat.shiftRight_le i3 8
  generalize i3 >>> 8 = z6 at *
  have b4 : w32 ((i3 : Int) + (z6 : Int)) = ((i3 + z6 : Nat) : Int) := by rw [w32_id ⟨by omega, by omega⟩]; omega
  have l8 : i3 + z6 < 700000 := by omega
  generalize i3 + z6 = i4 at *
  have u7 : o_iushr (i4 : Int) 16 = ((i4 >>> 16 : Nat) : Int) := iushr_nat (b := 16) (by omega) (by omega)
  have k7 : i4 >>> 16 ≤ i4 := Nat.shiftRight_le i4 16
  generalize i4 >>> 16 = z7 at *
  have b5 : w32 ((i4 : Int) + (z7 : Int)) = ((i4 + z7 : Nat) : Int) := by rw [w32_id ⟨by omega, by omega⟩]; omega
  have l9 : i4 + z7 < 1400000 := by omega
  generalize i4 + z7 = i5 at *
  have a8 : o_iand (i5 : Int) 63 = ((i5 &&& 63 : Nat) : Int) := iand_nat (b := 63) (by omega) (by decide)
  generalize i5 &&& 63 = i6 at *
  simp -implicitDefEqProofs [fJ6_bitCount_0f7a4, bJ6_bitCount_0f7a4, v_cop, v_c1, v_c2, v_c3, v_c4, v_c5, v_bin, v_bn, v_bn2, v_div, v_dv, v_dv2, v_une, v_un, v_loc, v_num, v_get, v_gt, v_ald, v_al, v_al2, v_len, v_ln, v_rl0, v_rl1, v_rl2, v_rl3, v_rl4, v_rl5, v_cmp, v_cp, v_cp2, v_zC, v_zc, v_con, v_kc, v_and, v_an1, v_an0, v_or, v_or1, v_or0, v_not, v_nt, v_boo, v_bo, v_cnd, v_cd1, v_cd0, v_cnc, v_cc1, v_cc0, v_ev0, v_ev, v_e1, v_e2, v_cve, v_cv, v_cse, v_cs, v_skip, v_seq, v_sq0, v_sq1, v_sqr, v_sts, v_st, v_inc, v_put, v_pt, v_pt2, v_fop, v_fo, v_fo2, v_ast, v_as, v_as2, v_as3, v_aop, v_ao, v_ao2, v_ao3, v_exs, v_ex, v_ifs, v_if1, v_if0, v_ret, v_rt, v_rez, v_rz, v_rev, v_brk, v_sws, v_sw, v_sw2, v_run, v_rb, v_turn, v_tu1, v_tu0, v_tu2, v_tu3, fst1, snd1, Option.map_some, Option.getD_some, enA, en, stE, okb, narV, rf_toNat, rf_nn, List.getElem?_cons_zero, List.getElem?_cons_succ, w32_id, w64_id, ite_t, ite_f, Int.toNat_add, Int.toNat_mul, dec_t, dec_f, u1, a1, b1, a2, u2, a3, b2, u4, b3, a5, u6, b4, u7, b5, a8]
