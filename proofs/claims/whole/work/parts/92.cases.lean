/-! the law, case by case -/
def STP (RR : Mem → Mem → Prop) (fC fM : Fn) (as : List Vl) : Prop := ∀ μC μM, RR μC μM → ∃ r μC' μM', fC shC ((2, rf 0) :: as) μC = some (r, μC') ∧ fM shM ((2, rf 0) :: as) μM = some (r, μM') ∧ RR μC' μM'
def r32 (a : Int) : Prop := -2147483648 ≤ a ∧ a < 2147483648
def r64 (a : Int) : Prop := -9223372036854775808 ≤ a ∧ a < 9223372036854775808
def bz (x : Int32) : Int := if x = 0 then 0 else 1
theorem bz01 (x : Int32) : bz x = 0 ∨ bz x = 1 := by unfold bz; split <;> simp
theorem bz_rg (x : Int32) (n : Nat) : rg n 0 (bz x) := by
  rcases bz01 x with h | h <;> rw [h] <;> exact ⟨by omega, by omega⟩
theorem bz32 (x : Int32) : Int32.ofInt (bz x) = if x = 0 then 0 else 1 := by
  unfold bz
  split <;> rfl
theorem sok_nil (n : Nat) : sok n [] := fun _ h => by cases h
theorem r32_of (x : Int32) : r32 x.toInt := i32_rg x 0
theorem r64_of (x : Int64) : r64 x.toInt := i64_rg x 0
theorem kl_L_13 : Cond.constantLong RL 13 4294967295 ∈ lw_tbl := List.mem_of_getElem? (i := 1542) (by decide +kernel)
section LC
variable {Γ : Lx} {pc n : Nat} {st : List Value} {μC μM : Mem}
theorem l_bool (K : LK Γ) {x : Int32} (d1 : decode code pc = .ok (.ifCond .eq 7, 3)) (d2 : decode code (pc + 3) = .ok (.iconst 1, 1)) (d3 : decode code (pc + 4) = .ok (.goto 4, 3)) (d4 : decode code (pc + 7) = .ok (.iconst 0, 1)) (k : LW Γ (pc + 8) n (.int (Int32.ofInt (bz x)) :: st) μC μM) : LW Γ pc n (.int x :: st) μC μM := by
  rw [bz32] at k
  refine l_ifeq K (tgt := pc + 7) d1 (by omega) (fun h => ?_) (fun h => ?_)
  · rw [if_pos h] at k
    exact l_iconst K d4 rfl k
  · rw [if_neg h] at k
    exact l_iconst K d2 rfl (l_goto K (tgt := pc + 8) d3 (by omega) k)
end LC
theorem cl_15 : CLw 15 11 yX11_feed cX11_feed 7 (some .int) 3 := ⟨List.mem_of_getElem? (i := 524) (by decide +kernel), List.mem_of_getElem? (i := 100) (by decide +kernel), tb_of (List.mem_of_getElem? (i := 527) (by decide +kernel)) (by decide +kernel), by decide, by decide, by decide +kernel, by decide, List.mem_of_getElem? (i := 525) (by decide +kernel), RX11, TX11, 15, rfl, List.mem_of_getElem? (i := 526) (by decide +kernel), by decide⟩
theorem cl_19 : CLw 19 12 yX12_feed cX12_feed 7 (some .int) 3 := ⟨List.mem_of_getElem? (i := 1037) (by decide +kernel), List.mem_of_getElem? (i := 113) (by decide +kernel), tb_of (List.mem_of_getElem? (i := 1040) (by decide +kernel)) (by decide +kernel), by decide, by decide, by decide +kernel, by decide, List.mem_of_getElem? (i := 1038) (by decide +kernel), RX12, TX12, 33, rfl, List.mem_of_getElem? (i := 1039) (by decide +kernel), by decide⟩
set_option maxRecDepth 10000 in
theorem law_feed {RR : Mem → Mem → Prop} {Γ : Lx} {n : Nat} {μC μM : Mem} (K : LK Γ) (hn : n + 7 ≤ lxL Γ) (h : ∀ a0 a1 a2 : Int, r64 a0 → r64 a1 → r64 a2 → STP RR fX11_feed fX12_feed [(1, a0), (1, a1), (1, a2)]) (hR : RR μC μM) (kk : ∀ μC' μM', RR μC' μM' → LW Γ 989 n [] μC' μM') : LW Γ 144 n [] μC μM := by
  obtain ⟨r, μC1, μM1, e1, e2, hR1⟩ := h ((((lxs Γ (n + 1)).toInt64 <<< (Int32.toInt64 32 &&& 63) ||| (lxs Γ (n + 2)).toInt64 &&& 4294967295)).toInt) ((((lxs Γ (n + 3)).toInt64 <<< (Int32.toInt64 32 &&& 63) ||| (lxs Γ (n + 4)).toInt64 &&& 4294967295)).toInt) ((((lxs Γ (n + 5)).toInt64 <<< (Int32.toInt64 32 &&& 63) ||| (lxs Γ (n + 6)).toInt64 &&& 4294967295)).toInt) (r64_of _) (r64_of _) (r64_of _) μC μM hR
  refine l_x K dL_law_144 ?_
  refine l_s K dL_law_145 ?_
  refine l_i K dL_law_146 ?_
  refine l_iconst (v := nI 1) K dL_law_147 (by decide) ?_
  refine l_iadd K dL_law_148 ?_
  refine l_at (k := 1) K (by omega) dL_law_149 ?_
  refine l_i2l K dL_law_150 ?_
  refine l_bipush (v := 32) K dL_law_151 (by decide) ?_
  refine l_lshl K dL_law_153 ?_
  refine l_s K dL_law_154 ?_
  refine l_i K dL_law_155 ?_
  refine l_iconst (v := nI 2) K dL_law_156 (by decide) ?_
  refine l_iadd K dL_law_157 ?_
  refine l_at (k := 2) K (by omega) dL_law_158 ?_
  refine l_i2l K dL_law_159 ?_
  refine l_ldc2 (v := 4294967295) K dL_law_160 kl_L_13 ?_
  refine l_land K dL_law_163 ?_
  refine l_lor K dL_law_164 ?_
  refine l_s K dL_law_165 ?_
  refine l_i K dL_law_166 ?_
  refine l_iconst (v := nI 3) K dL_law_167 (by decide) ?_
  refine l_iadd K dL_law_168 ?_
  refine l_at (k := 3) K (by omega) dL_law_169 ?_
  refine l_i2l K dL_law_170 ?_
  refine l_bipush (v := 32) K dL_law_171 (by decide) ?_
  refine l_lshl K dL_law_173 ?_
  refine l_s K dL_law_174 ?_
  refine l_i K dL_law_175 ?_
  refine l_iconst (v := nI 4) K dL_law_176 (by decide) ?_
  refine l_iadd K dL_law_177 ?_
  refine l_at (k := 4) K (by omega) dL_law_178 ?_
  refine l_i2l K dL_law_179 ?_
  refine l_ldc2 (v := 4294967295) K dL_law_180 kl_L_13 ?_
  refine l_land K dL_law_183 ?_
  refine l_lor K dL_law_184 ?_
  refine l_s K dL_law_185 ?_
  refine l_i K dL_law_186 ?_
  refine l_iconst (v := nI 5) K dL_law_187 (by decide) ?_
  refine l_iadd K dL_law_188 ?_
  refine l_at (k := 5) K (by omega) dL_law_189 ?_
  refine l_i2l K dL_law_190 ?_
  refine l_bipush (v := 32) K dL_law_191 (by decide) ?_
  refine l_lshl K dL_law_193 ?_
  refine l_s K dL_law_194 ?_
  refine l_i K dL_law_195 ?_
  refine l_bipush (v := nI 6) K dL_law_196 (by decide) ?_
  refine l_iadd K dL_law_198 ?_
  refine l_at (k := 6) K (by omega) dL_law_199 ?_
  refine l_i2l K dL_law_200 ?_
  refine l_ldc2 (v := 4294967295) K dL_law_201 kl_L_13 ?_
  refine l_land K dL_law_204 ?_
  refine l_lor K dL_law_205 ?_
  refine l_callC (as := [(1, ((lxs Γ (n + 1)).toInt64 <<< (Int32.toInt64 32 &&& 63) ||| (lxs Γ (n + 2)).toInt64 &&& 4294967295).toInt), (1, ((lxs Γ (n + 3)).toInt64 <<< (Int32.toInt64 32 &&& 63) ||| (lxs Γ (n + 4)).toInt64 &&& 4294967295).toInt), (1, ((lxs Γ (n + 5)).toInt64 <<< (Int32.toInt64 32 &&& 63) ||| (lxs Γ (n + 6)).toInt64 &&& 4294967295).toInt)]) (rest := []) K mX11_feed cl_15 dL_law_206 (by decide) ⟨by decide, by decide⟩ (by simp [sv, vv]) rfl (sok_l (sok_l (sok_l (sok_nil _) (i64_rg _ _)) (i64_rg _ _)) (i64_rg _ _)) e1 (by decide) (fun _ => ?_)
  refine l_m K dL_law_209 ?_
  refine l_s K dL_law_210 ?_
  refine l_i K dL_law_211 ?_
  refine l_iconst (v := nI 1) K dL_law_212 (by decide) ?_
  refine l_iadd K dL_law_213 ?_
  refine l_at (k := 1) K (by omega) dL_law_214 ?_
  refine l_i2l K dL_law_215 ?_
  refine l_bipush (v := 32) K dL_law_216 (by decide) ?_
  refine l_lshl K dL_law_218 ?_
  refine l_s K dL_law_219 ?_
  refine l_i K dL_law_220 ?_
  refine l_iconst (v := nI 2) K dL_law_221 (by decide) ?_
  refine l_iadd K dL_law_222 ?_
  refine l_at (k := 2) K (by omega) dL_law_223 ?_
  refine l_i2l K dL_law_224 ?_
  refine l_ldc2 (v := 4294967295) K dL_law_225 kl_L_13 ?_
  refine l_land K dL_law_228 ?_
  refine l_lor K dL_law_229 ?_
  refine l_s K dL_law_230 ?_
  refine l_i K dL_law_231 ?_
  refine l_iconst (v := nI 3) K dL_law_232 (by decide) ?_
  refine l_iadd K dL_law_233 ?_
  refine l_at (k := 3) K (by omega) dL_law_234 ?_
  refine l_i2l K dL_law_235 ?_
  refine l_bipush (v := 32) K dL_law_236 (by decide) ?_
  refine l_lshl K dL_law_238 ?_
  refine l_s K dL_law_239 ?_
  refine l_i K dL_law_240 ?_
  refine l_iconst (v := nI 4) K dL_law_241 (by decide) ?_
  refine l_iadd K dL_law_242 ?_
  refine l_at (k := 4) K (by omega) dL_law_243 ?_
  refine l_i2l K dL_law_244 ?_
  refine l_ldc2 (v := 4294967295) K dL_law_245 kl_L_13 ?_
  refine l_land K dL_law_248 ?_
  refine l_lor K dL_law_249 ?_
  refine l_s K dL_law_250 ?_
  refine l_i K dL_law_251 ?_
  refine l_iconst (v := nI 5) K dL_law_252 (by decide) ?_
  refine l_iadd K dL_law_253 ?_
  refine l_at (k := 5) K (by omega) dL_law_254 ?_
  refine l_i2l K dL_law_255 ?_
  refine l_bipush (v := 32) K dL_law_256 (by decide) ?_
  refine l_lshl K dL_law_258 ?_
  refine l_s K dL_law_259 ?_
  refine l_i K dL_law_260 ?_
  refine l_bipush (v := nI 6) K dL_law_261 (by decide) ?_
  refine l_iadd K dL_law_263 ?_
  refine l_at (k := 6) K (by omega) dL_law_264 ?_
  refine l_i2l K dL_law_265 ?_
  refine l_ldc2 (v := 4294967295) K dL_law_266 kl_L_13 ?_
  refine l_land K dL_law_269 ?_
  refine l_lor K dL_law_270 ?_
  refine l_callM (as := [(1, ((lxs Γ (n + 1)).toInt64 <<< (Int32.toInt64 32 &&& 63) ||| (lxs Γ (n + 2)).toInt64 &&& 4294967295).toInt), (1, ((lxs Γ (n + 3)).toInt64 <<< (Int32.toInt64 32 &&& 63) ||| (lxs Γ (n + 4)).toInt64 &&& 4294967295).toInt), (1, ((lxs Γ (n + 5)).toInt64 <<< (Int32.toInt64 32 &&& 63) ||| (lxs Γ (n + 6)).toInt64 &&& 4294967295).toInt)]) (rest := [vv [] (rk (some .int)) r]) K mX12_feed cl_19 dL_law_271 (by decide) ⟨by decide, by decide⟩ (by simp [sv, vv]) rfl (sok_l (sok_l (sok_l (sok_nil _) (i64_rg _ _)) (i64_rg _ _)) (i64_rg _ _)) e2 (by show (Value.category _ + 0) ≤ 8; simp [rk, vv, Value.category]) (fun _ => ?_)
  refine l_icmpeq K (tgt := 989) dL_law_274 rfl ?_
  exact kk _ _ hR1
theorem cl_20 : CLw 20 11 yX11_flock cX11_flock 3 (some .int) 0 := ⟨List.mem_of_getElem? (i := 532) (by decide +kernel), List.mem_of_getElem? (i := 100) (by decide +kernel), tb_of (List.mem_of_getElem? (i := 535) (by decide +kernel)) (by decide +kernel), by decide, by decide, by decide +kernel, by decide, List.mem_of_getElem? (i := 533) (by decide +kernel), RX11, TX11, 15, rfl, List.mem_of_getElem? (i := 534) (by decide +kernel), by decide⟩
theorem cl_24 : CLw 24 12 yX12_flock cX12_flock 2 (some .int) 0 := ⟨List.mem_of_getElem? (i := 1181) (by decide +kernel), List.mem_of_getElem? (i := 113) (by decide +kernel), tb_of (List.mem_of_getElem? (i := 1184) (by decide +kernel)) (by decide +kernel), by decide, by decide, by decide +kernel, by decide, List.mem_of_getElem? (i := 1182) (by decide +kernel), RX12, TX12, 33, rfl, List.mem_of_getElem? (i := 1183) (by decide +kernel), by decide⟩
set_option maxRecDepth 10000 in
theorem law_flock {RR : Mem → Mem → Prop} {Γ : Lx} {n : Nat} {μC μM : Mem} (K : LK Γ) (hn : n + 7 ≤ lxL Γ) (h : STP RR fX11_flock fX12_flock []) (hR : RR μC μM) (kk : ∀ μC' μM', RR μC' μM' → LW Γ 989 n [] μC' μM') : LW Γ 279 n [] μC μM := by
  obtain ⟨r, μC1, μM1, e1, e2, hR1⟩ := h μC μM hR
  refine l_x K dL_law_279 ?_
  refine l_callC (as := []) (rest := []) K mX11_flock cl_20 dL_law_280 (by decide) ⟨by decide, by decide⟩ (by simp [sv, vv]) rfl (sok_nil _) e1 (by decide) (fun _ => ?_)
  refine l_m K dL_law_283 ?_
  refine l_callM (as := []) (rest := [vv [] (rk (some .int)) r]) K mX12_flock cl_24 dL_law_284 (by decide) ⟨by decide, by decide⟩ (by simp [sv, vv]) rfl (sok_nil _) e2 (by show (Value.category _ + 0) ≤ 8; simp [rk, vv, Value.category]) (fun _ => ?_)
  refine l_icmpeq K (tgt := 989) dL_law_287 rfl ?_
  exact kk _ _ hR1
theorem cl_25 : CLw 25 11 yX11_beast cX11_beast 3 (some .int) 2 := ⟨List.mem_of_getElem? (i := 755) (by decide +kernel), List.mem_of_getElem? (i := 100) (by decide +kernel), tb_of (List.mem_of_getElem? (i := 758) (by decide +kernel)) (by decide +kernel), by decide, by decide, by decide +kernel, by decide, List.mem_of_getElem? (i := 756) (by decide +kernel), RX11, TX11, 15, rfl, List.mem_of_getElem? (i := 757) (by decide +kernel), by decide⟩
theorem cl_29 : CLw 29 12 yX12_beast cX12_beast 3 (some .int) 2 := ⟨List.mem_of_getElem? (i := 1308) (by decide +kernel), List.mem_of_getElem? (i := 113) (by decide +kernel), tb_of (List.mem_of_getElem? (i := 1311) (by decide +kernel)) (by decide +kernel), by decide, by decide, by decide +kernel, by decide, List.mem_of_getElem? (i := 1309) (by decide +kernel), RX12, TX12, 33, rfl, List.mem_of_getElem? (i := 1310) (by decide +kernel), by decide⟩
set_option maxRecDepth 10000 in
theorem law_beast {RR : Mem → Mem → Prop} {Γ : Lx} {n : Nat} {μC μM : Mem} (K : LK Γ) (hn : n + 7 ≤ lxL Γ) (h : ∀ a0 a1 : Int, r32 a0 → r32 a1 → STP RR fX11_beast fX12_beast [(0, a0), (0, a1)]) (hR : RR μC μM) (kk : ∀ μC' μM', RR μC' μM' → LW Γ 989 n [] μC' μM') : LW Γ 292 n [] μC μM := by
  obtain ⟨r, μC1, μM1, e1, e2, hR1⟩ := h ((lxs Γ (n + 1)).toInt) ((lxs Γ (n + 2)).toInt) (r32_of _) (r32_of _) μC μM hR
  refine l_x K dL_law_292 ?_
  refine l_s K dL_law_293 ?_
  refine l_i K dL_law_294 ?_
  refine l_iconst (v := nI 1) K dL_law_295 (by decide) ?_
  refine l_iadd K dL_law_296 ?_
  refine l_at (k := 1) K (by omega) dL_law_297 ?_
  refine l_s K dL_law_298 ?_
  refine l_i K dL_law_299 ?_
  refine l_iconst (v := nI 2) K dL_law_300 (by decide) ?_
  refine l_iadd K dL_law_301 ?_
  refine l_at (k := 2) K (by omega) dL_law_302 ?_
  refine l_callC (as := [(0, (lxs Γ (n + 1)).toInt), (0, (lxs Γ (n + 2)).toInt)]) (rest := []) K mX11_beast cl_25 dL_law_303 (by decide) ⟨by decide, by decide⟩ (by simp [sv, vv]) rfl (sok_i (sok_i (sok_nil _) (i32_rg _ _)) (i32_rg _ _)) e1 (by decide) (fun _ => ?_)
  refine l_m K dL_law_306 ?_
  refine l_s K dL_law_307 ?_
  refine l_i K dL_law_308 ?_
  refine l_iconst (v := nI 1) K dL_law_309 (by decide) ?_
  refine l_iadd K dL_law_310 ?_
  refine l_at (k := 1) K (by omega) dL_law_311 ?_
  refine l_s K dL_law_312 ?_
  refine l_i K dL_law_313 ?_
  refine l_iconst (v := nI 2) K dL_law_314 (by decide) ?_
  refine l_iadd K dL_law_315 ?_
  refine l_at (k := 2) K (by omega) dL_law_316 ?_
  refine l_callM (as := [(0, (lxs Γ (n + 1)).toInt), (0, (lxs Γ (n + 2)).toInt)]) (rest := [vv [] (rk (some .int)) r]) K mX12_beast cl_29 dL_law_317 (by decide) ⟨by decide, by decide⟩ (by simp [sv, vv]) rfl (sok_i (sok_i (sok_nil _) (i32_rg _ _)) (i32_rg _ _)) e2 (by show (Value.category _ + 0) ≤ 8; simp [rk, vv, Value.category]) (fun _ => ?_)
  refine l_icmpeq K (tgt := 989) dL_law_320 rfl ?_
  exact kk _ _ hR1
theorem cl_30 : CLw 30 11 yX11_liking cX11_liking 3 (some .int) 2 := ⟨List.mem_of_getElem? (i := 767) (by decide +kernel), List.mem_of_getElem? (i := 100) (by decide +kernel), tb_of (List.mem_of_getElem? (i := 770) (by decide +kernel)) (by decide +kernel), by decide, by decide, by decide +kernel, by decide, List.mem_of_getElem? (i := 768) (by decide +kernel), RX11, TX11, 15, rfl, List.mem_of_getElem? (i := 769) (by decide +kernel), by decide⟩
theorem cl_33 : CLw 33 12 yX12_liking cX12_liking 3 (some .int) 2 := ⟨List.mem_of_getElem? (i := 1335) (by decide +kernel), List.mem_of_getElem? (i := 113) (by decide +kernel), tb_of (List.mem_of_getElem? (i := 1338) (by decide +kernel)) (by decide +kernel), by decide, by decide, by decide +kernel, by decide, List.mem_of_getElem? (i := 1336) (by decide +kernel), RX12, TX12, 33, rfl, List.mem_of_getElem? (i := 1337) (by decide +kernel), by decide⟩
set_option maxRecDepth 10000 in
theorem law_liking {RR : Mem → Mem → Prop} {Γ : Lx} {n : Nat} {μC μM : Mem} (K : LK Γ) (hn : n + 7 ≤ lxL Γ) (h : ∀ a0 a1 : Int, r32 a0 → r32 a1 → STP RR fX11_liking fX12_liking [(0, a0), (0, a1)]) (hR : RR μC μM) (kk : ∀ μC' μM', RR μC' μM' → LW Γ 989 n [] μC' μM') : LW Γ 325 n [] μC μM := by
  obtain ⟨r, μC1, μM1, e1, e2, hR1⟩ := h ((lxs Γ (n + 1)).toInt) ((lxs Γ (n + 2)).toInt) (r32_of _) (r32_of _) μC μM hR
  refine l_x K dL_law_325 ?_
  refine l_s K dL_law_326 ?_
  refine l_i K dL_law_327 ?_
  refine l_iconst (v := nI 1) K dL_law_328 (by decide) ?_
  refine l_iadd K dL_law_329 ?_
  refine l_at (k := 1) K (by omega) dL_law_330 ?_
  refine l_s K dL_law_331 ?_
  refine l_i K dL_law_332 ?_
  refine l_iconst (v := nI 2) K dL_law_333 (by decide) ?_
  refine l_iadd K dL_law_334 ?_
  refine l_at (k := 2) K (by omega) dL_law_335 ?_
  refine l_callC (as := [(0, (lxs Γ (n + 1)).toInt), (0, (lxs Γ (n + 2)).toInt)]) (rest := []) K mX11_liking cl_30 dL_law_336 (by decide) ⟨by decide, by decide⟩ (by simp [sv, vv]) rfl (sok_i (sok_i (sok_nil _) (i32_rg _ _)) (i32_rg _ _)) e1 (by decide) (fun _ => ?_)
  refine l_m K dL_law_339 ?_
  refine l_s K dL_law_340 ?_
  refine l_i K dL_law_341 ?_
  refine l_iconst (v := nI 1) K dL_law_342 (by decide) ?_
  refine l_iadd K dL_law_343 ?_
  refine l_at (k := 1) K (by omega) dL_law_344 ?_
  refine l_s K dL_law_345 ?_
  refine l_i K dL_law_346 ?_
  refine l_iconst (v := nI 2) K dL_law_347 (by decide) ?_
  refine l_iadd K dL_law_348 ?_
  refine l_at (k := 2) K (by omega) dL_law_349 ?_
  refine l_callM (as := [(0, (lxs Γ (n + 1)).toInt), (0, (lxs Γ (n + 2)).toInt)]) (rest := [vv [] (rk (some .int)) r]) K mX12_liking cl_33 dL_law_350 (by decide) ⟨by decide, by decide⟩ (by simp [sv, vv]) rfl (sok_i (sok_i (sok_nil _) (i32_rg _ _)) (i32_rg _ _)) e2 (by show (Value.category _ + 0) ≤ 8; simp [rk, vv, Value.category]) (fun _ => ?_)
  refine l_icmpeq K (tgt := 989) dL_law_353 rfl ?_
  exact kk _ _ hR1
theorem cl_34 : CLw 34 11 yX11_place cX11_place 3 (some .int) 1 := ⟨List.mem_of_getElem? (i := 783) (by decide +kernel), List.mem_of_getElem? (i := 100) (by decide +kernel), tb_of (List.mem_of_getElem? (i := 786) (by decide +kernel)) (by decide +kernel), by decide, by decide, by decide +kernel, by decide, List.mem_of_getElem? (i := 784) (by decide +kernel), RX11, TX11, 15, rfl, List.mem_of_getElem? (i := 785) (by decide +kernel), by decide⟩
theorem cl_38 : CLw 38 12 yX12_place cX12_place 2 (some .int) 1 := ⟨List.mem_of_getElem? (i := 1347) (by decide +kernel), List.mem_of_getElem? (i := 113) (by decide +kernel), tb_of (List.mem_of_getElem? (i := 1350) (by decide +kernel)) (by decide +kernel), by decide, by decide, by decide +kernel, by decide, List.mem_of_getElem? (i := 1348) (by decide +kernel), RX12, TX12, 33, rfl, List.mem_of_getElem? (i := 1349) (by decide +kernel), by decide⟩
set_option maxRecDepth 10000 in
theorem law_place {RR : Mem → Mem → Prop} {Γ : Lx} {n : Nat} {μC μM : Mem} (K : LK Γ) (hn : n + 7 ≤ lxL Γ) (h : ∀ a0 : Int, r32 a0 → STP RR fX11_place fX12_place [(0, a0)]) (hR : RR μC μM) (kk : ∀ μC' μM', RR μC' μM' → LW Γ 989 n [] μC' μM') : LW Γ 358 n [] μC μM := by
  obtain ⟨r, μC1, μM1, e1, e2, hR1⟩ := h ((lxs Γ (n + 1)).toInt) (r32_of _) μC μM hR
  refine l_x K dL_law_358 ?_
  refine l_s K dL_law_359 ?_
  refine l_i K dL_law_360 ?_
  refine l_iconst (v := nI 1) K dL_law_361 (by decide) ?_
  refine l_iadd K dL_law_362 ?_
  refine l_at (k := 1) K (by omega) dL_law_363 ?_
  refine l_callC (as := [(0, (lxs Γ (n + 1)).toInt)]) (rest := []) K mX11_place cl_34 dL_law_364 (by decide) ⟨by decide, by decide⟩ (by simp [sv, vv]) rfl (sok_i (sok_nil _) (i32_rg _ _)) e1 (by decide) (fun _ => ?_)
  refine l_m K dL_law_367 ?_
  refine l_s K dL_law_368 ?_
  refine l_i K dL_law_369 ?_
  refine l_iconst (v := nI 1) K dL_law_370 (by decide) ?_
  refine l_iadd K dL_law_371 ?_
  refine l_at (k := 1) K (by omega) dL_law_372 ?_
  refine l_callM (as := [(0, (lxs Γ (n + 1)).toInt)]) (rest := [vv [] (rk (some .int)) r]) K mX12_place cl_38 dL_law_373 (by decide) ⟨by decide, by decide⟩ (by simp [sv, vv]) rfl (sok_i (sok_nil _) (i32_rg _ _)) e2 (by show (Value.category _ + 0) ≤ 8; simp [rk, vv, Value.category]) (fun _ => ?_)
  refine l_icmpeq K (tgt := 989) dL_law_376 rfl ?_
  exact kk _ _ hR1
theorem cl_39 : CLw 39 11 yX11_away cX11_away 3 (some .boolean) 2 := ⟨List.mem_of_getElem? (i := 791) (by decide +kernel), List.mem_of_getElem? (i := 100) (by decide +kernel), tb_of (List.mem_of_getElem? (i := 794) (by decide +kernel)) (by decide +kernel), by decide, by decide, by decide +kernel, by decide, List.mem_of_getElem? (i := 792) (by decide +kernel), RX11, TX11, 15, rfl, List.mem_of_getElem? (i := 793) (by decide +kernel), by decide⟩
theorem cl_43 : CLw 43 12 yX12_away cX12_away 3 (some .boolean) 2 := ⟨List.mem_of_getElem? (i := 1363) (by decide +kernel), List.mem_of_getElem? (i := 113) (by decide +kernel), tb_of (List.mem_of_getElem? (i := 1366) (by decide +kernel)) (by decide +kernel), by decide, by decide, by decide +kernel, by decide, List.mem_of_getElem? (i := 1364) (by decide +kernel), RX12, TX12, 33, rfl, List.mem_of_getElem? (i := 1365) (by decide +kernel), by decide⟩
set_option maxRecDepth 10000 in
theorem law_away {RR : Mem → Mem → Prop} {Γ : Lx} {n : Nat} {μC μM : Mem} (K : LK Γ) (hn : n + 7 ≤ lxL Γ) (h : ∀ a0 a1 : Int, r32 a0 → (a1 = 0 ∨ a1 = 1) → STP RR fX11_away fX12_away [(0, a0), (0, a1)]) (hR : RR μC μM) (kk : ∀ μC' μM', RR μC' μM' → LW Γ 989 n [] μC' μM') : LW Γ 381 n [] μC μM := by
  obtain ⟨r, μC1, μM1, e1, e2, hR1⟩ := h ((lxs Γ (n + 1)).toInt) (bz (lxs Γ (n + 2))) (r32_of _) (bz01 _) μC μM hR
  refine l_x K dL_law_381 ?_
  refine l_s K dL_law_382 ?_
  refine l_i K dL_law_383 ?_
  refine l_iconst (v := nI 1) K dL_law_384 (by decide) ?_
  refine l_iadd K dL_law_385 ?_
  refine l_at (k := 1) K (by omega) dL_law_386 ?_
  refine l_s K dL_law_387 ?_
  refine l_i K dL_law_388 ?_
  refine l_iconst (v := nI 2) K dL_law_389 (by decide) ?_
  refine l_iadd K dL_law_390 ?_
  refine l_at (k := 2) K (by omega) dL_law_391 ?_
  refine l_bool K dL_law_392 dL_law_395 dL_law_396 dL_law_399 ?_
  refine l_callC (as := [(0, (lxs Γ (n + 1)).toInt), (0, bz (lxs Γ (n + 2)))]) (rest := []) K mX11_away cl_39 dL_law_400 (by decide) ⟨by decide, by decide⟩ (by simp [sv, vv]) rfl (sok_i (sok_i (sok_nil _) (bz_rg _ _)) (i32_rg _ _)) e1 (by decide) (fun _ => ?_)
  refine l_m K dL_law_403 ?_
  refine l_s K dL_law_404 ?_
  refine l_i K dL_law_405 ?_
  refine l_iconst (v := nI 1) K dL_law_406 (by decide) ?_
  refine l_iadd K dL_law_407 ?_
  refine l_at (k := 1) K (by omega) dL_law_408 ?_
  refine l_s K dL_law_409 ?_
  refine l_i K dL_law_410 ?_
  refine l_iconst (v := nI 2) K dL_law_411 (by decide) ?_
  refine l_iadd K dL_law_412 ?_
  refine l_at (k := 2) K (by omega) dL_law_413 ?_
  refine l_bool K dL_law_414 dL_law_417 dL_law_418 dL_law_421 ?_
  refine l_callM (as := [(0, (lxs Γ (n + 1)).toInt), (0, bz (lxs Γ (n + 2)))]) (rest := [vv [] (rk (some .boolean)) r]) K mX12_away cl_43 dL_law_422 (by decide) ⟨by decide, by decide⟩ (by simp [sv, vv]) rfl (sok_i (sok_i (sok_nil _) (bz_rg _ _)) (i32_rg _ _)) e2 (by show (Value.category _ + 0) ≤ 8; simp [rk, vv, Value.category]) (fun _ => ?_)
  refine l_icmpeq K (tgt := 989) dL_law_425 rfl ?_
  exact kk _ _ hR1
theorem cl_44 : CLw 44 11 yX11_evening cX11_evening 3 (some .int) 1 := ⟨List.mem_of_getElem? (i := 807) (by decide +kernel), List.mem_of_getElem? (i := 100) (by decide +kernel), tb_of (List.mem_of_getElem? (i := 810) (by decide +kernel)) (by decide +kernel), by decide, by decide, by decide +kernel, by decide, List.mem_of_getElem? (i := 808) (by decide +kernel), RX11, TX11, 15, rfl, List.mem_of_getElem? (i := 809) (by decide +kernel), by decide⟩
theorem cl_47 : CLw 47 12 yX12_evening cX12_evening 3 (some .int) 1 := ⟨List.mem_of_getElem? (i := 1375) (by decide +kernel), List.mem_of_getElem? (i := 113) (by decide +kernel), tb_of (List.mem_of_getElem? (i := 1378) (by decide +kernel)) (by decide +kernel), by decide, by decide, by decide +kernel, by decide, List.mem_of_getElem? (i := 1376) (by decide +kernel), RX12, TX12, 33, rfl, List.mem_of_getElem? (i := 1377) (by decide +kernel), by decide⟩
set_option maxRecDepth 10000 in
theorem law_evening {RR : Mem → Mem → Prop} {Γ : Lx} {n : Nat} {μC μM : Mem} (K : LK Γ) (hn : n + 7 ≤ lxL Γ) (h : ∀ a0 : Int, r32 a0 → STP RR fX11_evening fX12_evening [(0, a0)]) (hR : RR μC μM) (kk : ∀ μC' μM', RR μC' μM' → LW Γ 989 n [] μC' μM') : LW Γ 430 n [] μC μM := by
  obtain ⟨r, μC1, μM1, e1, e2, hR1⟩ := h ((lxs Γ (n + 1)).toInt) (r32_of _) μC μM hR
  refine l_x K dL_law_430 ?_
  refine l_s K dL_law_431 ?_
  refine l_i K dL_law_432 ?_
  refine l_iconst (v := nI 1) K dL_law_433 (by decide) ?_
  refine l_iadd K dL_law_434 ?_
  refine l_at (k := 1) K (by omega) dL_law_435 ?_
  refine l_callC (as := [(0, (lxs Γ (n + 1)).toInt)]) (rest := []) K mX11_evening cl_44 dL_law_436 (by decide) ⟨by decide, by decide⟩ (by simp [sv, vv]) rfl (sok_i (sok_nil _) (i32_rg _ _)) e1 (by decide) (fun _ => ?_)
  refine l_m K dL_law_439 ?_
  refine l_s K dL_law_440 ?_
  refine l_i K dL_law_441 ?_
  refine l_iconst (v := nI 1) K dL_law_442 (by decide) ?_
  refine l_iadd K dL_law_443 ?_
  refine l_at (k := 1) K (by omega) dL_law_444 ?_
  refine l_callM (as := [(0, (lxs Γ (n + 1)).toInt)]) (rest := [vv [] (rk (some .int)) r]) K mX12_evening cl_47 dL_law_445 (by decide) ⟨by decide, by decide⟩ (by simp [sv, vv]) rfl (sok_i (sok_nil _) (i32_rg _ _)) e2 (by show (Value.category _ + 0) ≤ 8; simp [rk, vv, Value.category]) (fun _ => ?_)
  refine l_icmpeq K (tgt := 989) dL_law_448 rfl ?_
  exact kk _ _ hR1
theorem cl_48 : CLw 48 11 yX11_settled cX11_settled 2 (some .int) 0 := ⟨List.mem_of_getElem? (i := 859) (by decide +kernel), List.mem_of_getElem? (i := 100) (by decide +kernel), tb_of (List.mem_of_getElem? (i := 862) (by decide +kernel)) (by decide +kernel), by decide, by decide, by decide +kernel, by decide, List.mem_of_getElem? (i := 860) (by decide +kernel), RX11, TX11, 15, rfl, List.mem_of_getElem? (i := 861) (by decide +kernel), by decide⟩
theorem cl_51 : CLw 51 12 yX12_settled cX12_settled 5 (some .int) 0 := ⟨List.mem_of_getElem? (i := 1402) (by decide +kernel), List.mem_of_getElem? (i := 113) (by decide +kernel), tb_of (List.mem_of_getElem? (i := 1405) (by decide +kernel)) (by decide +kernel), by decide, by decide, by decide +kernel, by decide, List.mem_of_getElem? (i := 1403) (by decide +kernel), RX12, TX12, 33, rfl, List.mem_of_getElem? (i := 1404) (by decide +kernel), by decide⟩
set_option maxRecDepth 10000 in
theorem law_settled {RR : Mem → Mem → Prop} {Γ : Lx} {n : Nat} {μC μM : Mem} (K : LK Γ) (hn : n + 7 ≤ lxL Γ) (h : STP RR fX11_settled fX12_settled []) (hR : RR μC μM) (kk : ∀ μC' μM', RR μC' μM' → LW Γ 989 n [] μC' μM') : LW Γ 453 n [] μC μM := by
  obtain ⟨r, μC1, μM1, e1, e2, hR1⟩ := h μC μM hR
  refine l_x K dL_law_453 ?_
  refine l_callC (as := []) (rest := []) K mX11_settled cl_48 dL_law_454 (by decide) ⟨by decide, by decide⟩ (by simp [sv, vv]) rfl (sok_nil _) e1 (by decide) (fun _ => ?_)
  refine l_m K dL_law_457 ?_
  refine l_callM (as := []) (rest := [vv [] (rk (some .int)) r]) K mX12_settled cl_51 dL_law_458 (by decide) ⟨by decide, by decide⟩ (by simp [sv, vv]) rfl (sok_nil _) e2 (by show (Value.category _ + 0) ≤ 8; simp [rk, vv, Value.category]) (fun _ => ?_)
  refine l_icmpeq K (tgt := 989) dL_law_461 rfl ?_
  exact kk _ _ hR1
theorem cl_52 : CLw 52 11 yX11_beside cX11_beside 3 (some .int) 2 := ⟨List.mem_of_getElem? (i := 864) (by decide +kernel), List.mem_of_getElem? (i := 100) (by decide +kernel), tb_of (List.mem_of_getElem? (i := 867) (by decide +kernel)) (by decide +kernel), by decide, by decide, by decide +kernel, by decide, List.mem_of_getElem? (i := 865) (by decide +kernel), RX11, TX11, 15, rfl, List.mem_of_getElem? (i := 866) (by decide +kernel), by decide⟩
theorem cl_55 : CLw 55 12 yX12_beside cX12_beside 3 (some .int) 2 := ⟨List.mem_of_getElem? (i := 1406) (by decide +kernel), List.mem_of_getElem? (i := 113) (by decide +kernel), tb_of (List.mem_of_getElem? (i := 1409) (by decide +kernel)) (by decide +kernel), by decide, by decide, by decide +kernel, by decide, List.mem_of_getElem? (i := 1407) (by decide +kernel), RX12, TX12, 33, rfl, List.mem_of_getElem? (i := 1408) (by decide +kernel), by decide⟩
set_option maxRecDepth 10000 in
theorem law_beside {RR : Mem → Mem → Prop} {Γ : Lx} {n : Nat} {μC μM : Mem} (K : LK Γ) (hn : n + 7 ≤ lxL Γ) (h : ∀ a0 a1 : Int, r32 a0 → r32 a1 → STP RR fX11_beside fX12_beside [(0, a0), (0, a1)]) (hR : RR μC μM) (kk : ∀ μC' μM', RR μC' μM' → LW Γ 989 n [] μC' μM') : LW Γ 466 n [] μC μM := by
  obtain ⟨r, μC1, μM1, e1, e2, hR1⟩ := h ((lxs Γ (n + 1)).toInt) ((lxs Γ (n + 2)).toInt) (r32_of _) (r32_of _) μC μM hR
  refine l_x K dL_law_466 ?_
  refine l_s K dL_law_467 ?_
  refine l_i K dL_law_468 ?_
  refine l_iconst (v := nI 1) K dL_law_469 (by decide) ?_
  refine l_iadd K dL_law_470 ?_
  refine l_at (k := 1) K (by omega) dL_law_471 ?_
  refine l_s K dL_law_472 ?_
  refine l_i K dL_law_473 ?_
  refine l_iconst (v := nI 2) K dL_law_474 (by decide) ?_
  refine l_iadd K dL_law_475 ?_
  refine l_at (k := 2) K (by omega) dL_law_476 ?_
  refine l_callC (as := [(0, (lxs Γ (n + 1)).toInt), (0, (lxs Γ (n + 2)).toInt)]) (rest := []) K mX11_beside cl_52 dL_law_477 (by decide) ⟨by decide, by decide⟩ (by simp [sv, vv]) rfl (sok_i (sok_i (sok_nil _) (i32_rg _ _)) (i32_rg _ _)) e1 (by decide) (fun _ => ?_)
  refine l_m K dL_law_480 ?_
  refine l_s K dL_law_481 ?_
  refine l_i K dL_law_482 ?_
  refine l_iconst (v := nI 1) K dL_law_483 (by decide) ?_
  refine l_iadd K dL_law_484 ?_
  refine l_at (k := 1) K (by omega) dL_law_485 ?_
  refine l_s K dL_law_486 ?_
  refine l_i K dL_law_487 ?_
  refine l_iconst (v := nI 2) K dL_law_488 (by decide) ?_
  refine l_iadd K dL_law_489 ?_
  refine l_at (k := 2) K (by omega) dL_law_490 ?_
  refine l_callM (as := [(0, (lxs Γ (n + 1)).toInt), (0, (lxs Γ (n + 2)).toInt)]) (rest := [vv [] (rk (some .int)) r]) K mX12_beside cl_55 dL_law_491 (by decide) ⟨by decide, by decide⟩ (by simp [sv, vv]) rfl (sok_i (sok_i (sok_nil _) (i32_rg _ _)) (i32_rg _ _)) e2 (by show (Value.category _ + 0) ≤ 8; simp [rk, vv, Value.category]) (fun _ => ?_)
  refine l_icmpeq K (tgt := 989) dL_law_494 rfl ?_
  exact kk _ _ hR1
theorem cl_56 : CLw 56 11 yX11_friends cX11_friends 5 (some .int) 1 := ⟨List.mem_of_getElem? (i := 868) (by decide +kernel), List.mem_of_getElem? (i := 100) (by decide +kernel), tb_of (List.mem_of_getElem? (i := 871) (by decide +kernel)) (by decide +kernel), by decide, by decide, by decide +kernel, by decide, List.mem_of_getElem? (i := 869) (by decide +kernel), RX11, TX11, 15, rfl, List.mem_of_getElem? (i := 870) (by decide +kernel), by decide⟩
theorem cl_59 : CLw 59 12 yX12_friends cX12_friends 5 (some .int) 1 := ⟨List.mem_of_getElem? (i := 1410) (by decide +kernel), List.mem_of_getElem? (i := 113) (by decide +kernel), tb_of (List.mem_of_getElem? (i := 1413) (by decide +kernel)) (by decide +kernel), by decide, by decide, by decide +kernel, by decide, List.mem_of_getElem? (i := 1411) (by decide +kernel), RX12, TX12, 33, rfl, List.mem_of_getElem? (i := 1412) (by decide +kernel), by decide⟩
set_option maxRecDepth 10000 in
theorem law_friends {RR : Mem → Mem → Prop} {Γ : Lx} {n : Nat} {μC μM : Mem} (K : LK Γ) (hn : n + 7 ≤ lxL Γ) (h : ∀ a0 : Int, r32 a0 → STP RR fX11_friends fX12_friends [(0, a0)]) (hR : RR μC μM) (kk : ∀ μC' μM', RR μC' μM' → LW Γ 989 n [] μC' μM') : LW Γ 499 n [] μC μM := by
  obtain ⟨r, μC1, μM1, e1, e2, hR1⟩ := h ((lxs Γ (n + 1)).toInt) (r32_of _) μC μM hR
  refine l_x K dL_law_499 ?_
  refine l_s K dL_law_500 ?_
  refine l_i K dL_law_501 ?_
  refine l_iconst (v := nI 1) K dL_law_502 (by decide) ?_
  refine l_iadd K dL_law_503 ?_
  refine l_at (k := 1) K (by omega) dL_law_504 ?_
  refine l_callC (as := [(0, (lxs Γ (n + 1)).toInt)]) (rest := []) K mX11_friends cl_56 dL_law_505 (by decide) ⟨by decide, by decide⟩ (by simp [sv, vv]) rfl (sok_i (sok_nil _) (i32_rg _ _)) e1 (by decide) (fun _ => ?_)
  refine l_m K dL_law_508 ?_
  refine l_s K dL_law_509 ?_
  refine l_i K dL_law_510 ?_
  refine l_iconst (v := nI 1) K dL_law_511 (by decide) ?_
  refine l_iadd K dL_law_512 ?_
  refine l_at (k := 1) K (by omega) dL_law_513 ?_
  refine l_callM (as := [(0, (lxs Γ (n + 1)).toInt)]) (rest := [vv [] (rk (some .int)) r]) K mX12_friends cl_59 dL_law_514 (by decide) ⟨by decide, by decide⟩ (by simp [sv, vv]) rfl (sok_i (sok_nil _) (i32_rg _ _)) e2 (by show (Value.category _ + 0) ≤ 8; simp [rk, vv, Value.category]) (fun _ => ?_)
  refine l_icmpeq K (tgt := 989) dL_law_517 rfl ?_
  exact kk _ _ hR1
theorem cl_60 : CLw 60 11 yX11_seen cX11_seen 3 (some .int) 2 := ⟨List.mem_of_getElem? (i := 872) (by decide +kernel), List.mem_of_getElem? (i := 100) (by decide +kernel), tb_of (List.mem_of_getElem? (i := 875) (by decide +kernel)) (by decide +kernel), by decide, by decide, by decide +kernel, by decide, List.mem_of_getElem? (i := 873) (by decide +kernel), RX11, TX11, 15, rfl, List.mem_of_getElem? (i := 874) (by decide +kernel), by decide⟩
theorem cl_64 : CLw 64 12 yX12_seen cX12_seen 3 (some .int) 2 := ⟨List.mem_of_getElem? (i := 1414) (by decide +kernel), List.mem_of_getElem? (i := 113) (by decide +kernel), tb_of (List.mem_of_getElem? (i := 1417) (by decide +kernel)) (by decide +kernel), by decide, by decide, by decide +kernel, by decide, List.mem_of_getElem? (i := 1415) (by decide +kernel), RX12, TX12, 33, rfl, List.mem_of_getElem? (i := 1416) (by decide +kernel), by decide⟩
set_option maxRecDepth 10000 in
theorem law_seen {RR : Mem → Mem → Prop} {Γ : Lx} {n : Nat} {μC μM : Mem} (K : LK Γ) (hn : n + 7 ≤ lxL Γ) (h : ∀ a0 a1 : Int, r32 a0 → (a1 = 0 ∨ a1 = 1) → STP RR fX11_seen fX12_seen [(0, a0), (0, a1)]) (hR : RR μC μM) (kk : ∀ μC' μM', RR μC' μM' → LW Γ 989 n [] μC' μM') : LW Γ 522 n [] μC μM := by
  obtain ⟨r, μC1, μM1, e1, e2, hR1⟩ := h ((lxs Γ (n + 1)).toInt) (bz (lxs Γ (n + 2))) (r32_of _) (bz01 _) μC μM hR
  refine l_x K dL_law_522 ?_
  refine l_s K dL_law_523 ?_
  refine l_i K dL_law_524 ?_
  refine l_iconst (v := nI 1) K dL_law_525 (by decide) ?_
  refine l_iadd K dL_law_526 ?_
  refine l_at (k := 1) K (by omega) dL_law_527 ?_
  refine l_s K dL_law_528 ?_
  refine l_i K dL_law_529 ?_
  refine l_iconst (v := nI 2) K dL_law_530 (by decide) ?_
  refine l_iadd K dL_law_531 ?_
  refine l_at (k := 2) K (by omega) dL_law_532 ?_
  refine l_bool K dL_law_533 dL_law_536 dL_law_537 dL_law_540 ?_
  refine l_callC (as := [(0, (lxs Γ (n + 1)).toInt), (0, bz (lxs Γ (n + 2)))]) (rest := []) K mX11_seen cl_60 dL_law_541 (by decide) ⟨by decide, by decide⟩ (by simp [sv, vv]) rfl (sok_i (sok_i (sok_nil _) (bz_rg _ _)) (i32_rg _ _)) e1 (by decide) (fun _ => ?_)
  refine l_m K dL_law_544 ?_
  refine l_s K dL_law_545 ?_
  refine l_i K dL_law_546 ?_
  refine l_iconst (v := nI 1) K dL_law_547 (by decide) ?_
  refine l_iadd K dL_law_548 ?_
  refine l_at (k := 1) K (by omega) dL_law_549 ?_
  refine l_s K dL_law_550 ?_
  refine l_i K dL_law_551 ?_
  refine l_iconst (v := nI 2) K dL_law_552 (by decide) ?_
  refine l_iadd K dL_law_553 ?_
  refine l_at (k := 2) K (by omega) dL_law_554 ?_
  refine l_bool K dL_law_555 dL_law_558 dL_law_559 dL_law_562 ?_
  refine l_callM (as := [(0, (lxs Γ (n + 1)).toInt), (0, bz (lxs Γ (n + 2)))]) (rest := [vv [] (rk (some .int)) r]) K mX12_seen cl_64 dL_law_563 (by decide) ⟨by decide, by decide⟩ (by simp [sv, vv]) rfl (sok_i (sok_i (sok_nil _) (bz_rg _ _)) (i32_rg _ _)) e2 (by show (Value.category _ + 0) ≤ 8; simp [rk, vv, Value.category]) (fun _ => ?_)
  refine l_icmpeq K (tgt := 989) dL_law_566 rfl ?_
  exact kk _ _ hR1
theorem cl_65 : CLw 65 11 yX11_heard cX11_heard 3 (some .int) 2 := ⟨List.mem_of_getElem? (i := 880) (by decide +kernel), List.mem_of_getElem? (i := 100) (by decide +kernel), tb_of (List.mem_of_getElem? (i := 883) (by decide +kernel)) (by decide +kernel), by decide, by decide, by decide +kernel, by decide, List.mem_of_getElem? (i := 881) (by decide +kernel), RX11, TX11, 15, rfl, List.mem_of_getElem? (i := 882) (by decide +kernel), by decide⟩
theorem cl_68 : CLw 68 12 yX12_heard cX12_heard 3 (some .int) 2 := ⟨List.mem_of_getElem? (i := 1426) (by decide +kernel), List.mem_of_getElem? (i := 113) (by decide +kernel), tb_of (List.mem_of_getElem? (i := 1429) (by decide +kernel)) (by decide +kernel), by decide, by decide, by decide +kernel, by decide, List.mem_of_getElem? (i := 1427) (by decide +kernel), RX12, TX12, 33, rfl, List.mem_of_getElem? (i := 1428) (by decide +kernel), by decide⟩
set_option maxRecDepth 10000 in
theorem law_heard {RR : Mem → Mem → Prop} {Γ : Lx} {n : Nat} {μC μM : Mem} (K : LK Γ) (hn : n + 7 ≤ lxL Γ) (h : ∀ a0 a1 : Int, r32 a0 → r32 a1 → STP RR fX11_heard fX12_heard [(0, a0), (0, a1)]) (hR : RR μC μM) (kk : ∀ μC' μM', RR μC' μM' → LW Γ 989 n [] μC' μM') : LW Γ 571 n [] μC μM := by
  obtain ⟨r, μC1, μM1, e1, e2, hR1⟩ := h ((lxs Γ (n + 1)).toInt) ((lxs Γ (n + 2)).toInt) (r32_of _) (r32_of _) μC μM hR
  refine l_x K dL_law_571 ?_
  refine l_s K dL_law_572 ?_
  refine l_i K dL_law_573 ?_
  refine l_iconst (v := nI 1) K dL_law_574 (by decide) ?_
  refine l_iadd K dL_law_575 ?_
  refine l_at (k := 1) K (by omega) dL_law_576 ?_
  refine l_s K dL_law_577 ?_
  refine l_i K dL_law_578 ?_
  refine l_iconst (v := nI 2) K dL_law_579 (by decide) ?_
  refine l_iadd K dL_law_580 ?_
  refine l_at (k := 2) K (by omega) dL_law_581 ?_
  refine l_callC (as := [(0, (lxs Γ (n + 1)).toInt), (0, (lxs Γ (n + 2)).toInt)]) (rest := []) K mX11_heard cl_65 dL_law_582 (by decide) ⟨by decide, by decide⟩ (by simp [sv, vv]) rfl (sok_i (sok_i (sok_nil _) (i32_rg _ _)) (i32_rg _ _)) e1 (by decide) (fun _ => ?_)
  refine l_m K dL_law_585 ?_
  refine l_s K dL_law_586 ?_
  refine l_i K dL_law_587 ?_
  refine l_iconst (v := nI 1) K dL_law_588 (by decide) ?_
  refine l_iadd K dL_law_589 ?_
  refine l_at (k := 1) K (by omega) dL_law_590 ?_
  refine l_s K dL_law_591 ?_
  refine l_i K dL_law_592 ?_
  refine l_iconst (v := nI 2) K dL_law_593 (by decide) ?_
  refine l_iadd K dL_law_594 ?_
  refine l_at (k := 2) K (by omega) dL_law_595 ?_
  refine l_callM (as := [(0, (lxs Γ (n + 1)).toInt), (0, (lxs Γ (n + 2)).toInt)]) (rest := [vv [] (rk (some .int)) r]) K mX12_heard cl_68 dL_law_596 (by decide) ⟨by decide, by decide⟩ (by simp [sv, vv]) rfl (sok_i (sok_i (sok_nil _) (i32_rg _ _)) (i32_rg _ _)) e2 (by show (Value.category _ + 0) ≤ 8; simp [rk, vv, Value.category]) (fun _ => ?_)
  refine l_icmpeq K (tgt := 989) dL_law_599 rfl ?_
  exact kk _ _ hR1
theorem cl_69 : CLw 69 11 yX11_uneasy cX11_uneasy 4 (some .int) 3 := ⟨List.mem_of_getElem? (i := 884) (by decide +kernel), List.mem_of_getElem? (i := 100) (by decide +kernel), tb_of (List.mem_of_getElem? (i := 887) (by decide +kernel)) (by decide +kernel), by decide, by decide, by decide +kernel, by decide, List.mem_of_getElem? (i := 885) (by decide +kernel), RX11, TX11, 15, rfl, List.mem_of_getElem? (i := 886) (by decide +kernel), by decide⟩
theorem cl_73 : CLw 73 12 yX12_uneasy cX12_uneasy 4 (some .int) 3 := ⟨List.mem_of_getElem? (i := 1430) (by decide +kernel), List.mem_of_getElem? (i := 113) (by decide +kernel), tb_of (List.mem_of_getElem? (i := 1433) (by decide +kernel)) (by decide +kernel), by decide, by decide, by decide +kernel, by decide, List.mem_of_getElem? (i := 1431) (by decide +kernel), RX12, TX12, 33, rfl, List.mem_of_getElem? (i := 1432) (by decide +kernel), by decide⟩
set_option maxRecDepth 10000 in
theorem law_uneasy {RR : Mem → Mem → Prop} {Γ : Lx} {n : Nat} {μC μM : Mem} (K : LK Γ) (hn : n + 7 ≤ lxL Γ) (h : ∀ a0 a1 a2 : Int, r32 a0 → r32 a1 → (a2 = 0 ∨ a2 = 1) → STP RR fX11_uneasy fX12_uneasy [(0, a0), (0, a1), (0, a2)]) (hR : RR μC μM) (kk : ∀ μC' μM', RR μC' μM' → LW Γ 989 n [] μC' μM') : LW Γ 604 n [] μC μM := by
  obtain ⟨r, μC1, μM1, e1, e2, hR1⟩ := h ((lxs Γ (n + 1)).toInt) ((lxs Γ (n + 2)).toInt) (bz (lxs Γ (n + 3))) (r32_of _) (r32_of _) (bz01 _) μC μM hR
  refine l_x K dL_law_604 ?_
  refine l_s K dL_law_605 ?_
  refine l_i K dL_law_606 ?_
  refine l_iconst (v := nI 1) K dL_law_607 (by decide) ?_
  refine l_iadd K dL_law_608 ?_
  refine l_at (k := 1) K (by omega) dL_law_609 ?_
  refine l_s K dL_law_610 ?_
  refine l_i K dL_law_611 ?_
  refine l_iconst (v := nI 2) K dL_law_612 (by decide) ?_
  refine l_iadd K dL_law_613 ?_
  refine l_at (k := 2) K (by omega) dL_law_614 ?_
  refine l_s K dL_law_615 ?_
  refine l_i K dL_law_616 ?_
  refine l_iconst (v := nI 3) K dL_law_617 (by decide) ?_
  refine l_iadd K dL_law_618 ?_
  refine l_at (k := 3) K (by omega) dL_law_619 ?_
  refine l_bool K dL_law_620 dL_law_623 dL_law_624 dL_law_627 ?_
  refine l_callC (as := [(0, (lxs Γ (n + 1)).toInt), (0, (lxs Γ (n + 2)).toInt), (0, bz (lxs Γ (n + 3)))]) (rest := []) K mX11_uneasy cl_69 dL_law_628 (by decide) ⟨by decide, by decide⟩ (by simp [sv, vv]) rfl (sok_i (sok_i (sok_i (sok_nil _) (bz_rg _ _)) (i32_rg _ _)) (i32_rg _ _)) e1 (by decide) (fun _ => ?_)
  refine l_m K dL_law_631 ?_
  refine l_s K dL_law_632 ?_
  refine l_i K dL_law_633 ?_
  refine l_iconst (v := nI 1) K dL_law_634 (by decide) ?_
  refine l_iadd K dL_law_635 ?_
  refine l_at (k := 1) K (by omega) dL_law_636 ?_
  refine l_s K dL_law_637 ?_
  refine l_i K dL_law_638 ?_
  refine l_iconst (v := nI 2) K dL_law_639 (by decide) ?_
  refine l_iadd K dL_law_640 ?_
  refine l_at (k := 2) K (by omega) dL_law_641 ?_
  refine l_s K dL_law_642 ?_
  refine l_i K dL_law_643 ?_
  refine l_iconst (v := nI 3) K dL_law_644 (by decide) ?_
  refine l_iadd K dL_law_645 ?_
  refine l_at (k := 3) K (by omega) dL_law_646 ?_
  refine l_bool K dL_law_647 dL_law_650 dL_law_651 dL_law_654 ?_
  refine l_callM (as := [(0, (lxs Γ (n + 1)).toInt), (0, (lxs Γ (n + 2)).toInt), (0, bz (lxs Γ (n + 3)))]) (rest := [vv [] (rk (some .int)) r]) K mX12_uneasy cl_73 dL_law_655 (by decide) ⟨by decide, by decide⟩ (by simp [sv, vv]) rfl (sok_i (sok_i (sok_i (sok_nil _) (bz_rg _ _)) (i32_rg _ _)) (i32_rg _ _)) e2 (by show (Value.category _ + 0) ≤ 8; simp [rk, vv, Value.category]) (fun _ => ?_)
  refine l_icmpeq K (tgt := 989) dL_law_658 rfl ?_
  exact kk _ _ hR1
theorem cl_74 : CLw 74 11 yX11_clear cX11_clear 1 (some .boolean) 0 := ⟨List.mem_of_getElem? (i := 888) (by decide +kernel), List.mem_of_getElem? (i := 100) (by decide +kernel), tb_of (List.mem_of_getElem? (i := 891) (by decide +kernel)) (by decide +kernel), by decide, by decide, by decide +kernel, by decide, List.mem_of_getElem? (i := 889) (by decide +kernel), RX11, TX11, 15, rfl, List.mem_of_getElem? (i := 890) (by decide +kernel), by decide⟩
theorem cl_78 : CLw 78 12 yX12_clear cX12_clear 1 (some .boolean) 0 := ⟨List.mem_of_getElem? (i := 1434) (by decide +kernel), List.mem_of_getElem? (i := 113) (by decide +kernel), tb_of (List.mem_of_getElem? (i := 1437) (by decide +kernel)) (by decide +kernel), by decide, by decide, by decide +kernel, by decide, List.mem_of_getElem? (i := 1435) (by decide +kernel), RX12, TX12, 33, rfl, List.mem_of_getElem? (i := 1436) (by decide +kernel), by decide⟩
set_option maxRecDepth 10000 in
theorem law_clear {RR : Mem → Mem → Prop} {Γ : Lx} {n : Nat} {μC μM : Mem} (K : LK Γ) (hn : n + 7 ≤ lxL Γ) (h : STP RR fX11_clear fX12_clear []) (hR : RR μC μM) (kk : ∀ μC' μM', RR μC' μM' → LW Γ 989 n [] μC' μM') : LW Γ 663 n [] μC μM := by
  obtain ⟨r, μC1, μM1, e1, e2, hR1⟩ := h μC μM hR
  refine l_x K dL_law_663 ?_
  refine l_callC (as := []) (rest := []) K mX11_clear cl_74 dL_law_664 (by decide) ⟨by decide, by decide⟩ (by simp [sv, vv]) rfl (sok_nil _) e1 (by decide) (fun _ => ?_)
  refine l_m K dL_law_667 ?_
  refine l_callM (as := []) (rest := [vv [] (rk (some .boolean)) r]) K mX12_clear cl_78 dL_law_668 (by decide) ⟨by decide, by decide⟩ (by simp [sv, vv]) rfl (sok_nil _) e2 (by show (Value.category _ + 0) ≤ 8; simp [rk, vv, Value.category]) (fun _ => ?_)
  refine l_icmpeq K (tgt := 989) dL_law_671 rfl ?_
  exact kk _ _ hR1
theorem cl_79 : CLw 79 11 yX11_fits cX11_fits 1 (some .int) 0 := ⟨List.mem_of_getElem? (i := 892) (by decide +kernel), List.mem_of_getElem? (i := 100) (by decide +kernel), tb_of (List.mem_of_getElem? (i := 895) (by decide +kernel)) (by decide +kernel), by decide, by decide, by decide +kernel, by decide, List.mem_of_getElem? (i := 893) (by decide +kernel), RX11, TX11, 15, rfl, List.mem_of_getElem? (i := 894) (by decide +kernel), by decide⟩
theorem cl_82 : CLw 82 12 yX12_fits cX12_fits 1 (some .int) 0 := ⟨List.mem_of_getElem? (i := 1438) (by decide +kernel), List.mem_of_getElem? (i := 113) (by decide +kernel), tb_of (List.mem_of_getElem? (i := 1441) (by decide +kernel)) (by decide +kernel), by decide, by decide, by decide +kernel, by decide, List.mem_of_getElem? (i := 1439) (by decide +kernel), RX12, TX12, 33, rfl, List.mem_of_getElem? (i := 1440) (by decide +kernel), by decide⟩
set_option maxRecDepth 10000 in
theorem law_fits {RR : Mem → Mem → Prop} {Γ : Lx} {n : Nat} {μC μM : Mem} (K : LK Γ) (hn : n + 7 ≤ lxL Γ) (h : STP RR fX11_fits fX12_fits []) (hR : RR μC μM) (kk : ∀ μC' μM', RR μC' μM' → LW Γ 989 n [] μC' μM') : LW Γ 676 n [] μC μM := by
  obtain ⟨r, μC1, μM1, e1, e2, hR1⟩ := h μC μM hR
  refine l_x K dL_law_676 ?_
  refine l_callC (as := []) (rest := []) K mX11_fits cl_79 dL_law_677 (by decide) ⟨by decide, by decide⟩ (by simp [sv, vv]) rfl (sok_nil _) e1 (by decide) (fun _ => ?_)
  refine l_m K dL_law_680 ?_
  refine l_callM (as := []) (rest := [vv [] (rk (some .int)) r]) K mX12_fits cl_82 dL_law_681 (by decide) ⟨by decide, by decide⟩ (by simp [sv, vv]) rfl (sok_nil _) e2 (by show (Value.category _ + 0) ≤ 8; simp [rk, vv, Value.category]) (fun _ => ?_)
  refine l_icmpeq K (tgt := 989) dL_law_684 rfl ?_
  exact kk _ _ hR1
theorem cl_83 : CLw 83 11 yX11_fit cX11_fit 2 (some .int) 1 := ⟨List.mem_of_getElem? (i := 927) (by decide +kernel), List.mem_of_getElem? (i := 100) (by decide +kernel), tb_of (List.mem_of_getElem? (i := 930) (by decide +kernel)) (by decide +kernel), by decide, by decide, by decide +kernel, by decide, List.mem_of_getElem? (i := 928) (by decide +kernel), RX11, TX11, 15, rfl, List.mem_of_getElem? (i := 929) (by decide +kernel), by decide⟩
theorem cl_86 : CLw 86 12 yX12_fit cX12_fit 2 (some .int) 1 := ⟨List.mem_of_getElem? (i := 1462) (by decide +kernel), List.mem_of_getElem? (i := 113) (by decide +kernel), tb_of (List.mem_of_getElem? (i := 1465) (by decide +kernel)) (by decide +kernel), by decide, by decide, by decide +kernel, by decide, List.mem_of_getElem? (i := 1463) (by decide +kernel), RX12, TX12, 33, rfl, List.mem_of_getElem? (i := 1464) (by decide +kernel), by decide⟩
set_option maxRecDepth 10000 in
theorem law_fit {RR : Mem → Mem → Prop} {Γ : Lx} {n : Nat} {μC μM : Mem} (K : LK Γ) (hn : n + 7 ≤ lxL Γ) (h : ∀ a0 : Int, r32 a0 → STP RR fX11_fit fX12_fit [(0, a0)]) (hR : RR μC μM) (kk : ∀ μC' μM', RR μC' μM' → LW Γ 989 n [] μC' μM') : LW Γ 689 n [] μC μM := by
  obtain ⟨r, μC1, μM1, e1, e2, hR1⟩ := h ((lxs Γ (n + 1)).toInt) (r32_of _) μC μM hR
  refine l_x K dL_law_689 ?_
  refine l_s K dL_law_690 ?_
  refine l_i K dL_law_691 ?_
  refine l_iconst (v := nI 1) K dL_law_692 (by decide) ?_
  refine l_iadd K dL_law_693 ?_
  refine l_at (k := 1) K (by omega) dL_law_694 ?_
  refine l_callC (as := [(0, (lxs Γ (n + 1)).toInt)]) (rest := []) K mX11_fit cl_83 dL_law_695 (by decide) ⟨by decide, by decide⟩ (by simp [sv, vv]) rfl (sok_i (sok_nil _) (i32_rg _ _)) e1 (by decide) (fun _ => ?_)
  refine l_m K dL_law_698 ?_
  refine l_s K dL_law_699 ?_
  refine l_i K dL_law_700 ?_
  refine l_iconst (v := nI 1) K dL_law_701 (by decide) ?_
  refine l_iadd K dL_law_702 ?_
  refine l_at (k := 1) K (by omega) dL_law_703 ?_
  refine l_callM (as := [(0, (lxs Γ (n + 1)).toInt)]) (rest := [vv [] (rk (some .int)) r]) K mX12_fit cl_86 dL_law_704 (by decide) ⟨by decide, by decide⟩ (by simp [sv, vv]) rfl (sok_i (sok_nil _) (i32_rg _ _)) e2 (by show (Value.category _ + 0) ≤ 8; simp [rk, vv, Value.category]) (fun _ => ?_)
  refine l_icmpeq K (tgt := 989) dL_law_707 rfl ?_
  exact kk _ _ hR1
theorem cl_87 : CLw 87 11 yX11_sure cX11_sure 2 (some .int) 1 := ⟨List.mem_of_getElem? (i := 931) (by decide +kernel), List.mem_of_getElem? (i := 100) (by decide +kernel), tb_of (List.mem_of_getElem? (i := 934) (by decide +kernel)) (by decide +kernel), by decide, by decide, by decide +kernel, by decide, List.mem_of_getElem? (i := 932) (by decide +kernel), RX11, TX11, 15, rfl, List.mem_of_getElem? (i := 933) (by decide +kernel), by decide⟩
theorem cl_91 : CLw 91 12 yX12_sure cX12_sure 6 (some .int) 1 := ⟨List.mem_of_getElem? (i := 1466) (by decide +kernel), List.mem_of_getElem? (i := 113) (by decide +kernel), tb_of (List.mem_of_getElem? (i := 1469) (by decide +kernel)) (by decide +kernel), by decide, by decide, by decide +kernel, by decide, List.mem_of_getElem? (i := 1467) (by decide +kernel), RX12, TX12, 33, rfl, List.mem_of_getElem? (i := 1468) (by decide +kernel), by decide⟩
set_option maxRecDepth 10000 in
theorem law_sure {RR : Mem → Mem → Prop} {Γ : Lx} {n : Nat} {μC μM : Mem} (K : LK Γ) (hn : n + 7 ≤ lxL Γ) (h : ∀ a0 : Int, (a0 = 0 ∨ a0 = 1) → STP RR fX11_sure fX12_sure [(0, a0)]) (hR : RR μC μM) (kk : ∀ μC' μM', RR μC' μM' → LW Γ 989 n [] μC' μM') : LW Γ 712 n [] μC μM := by
  obtain ⟨r, μC1, μM1, e1, e2, hR1⟩ := h (bz (lxs Γ (n + 1))) (bz01 _) μC μM hR
  refine l_x K dL_law_712 ?_
  refine l_s K dL_law_713 ?_
  refine l_i K dL_law_714 ?_
  refine l_iconst (v := nI 1) K dL_law_715 (by decide) ?_
  refine l_iadd K dL_law_716 ?_
  refine l_at (k := 1) K (by omega) dL_law_717 ?_
  refine l_bool K dL_law_718 dL_law_721 dL_law_722 dL_law_725 ?_
  refine l_callC (as := [(0, bz (lxs Γ (n + 1)))]) (rest := []) K mX11_sure cl_87 dL_law_726 (by decide) ⟨by decide, by decide⟩ (by simp [sv, vv]) rfl (sok_i (sok_nil _) (bz_rg _ _)) e1 (by decide) (fun _ => ?_)
  refine l_m K dL_law_729 ?_
  refine l_s K dL_law_730 ?_
  refine l_i K dL_law_731 ?_
  refine l_iconst (v := nI 1) K dL_law_732 (by decide) ?_
  refine l_iadd K dL_law_733 ?_
  refine l_at (k := 1) K (by omega) dL_law_734 ?_
  refine l_bool K dL_law_735 dL_law_738 dL_law_739 dL_law_742 ?_
  refine l_callM (as := [(0, bz (lxs Γ (n + 1)))]) (rest := [vv [] (rk (some .int)) r]) K mX12_sure cl_91 dL_law_743 (by decide) ⟨by decide, by decide⟩ (by simp [sv, vv]) rfl (sok_i (sok_nil _) (bz_rg _ _)) e2 (by show (Value.category _ + 0) ≤ 8; simp [rk, vv, Value.category]) (fun _ => ?_)
  refine l_icmpeq K (tgt := 989) dL_law_746 rfl ?_
  exact kk _ _ hR1
theorem cl_92 : CLw 92 11 yX11_looks cX11_looks 2 (some .int) 1 := ⟨List.mem_of_getElem? (i := 935) (by decide +kernel), List.mem_of_getElem? (i := 100) (by decide +kernel), tb_of (List.mem_of_getElem? (i := 938) (by decide +kernel)) (by decide +kernel), by decide, by decide, by decide +kernel, by decide, List.mem_of_getElem? (i := 936) (by decide +kernel), RX11, TX11, 15, rfl, List.mem_of_getElem? (i := 937) (by decide +kernel), by decide⟩
theorem cl_95 : CLw 95 12 yX12_looks cX12_looks 7 (some .int) 1 := ⟨List.mem_of_getElem? (i := 1470) (by decide +kernel), List.mem_of_getElem? (i := 113) (by decide +kernel), tb_of (List.mem_of_getElem? (i := 1473) (by decide +kernel)) (by decide +kernel), by decide, by decide, by decide +kernel, by decide, List.mem_of_getElem? (i := 1471) (by decide +kernel), RX12, TX12, 33, rfl, List.mem_of_getElem? (i := 1472) (by decide +kernel), by decide⟩
set_option maxRecDepth 10000 in
theorem law_looks {RR : Mem → Mem → Prop} {Γ : Lx} {n : Nat} {μC μM : Mem} (K : LK Γ) (hn : n + 7 ≤ lxL Γ) (h : ∀ a0 : Int, r32 a0 → STP RR fX11_looks fX12_looks [(0, a0)]) (hR : RR μC μM) (kk : ∀ μC' μM', RR μC' μM' → LW Γ 989 n [] μC' μM') : LW Γ 751 n [] μC μM := by
  obtain ⟨r, μC1, μM1, e1, e2, hR1⟩ := h ((lxs Γ (n + 1)).toInt) (r32_of _) μC μM hR
  refine l_x K dL_law_751 ?_
  refine l_s K dL_law_752 ?_
  refine l_i K dL_law_753 ?_
  refine l_iconst (v := nI 1) K dL_law_754 (by decide) ?_
  refine l_iadd K dL_law_755 ?_
  refine l_at (k := 1) K (by omega) dL_law_756 ?_
  refine l_callC (as := [(0, (lxs Γ (n + 1)).toInt)]) (rest := []) K mX11_looks cl_92 dL_law_757 (by decide) ⟨by decide, by decide⟩ (by simp [sv, vv]) rfl (sok_i (sok_nil _) (i32_rg _ _)) e1 (by decide) (fun _ => ?_)
  refine l_m K dL_law_760 ?_
  refine l_s K dL_law_761 ?_
  refine l_i K dL_law_762 ?_
  refine l_iconst (v := nI 1) K dL_law_763 (by decide) ?_
  refine l_iadd K dL_law_764 ?_
  refine l_at (k := 1) K (by omega) dL_law_765 ?_
  refine l_callM (as := [(0, (lxs Γ (n + 1)).toInt)]) (rest := [vv [] (rk (some .int)) r]) K mX12_looks cl_95 dL_law_766 (by decide) ⟨by decide, by decide⟩ (by simp [sv, vv]) rfl (sok_i (sok_nil _) (i32_rg _ _)) e2 (by show (Value.category _ + 0) ≤ 8; simp [rk, vv, Value.category]) (fun _ => ?_)
  refine l_icmpeq K (tgt := 989) dL_law_769 rfl ?_
  exact kk _ _ hR1
theorem cl_96 : CLw 96 11 yX11_odds cX11_odds 5 (some .int) 3 := ⟨List.mem_of_getElem? (i := 967) (by decide +kernel), List.mem_of_getElem? (i := 100) (by decide +kernel), tb_of (List.mem_of_getElem? (i := 970) (by decide +kernel)) (by decide +kernel), by decide, by decide, by decide +kernel, by decide, List.mem_of_getElem? (i := 968) (by decide +kernel), RX11, TX11, 15, rfl, List.mem_of_getElem? (i := 969) (by decide +kernel), by decide⟩
theorem cl_100 : CLw 100 12 yX12_odds cX12_odds 5 (some .int) 3 := ⟨List.mem_of_getElem? (i := 1486) (by decide +kernel), List.mem_of_getElem? (i := 113) (by decide +kernel), tb_of (List.mem_of_getElem? (i := 1489) (by decide +kernel)) (by decide +kernel), by decide, by decide, by decide +kernel, by decide, List.mem_of_getElem? (i := 1487) (by decide +kernel), RX12, TX12, 33, rfl, List.mem_of_getElem? (i := 1488) (by decide +kernel), by decide⟩
set_option maxRecDepth 10000 in
theorem law_odds {RR : Mem → Mem → Prop} {Γ : Lx} {n : Nat} {μC μM : Mem} (K : LK Γ) (hn : n + 7 ≤ lxL Γ) (h : ∀ a0 a1 a2 : Int, r32 a0 → r32 a1 → r32 a2 → STP RR fX11_odds fX12_odds [(0, a0), (0, a1), (0, a2)]) (hR : RR μC μM) (kk : ∀ μC' μM', RR μC' μM' → LW Γ 989 n [] μC' μM') : LW Γ 774 n [] μC μM := by
  obtain ⟨r, μC1, μM1, e1, e2, hR1⟩ := h ((lxs Γ (n + 1)).toInt) ((lxs Γ (n + 2)).toInt) ((lxs Γ (n + 3)).toInt) (r32_of _) (r32_of _) (r32_of _) μC μM hR
  refine l_x K dL_law_774 ?_
  refine l_s K dL_law_775 ?_
  refine l_i K dL_law_776 ?_
  refine l_iconst (v := nI 1) K dL_law_777 (by decide) ?_
  refine l_iadd K dL_law_778 ?_
  refine l_at (k := 1) K (by omega) dL_law_779 ?_
  refine l_s K dL_law_780 ?_
  refine l_i K dL_law_781 ?_
  refine l_iconst (v := nI 2) K dL_law_782 (by decide) ?_
  refine l_iadd K dL_law_783 ?_
  refine l_at (k := 2) K (by omega) dL_law_784 ?_
  refine l_s K dL_law_785 ?_
  refine l_i K dL_law_786 ?_
  refine l_iconst (v := nI 3) K dL_law_787 (by decide) ?_
  refine l_iadd K dL_law_788 ?_
  refine l_at (k := 3) K (by omega) dL_law_789 ?_
  refine l_callC (as := [(0, (lxs Γ (n + 1)).toInt), (0, (lxs Γ (n + 2)).toInt), (0, (lxs Γ (n + 3)).toInt)]) (rest := []) K mX11_odds cl_96 dL_law_790 (by decide) ⟨by decide, by decide⟩ (by simp [sv, vv]) rfl (sok_i (sok_i (sok_i (sok_nil _) (i32_rg _ _)) (i32_rg _ _)) (i32_rg _ _)) e1 (by decide) (fun _ => ?_)
  refine l_m K dL_law_793 ?_
  refine l_s K dL_law_794 ?_
  refine l_i K dL_law_795 ?_
  refine l_iconst (v := nI 1) K dL_law_796 (by decide) ?_
  refine l_iadd K dL_law_797 ?_
  refine l_at (k := 1) K (by omega) dL_law_798 ?_
  refine l_s K dL_law_799 ?_
  refine l_i K dL_law_800 ?_
  refine l_iconst (v := nI 2) K dL_law_801 (by decide) ?_
  refine l_iadd K dL_law_802 ?_
  refine l_at (k := 2) K (by omega) dL_law_803 ?_
  refine l_s K dL_law_804 ?_
  refine l_i K dL_law_805 ?_
  refine l_iconst (v := nI 3) K dL_law_806 (by decide) ?_
  refine l_iadd K dL_law_807 ?_
  refine l_at (k := 3) K (by omega) dL_law_808 ?_
  refine l_callM (as := [(0, (lxs Γ (n + 1)).toInt), (0, (lxs Γ (n + 2)).toInt), (0, (lxs Γ (n + 3)).toInt)]) (rest := [vv [] (rk (some .int)) r]) K mX12_odds cl_100 dL_law_809 (by decide) ⟨by decide, by decide⟩ (by simp [sv, vv]) rfl (sok_i (sok_i (sok_i (sok_nil _) (i32_rg _ _)) (i32_rg _ _)) (i32_rg _ _)) e2 (by show (Value.category _ + 0) ≤ 8; simp [rk, vv, Value.category]) (fun _ => ?_)
  refine l_icmpeq K (tgt := 989) dL_law_812 rfl ?_
  exact kk _ _ hR1
theorem cl_101 : CLw 101 11 yX11_search cX11_search 5 (some .long) 2 := ⟨List.mem_of_getElem? (i := 990) (by decide +kernel), List.mem_of_getElem? (i := 100) (by decide +kernel), tb_of (List.mem_of_getElem? (i := 993) (by decide +kernel)) (by decide +kernel), by decide, by decide, by decide +kernel, by decide, List.mem_of_getElem? (i := 991) (by decide +kernel), RX11, TX11, 15, rfl, List.mem_of_getElem? (i := 992) (by decide +kernel), by decide⟩
theorem cl_105 : CLw 105 12 yX12_search cX12_search 4 (some .long) 2 := ⟨List.mem_of_getElem? (i := 1509) (by decide +kernel), List.mem_of_getElem? (i := 113) (by decide +kernel), tb_of (List.mem_of_getElem? (i := 1512) (by decide +kernel)) (by decide +kernel), by decide, by decide, by decide +kernel, by decide, List.mem_of_getElem? (i := 1510) (by decide +kernel), RX12, TX12, 33, rfl, List.mem_of_getElem? (i := 1511) (by decide +kernel), by decide⟩
set_option maxRecDepth 10000 in
theorem law_search {RR : Mem → Mem → Prop} {Γ : Lx} {n : Nat} {μC μM : Mem} (K : LK Γ) (hn : n + 7 ≤ lxL Γ) (h : ∀ a0 a1 : Int, r32 a0 → r32 a1 → STP RR fX11_search fX12_search [(0, a0), (0, a1)]) (hR : RR μC μM) (kk : ∀ μC' μM', RR μC' μM' → LW Γ 989 n [] μC' μM') : LW Γ 817 n [] μC μM := by
  obtain ⟨r, μC1, μM1, e1, e2, hR1⟩ := h ((lxs Γ (n + 1)).toInt) ((lxs Γ (n + 2)).toInt) (r32_of _) (r32_of _) μC μM hR
  refine l_x K dL_law_817 ?_
  refine l_s K dL_law_818 ?_
  refine l_i K dL_law_819 ?_
  refine l_iconst (v := nI 1) K dL_law_820 (by decide) ?_
  refine l_iadd K dL_law_821 ?_
  refine l_at (k := 1) K (by omega) dL_law_822 ?_
  refine l_s K dL_law_823 ?_
  refine l_i K dL_law_824 ?_
  refine l_iconst (v := nI 2) K dL_law_825 (by decide) ?_
  refine l_iadd K dL_law_826 ?_
  refine l_at (k := 2) K (by omega) dL_law_827 ?_
  refine l_callC (as := [(0, (lxs Γ (n + 1)).toInt), (0, (lxs Γ (n + 2)).toInt)]) (rest := []) K mX11_search cl_101 dL_law_828 (by decide) ⟨by decide, by decide⟩ (by simp [sv, vv]) rfl (sok_i (sok_i (sok_nil _) (i32_rg _ _)) (i32_rg _ _)) e1 (by decide) (fun _ => ?_)
  refine l_m K dL_law_831 ?_
  refine l_s K dL_law_832 ?_
  refine l_i K dL_law_833 ?_
  refine l_iconst (v := nI 1) K dL_law_834 (by decide) ?_
  refine l_iadd K dL_law_835 ?_
  refine l_at (k := 1) K (by omega) dL_law_836 ?_
  refine l_s K dL_law_837 ?_
  refine l_i K dL_law_838 ?_
  refine l_iconst (v := nI 2) K dL_law_839 (by decide) ?_
  refine l_iadd K dL_law_840 ?_
  refine l_at (k := 2) K (by omega) dL_law_841 ?_
  refine l_callM (as := [(0, (lxs Γ (n + 1)).toInt), (0, (lxs Γ (n + 2)).toInt)]) (rest := [vv [] (rk (some .long)) r]) K mX12_search cl_105 dL_law_842 (by decide) ⟨by decide, by decide⟩ (by simp [sv, vv]) rfl (sok_i (sok_i (sok_nil _) (i32_rg _ _)) (i32_rg _ _)) e2 (by show (Value.category _ + 0) ≤ 8; simp [rk, vv, Value.category]) (fun _ => ?_)
  refine l_lcmpeq K (tgt := 989) dL_law_845 dL_law_846 rfl ?_
  exact kk _ _ hR1
theorem cl_106 : CLw 106 11 yX11_parted cX11_parted 10 (some .int) 4 := ⟨List.mem_of_getElem? (i := 1007) (by decide +kernel), List.mem_of_getElem? (i := 100) (by decide +kernel), tb_of (List.mem_of_getElem? (i := 1010) (by decide +kernel)) (by decide +kernel), by decide, by decide, by decide +kernel, by decide, List.mem_of_getElem? (i := 1008) (by decide +kernel), RX11, TX11, 15, rfl, List.mem_of_getElem? (i := 1009) (by decide +kernel), by decide⟩
theorem cl_110 : CLw 110 12 yX12_parted cX12_parted 10 (some .int) 4 := ⟨List.mem_of_getElem? (i := 1518) (by decide +kernel), List.mem_of_getElem? (i := 113) (by decide +kernel), tb_of (List.mem_of_getElem? (i := 1521) (by decide +kernel)) (by decide +kernel), by decide, by decide, by decide +kernel, by decide, List.mem_of_getElem? (i := 1519) (by decide +kernel), RX12, TX12, 33, rfl, List.mem_of_getElem? (i := 1520) (by decide +kernel), by decide⟩
set_option maxRecDepth 10000 in
theorem law_parted {RR : Mem → Mem → Prop} {Γ : Lx} {n : Nat} {μC μM : Mem} (K : LK Γ) (hn : n + 7 ≤ lxL Γ) (h : ∀ a0 a1 a2 a3 : Int, r32 a0 → r32 a1 → r32 a2 → r32 a3 → STP RR fX11_parted fX12_parted [(0, a0), (0, a1), (0, a2), (0, a3)]) (hR : RR μC μM) (kk : ∀ μC' μM', RR μC' μM' → LW Γ 989 n [] μC' μM') : LW Γ 851 n [] μC μM := by
  obtain ⟨r, μC1, μM1, e1, e2, hR1⟩ := h ((lxs Γ (n + 1)).toInt) ((lxs Γ (n + 2)).toInt) ((lxs Γ (n + 3)).toInt) ((lxs Γ (n + 4)).toInt) (r32_of _) (r32_of _) (r32_of _) (r32_of _) μC μM hR
  refine l_x K dL_law_851 ?_
  refine l_s K dL_law_852 ?_
  refine l_i K dL_law_853 ?_
  refine l_iconst (v := nI 1) K dL_law_854 (by decide) ?_
  refine l_iadd K dL_law_855 ?_
  refine l_at (k := 1) K (by omega) dL_law_856 ?_
  refine l_s K dL_law_857 ?_
  refine l_i K dL_law_858 ?_
  refine l_iconst (v := nI 2) K dL_law_859 (by decide) ?_
  refine l_iadd K dL_law_860 ?_
  refine l_at (k := 2) K (by omega) dL_law_861 ?_
  refine l_s K dL_law_862 ?_
  refine l_i K dL_law_863 ?_
  refine l_iconst (v := nI 3) K dL_law_864 (by decide) ?_
  refine l_iadd K dL_law_865 ?_
  refine l_at (k := 3) K (by omega) dL_law_866 ?_
  refine l_s K dL_law_867 ?_
  refine l_i K dL_law_868 ?_
  refine l_iconst (v := nI 4) K dL_law_869 (by decide) ?_
  refine l_iadd K dL_law_870 ?_
  refine l_at (k := 4) K (by omega) dL_law_871 ?_
  refine l_callC (as := [(0, (lxs Γ (n + 1)).toInt), (0, (lxs Γ (n + 2)).toInt), (0, (lxs Γ (n + 3)).toInt), (0, (lxs Γ (n + 4)).toInt)]) (rest := []) K mX11_parted cl_106 dL_law_872 (by decide) ⟨by decide, by decide⟩ (by simp [sv, vv]) rfl (sok_i (sok_i (sok_i (sok_i (sok_nil _) (i32_rg _ _)) (i32_rg _ _)) (i32_rg _ _)) (i32_rg _ _)) e1 (by decide) (fun _ => ?_)
  refine l_m K dL_law_875 ?_
  refine l_s K dL_law_876 ?_
  refine l_i K dL_law_877 ?_
  refine l_iconst (v := nI 1) K dL_law_878 (by decide) ?_
  refine l_iadd K dL_law_879 ?_
  refine l_at (k := 1) K (by omega) dL_law_880 ?_
  refine l_s K dL_law_881 ?_
  refine l_i K dL_law_882 ?_
  refine l_iconst (v := nI 2) K dL_law_883 (by decide) ?_
  refine l_iadd K dL_law_884 ?_
  refine l_at (k := 2) K (by omega) dL_law_885 ?_
  refine l_s K dL_law_886 ?_
  refine l_i K dL_law_887 ?_
  refine l_iconst (v := nI 3) K dL_law_888 (by decide) ?_
  refine l_iadd K dL_law_889 ?_
  refine l_at (k := 3) K (by omega) dL_law_890 ?_
  refine l_s K dL_law_891 ?_
  refine l_i K dL_law_892 ?_
  refine l_iconst (v := nI 4) K dL_law_893 (by decide) ?_
  refine l_iadd K dL_law_894 ?_
  refine l_at (k := 4) K (by omega) dL_law_895 ?_
  refine l_callM (as := [(0, (lxs Γ (n + 1)).toInt), (0, (lxs Γ (n + 2)).toInt), (0, (lxs Γ (n + 3)).toInt), (0, (lxs Γ (n + 4)).toInt)]) (rest := [vv [] (rk (some .int)) r]) K mX12_parted cl_110 dL_law_896 (by decide) ⟨by decide, by decide⟩ (by simp [sv, vv]) rfl (sok_i (sok_i (sok_i (sok_i (sok_nil _) (i32_rg _ _)) (i32_rg _ _)) (i32_rg _ _)) (i32_rg _ _)) e2 (by show (Value.category _ + 0) ≤ 8; simp [rk, vv, Value.category]) (fun _ => ?_)
  refine l_icmpeq K (tgt := 989) dL_law_899 rfl ?_
  exact kk _ _ hR1
theorem cl_111 : CLw 111 11 yX11_undo cX11_undo 1 (some .boolean) 0 := ⟨List.mem_of_getElem? (i := 1016) (by decide +kernel), List.mem_of_getElem? (i := 100) (by decide +kernel), tb_of (List.mem_of_getElem? (i := 1019) (by decide +kernel)) (by decide +kernel), by decide, by decide, by decide +kernel, by decide, List.mem_of_getElem? (i := 1017) (by decide +kernel), RX11, TX11, 15, rfl, List.mem_of_getElem? (i := 1018) (by decide +kernel), by decide⟩
theorem cl_114 : CLw 114 12 yX12_undo cX12_undo 1 (some .boolean) 0 := ⟨List.mem_of_getElem? (i := 1530) (by decide +kernel), List.mem_of_getElem? (i := 113) (by decide +kernel), tb_of (List.mem_of_getElem? (i := 1533) (by decide +kernel)) (by decide +kernel), by decide, by decide, by decide +kernel, by decide, List.mem_of_getElem? (i := 1531) (by decide +kernel), RX12, TX12, 33, rfl, List.mem_of_getElem? (i := 1532) (by decide +kernel), by decide⟩
set_option maxRecDepth 10000 in
theorem law_undo {RR : Mem → Mem → Prop} {Γ : Lx} {n : Nat} {μC μM : Mem} (K : LK Γ) (hn : n + 7 ≤ lxL Γ) (h : STP RR fX11_undo fX12_undo []) (hR : RR μC μM) (kk : ∀ μC' μM', RR μC' μM' → LW Γ 989 n [] μC' μM') : LW Γ 904 n [] μC μM := by
  obtain ⟨r, μC1, μM1, e1, e2, hR1⟩ := h μC μM hR
  refine l_x K dL_law_904 ?_
  refine l_callC (as := []) (rest := []) K mX11_undo cl_111 dL_law_905 (by decide) ⟨by decide, by decide⟩ (by simp [sv, vv]) rfl (sok_nil _) e1 (by decide) (fun _ => ?_)
  refine l_m K dL_law_908 ?_
  refine l_callM (as := []) (rest := [vv [] (rk (some .boolean)) r]) K mX12_undo cl_114 dL_law_909 (by decide) ⟨by decide, by decide⟩ (by simp [sv, vv]) rfl (sok_nil _) e2 (by show (Value.category _ + 0) ≤ 8; simp [rk, vv, Value.category]) (fun _ => ?_)
  refine l_icmpeq K (tgt := 989) dL_law_912 rfl ?_
  exact kk _ _ hR1
theorem cl_115 : CLw 115 11 yX11_mark cX11_mark 5 (some .boolean) 2 := ⟨List.mem_of_getElem? (i := 1024) (by decide +kernel), List.mem_of_getElem? (i := 100) (by decide +kernel), tb_of (List.mem_of_getElem? (i := 1027) (by decide +kernel)) (by decide +kernel), by decide, by decide, by decide +kernel, by decide, List.mem_of_getElem? (i := 1025) (by decide +kernel), RX11, TX11, 15, rfl, List.mem_of_getElem? (i := 1026) (by decide +kernel), by decide⟩
theorem cl_118 : CLw 118 12 yX12_mark cX12_mark 3 (some .boolean) 2 := ⟨List.mem_of_getElem? (i := 1534) (by decide +kernel), List.mem_of_getElem? (i := 113) (by decide +kernel), tb_of (List.mem_of_getElem? (i := 1537) (by decide +kernel)) (by decide +kernel), by decide, by decide, by decide +kernel, by decide, List.mem_of_getElem? (i := 1535) (by decide +kernel), RX12, TX12, 33, rfl, List.mem_of_getElem? (i := 1536) (by decide +kernel), by decide⟩
set_option maxRecDepth 10000 in
theorem law_mark {RR : Mem → Mem → Prop} {Γ : Lx} {n : Nat} {μC μM : Mem} (K : LK Γ) (hn : n + 7 ≤ lxL Γ) (h : ∀ a0 a1 : Int, r32 a0 → (a1 = 0 ∨ a1 = 1) → STP RR fX11_mark fX12_mark [(0, a0), (0, a1)]) (hR : RR μC μM) (kk : ∀ μC' μM', RR μC' μM' → LW Γ 989 n [] μC' μM') : LW Γ 917 n [] μC μM := by
  obtain ⟨r, μC1, μM1, e1, e2, hR1⟩ := h ((lxs Γ (n + 1)).toInt) (bz (lxs Γ (n + 2))) (r32_of _) (bz01 _) μC μM hR
  refine l_x K dL_law_917 ?_
  refine l_s K dL_law_918 ?_
  refine l_i K dL_law_919 ?_
  refine l_iconst (v := nI 1) K dL_law_920 (by decide) ?_
  refine l_iadd K dL_law_921 ?_
  refine l_at (k := 1) K (by omega) dL_law_922 ?_
  refine l_s K dL_law_923 ?_
  refine l_i K dL_law_924 ?_
  refine l_iconst (v := nI 2) K dL_law_925 (by decide) ?_
  refine l_iadd K dL_law_926 ?_
  refine l_at (k := 2) K (by omega) dL_law_927 ?_
  refine l_bool K dL_law_928 dL_law_931 dL_law_932 dL_law_935 ?_
  refine l_callC (as := [(0, (lxs Γ (n + 1)).toInt), (0, bz (lxs Γ (n + 2)))]) (rest := []) K mX11_mark cl_115 dL_law_936 (by decide) ⟨by decide, by decide⟩ (by simp [sv, vv]) rfl (sok_i (sok_i (sok_nil _) (bz_rg _ _)) (i32_rg _ _)) e1 (by decide) (fun _ => ?_)
  refine l_m K dL_law_939 ?_
  refine l_s K dL_law_940 ?_
  refine l_i K dL_law_941 ?_
  refine l_iconst (v := nI 1) K dL_law_942 (by decide) ?_
  refine l_iadd K dL_law_943 ?_
  refine l_at (k := 1) K (by omega) dL_law_944 ?_
  refine l_s K dL_law_945 ?_
  refine l_i K dL_law_946 ?_
  refine l_iconst (v := nI 2) K dL_law_947 (by decide) ?_
  refine l_iadd K dL_law_948 ?_
  refine l_at (k := 2) K (by omega) dL_law_949 ?_
  refine l_bool K dL_law_950 dL_law_953 dL_law_954 dL_law_957 ?_
  refine l_callM (as := [(0, (lxs Γ (n + 1)).toInt), (0, bz (lxs Γ (n + 2)))]) (rest := [vv [] (rk (some .boolean)) r]) K mX12_mark cl_118 dL_law_958 (by decide) ⟨by decide, by decide⟩ (by simp [sv, vv]) rfl (sok_i (sok_i (sok_nil _) (bz_rg _ _)) (i32_rg _ _)) e2 (by show (Value.category _ + 0) ≤ 8; simp [rk, vv, Value.category]) (fun _ => ?_)
  refine l_icmpeq K (tgt := 989) dL_law_961 rfl ?_
  exact kk _ _ hR1
theorem cl_119 : CLw 119 11 yX11_count cX11_count 2 (some .int) 1 := ⟨List.mem_of_getElem? (i := 1033) (by decide +kernel), List.mem_of_getElem? (i := 100) (by decide +kernel), tb_of (List.mem_of_getElem? (i := 1036) (by decide +kernel)) (by decide +kernel), by decide, by decide, by decide +kernel, by decide, List.mem_of_getElem? (i := 1034) (by decide +kernel), RX11, TX11, 15, rfl, List.mem_of_getElem? (i := 1035) (by decide +kernel), by decide⟩
theorem cl_122 : CLw 122 12 yX12_count cX12_count 5 (some .int) 1 := ⟨List.mem_of_getElem? (i := 1538) (by decide +kernel), List.mem_of_getElem? (i := 113) (by decide +kernel), tb_of (List.mem_of_getElem? (i := 1541) (by decide +kernel)) (by decide +kernel), by decide, by decide, by decide +kernel, by decide, List.mem_of_getElem? (i := 1539) (by decide +kernel), RX12, TX12, 33, rfl, List.mem_of_getElem? (i := 1540) (by decide +kernel), by decide⟩
set_option maxRecDepth 10000 in
theorem law_count {RR : Mem → Mem → Prop} {Γ : Lx} {n : Nat} {μC μM : Mem} (K : LK Γ) (hn : n + 7 ≤ lxL Γ) (h : ∀ a0 : Int, r32 a0 → STP RR fX11_count fX12_count [(0, a0)]) (hR : RR μC μM) (kk : ∀ μC' μM', RR μC' μM' → LW Γ 989 n [] μC' μM') : LW Γ 966 n [] μC μM := by
  obtain ⟨r, μC1, μM1, e1, e2, hR1⟩ := h ((lxs Γ (n + 1)).toInt) (r32_of _) μC μM hR
  refine l_x K dL_law_966 ?_
  refine l_s K dL_law_967 ?_
  refine l_i K dL_law_968 ?_
  refine l_iconst (v := nI 1) K dL_law_969 (by decide) ?_
  refine l_iadd K dL_law_970 ?_
  refine l_at (k := 1) K (by omega) dL_law_971 ?_
  refine l_callC (as := [(0, (lxs Γ (n + 1)).toInt)]) (rest := []) K mX11_count cl_119 dL_law_972 (by decide) ⟨by decide, by decide⟩ (by simp [sv, vv]) rfl (sok_i (sok_nil _) (i32_rg _ _)) e1 (by decide) (fun _ => ?_)
  refine l_m K dL_law_975 ?_
  refine l_s K dL_law_976 ?_
  refine l_i K dL_law_977 ?_
  refine l_iconst (v := nI 1) K dL_law_978 (by decide) ?_
  refine l_iadd K dL_law_979 ?_
  refine l_at (k := 1) K (by omega) dL_law_980 ?_
  refine l_callM (as := [(0, (lxs Γ (n + 1)).toInt)]) (rest := [vv [] (rk (some .int)) r]) K mX12_count cl_122 dL_law_981 (by decide) ⟨by decide, by decide⟩ (by simp [sv, vv]) rfl (sok_i (sok_nil _) (i32_rg _ _)) e2 (by show (Value.category _ + 0) ≤ 8; simp [rk, vv, Value.category]) (fun _ => ?_)
  refine l_icmpeq K (tgt := 989) dL_law_984 rfl ?_
  exact kk _ _ hR1
def Steps (RR : Mem → Mem → Prop) : Prop := (∀ a0 a1 a2 : Int, r64 a0 → r64 a1 → r64 a2 → STP RR fX11_feed fX12_feed [(1, a0), (1, a1), (1, a2)]) ∧ (STP RR fX11_flock fX12_flock []) ∧ (∀ a0 a1 : Int, r32 a0 → r32 a1 → STP RR fX11_beast fX12_beast [(0, a0), (0, a1)]) ∧ (∀ a0 a1 : Int, r32 a0 → r32 a1 → STP RR fX11_liking fX12_liking [(0, a0), (0, a1)]) ∧ (∀ a0 : Int, r32 a0 → STP RR fX11_place fX12_place [(0, a0)]) ∧ (∀ a0 a1 : Int, r32 a0 → (a1 = 0 ∨ a1 = 1) → STP RR fX11_away fX12_away [(0, a0), (0, a1)]) ∧ (∀ a0 : Int, r32 a0 → STP RR fX11_evening fX12_evening [(0, a0)]) ∧ (STP RR fX11_settled fX12_settled []) ∧ (∀ a0 a1 : Int, r32 a0 → r32 a1 → STP RR fX11_beside fX12_beside [(0, a0), (0, a1)]) ∧ (∀ a0 : Int, r32 a0 → STP RR fX11_friends fX12_friends [(0, a0)]) ∧ (∀ a0 a1 : Int, r32 a0 → (a1 = 0 ∨ a1 = 1) → STP RR fX11_seen fX12_seen [(0, a0), (0, a1)]) ∧ (∀ a0 a1 : Int, r32 a0 → r32 a1 → STP RR fX11_heard fX12_heard [(0, a0), (0, a1)]) ∧ (∀ a0 a1 a2 : Int, r32 a0 → r32 a1 → (a2 = 0 ∨ a2 = 1) → STP RR fX11_uneasy fX12_uneasy [(0, a0), (0, a1), (0, a2)]) ∧ (STP RR fX11_clear fX12_clear []) ∧ (STP RR fX11_fits fX12_fits []) ∧ (∀ a0 : Int, r32 a0 → STP RR fX11_fit fX12_fit [(0, a0)]) ∧ (∀ a0 : Int, (a0 = 0 ∨ a0 = 1) → STP RR fX11_sure fX12_sure [(0, a0)]) ∧ (∀ a0 : Int, r32 a0 → STP RR fX11_looks fX12_looks [(0, a0)]) ∧ (∀ a0 a1 a2 : Int, r32 a0 → r32 a1 → r32 a2 → STP RR fX11_odds fX12_odds [(0, a0), (0, a1), (0, a2)]) ∧ (∀ a0 a1 : Int, r32 a0 → r32 a1 → STP RR fX11_search fX12_search [(0, a0), (0, a1)]) ∧ (∀ a0 a1 a2 a3 : Int, r32 a0 → r32 a1 → r32 a2 → r32 a3 → STP RR fX11_parted fX12_parted [(0, a0), (0, a1), (0, a2), (0, a3)]) ∧ (STP RR fX11_undo fX12_undo []) ∧ (∀ a0 a1 : Int, r32 a0 → (a1 = 0 ∨ a1 = 1) → STP RR fX11_mark fX12_mark [(0, a0), (0, a1)]) ∧ (∀ a0 : Int, r32 a0 → STP RR fX11_count fX12_count [(0, a0)])
