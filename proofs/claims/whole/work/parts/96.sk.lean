/-! the String constants at the law's start -/
def tmS (i : Nat) : Term := match i with
  | 0 => Term.string "FlockGaps$Tape" 53
  | _ => Term.string "FlockGaps$Tape" 67
def allC : List Cond := flatC (Jvm.Cond.and given_1 narrow_1)
set_option maxRecDepth 100000 in
theorem sk_1 : ∀ i, i < 2 → Cond.exactly (tmS i) "java/lang/String" ∈ allC ∧ Cond.eq (.field (tmS i) "java/lang/String" "coder" "B") (.int 0) ∈ allC ∧ Cond.arrayOf (.field (tmS i) "java/lang/String" "value" "[B") .byte ∈ allC ∧ Cond.eq (.length (.field (tmS i) "java/lang/String" "value" "[B")) (.int (Int32.ofNat (skL.getD i 0))) ∈ allC := by decide +kernel
set_option maxRecDepth 100000 in
theorem sk_a0 : ∀ j, j < 8 → allC[39 + j]? = some (Cond.eq (.elem (.field (Term.string "FlockGaps$Tape" 53) "java/lang/String" "value" "[B") (.int (Int32.ofNat (0 + j)))) (.int ((skB.getD 0 []).getD (0 + j) 0))) := by decide +kernel
set_option maxRecDepth 100000 in
theorem sk_a1 : ∀ j, j < 8 → allC[47 + j]? = some (Cond.eq (.elem (.field (Term.string "FlockGaps$Tape" 53) "java/lang/String" "value" "[B") (.int (Int32.ofNat (8 + j)))) (.int ((skB.getD 0 []).getD (8 + j) 0))) := by decide +kernel
set_option maxRecDepth 100000 in
theorem sk_a2 : ∀ j, j < 8 → allC[55 + j]? = some (Cond.eq (.elem (.field (Term.string "FlockGaps$Tape" 53) "java/lang/String" "value" "[B") (.int (Int32.ofNat (16 + j)))) (.int ((skB.getD 0 []).getD (16 + j) 0))) := by decide +kernel
set_option maxRecDepth 100000 in
theorem sk_a3 : ∀ j, j < 8 → allC[63 + j]? = some (Cond.eq (.elem (.field (Term.string "FlockGaps$Tape" 53) "java/lang/String" "value" "[B") (.int (Int32.ofNat (24 + j)))) (.int ((skB.getD 0 []).getD (24 + j) 0))) := by decide +kernel
set_option maxRecDepth 100000 in
theorem sk_a4 : ∀ j, j < 8 → allC[71 + j]? = some (Cond.eq (.elem (.field (Term.string "FlockGaps$Tape" 53) "java/lang/String" "value" "[B") (.int (Int32.ofNat (32 + j)))) (.int ((skB.getD 0 []).getD (32 + j) 0))) := by decide +kernel
set_option maxRecDepth 100000 in
theorem sk_a5 : ∀ j, j < 8 → allC[79 + j]? = some (Cond.eq (.elem (.field (Term.string "FlockGaps$Tape" 53) "java/lang/String" "value" "[B") (.int (Int32.ofNat (40 + j)))) (.int ((skB.getD 0 []).getD (40 + j) 0))) := by decide +kernel
set_option maxRecDepth 100000 in
theorem sk_a6 : ∀ j, j < 8 → allC[87 + j]? = some (Cond.eq (.elem (.field (Term.string "FlockGaps$Tape" 53) "java/lang/String" "value" "[B") (.int (Int32.ofNat (48 + j)))) (.int ((skB.getD 0 []).getD (48 + j) 0))) := by decide +kernel
set_option maxRecDepth 100000 in
theorem sk_a7 : ∀ j, j < 8 → allC[95 + j]? = some (Cond.eq (.elem (.field (Term.string "FlockGaps$Tape" 53) "java/lang/String" "value" "[B") (.int (Int32.ofNat (56 + j)))) (.int ((skB.getD 0 []).getD (56 + j) 0))) := by decide +kernel
set_option maxRecDepth 100000 in
theorem sk_a8 : ∀ j, j < 8 → allC[103 + j]? = some (Cond.eq (.elem (.field (Term.string "FlockGaps$Tape" 53) "java/lang/String" "value" "[B") (.int (Int32.ofNat (64 + j)))) (.int ((skB.getD 0 []).getD (64 + j) 0))) := by decide +kernel
set_option maxRecDepth 100000 in
theorem sk_a9 : ∀ j, j < 8 → allC[111 + j]? = some (Cond.eq (.elem (.field (Term.string "FlockGaps$Tape" 53) "java/lang/String" "value" "[B") (.int (Int32.ofNat (72 + j)))) (.int ((skB.getD 0 []).getD (72 + j) 0))) := by decide +kernel
set_option maxRecDepth 100000 in
theorem sk_a10 : ∀ j, j < 8 → allC[119 + j]? = some (Cond.eq (.elem (.field (Term.string "FlockGaps$Tape" 53) "java/lang/String" "value" "[B") (.int (Int32.ofNat (80 + j)))) (.int ((skB.getD 0 []).getD (80 + j) 0))) := by decide +kernel
set_option maxRecDepth 100000 in
theorem sk_a11 : ∀ j, j < 8 → allC[127 + j]? = some (Cond.eq (.elem (.field (Term.string "FlockGaps$Tape" 53) "java/lang/String" "value" "[B") (.int (Int32.ofNat (88 + j)))) (.int ((skB.getD 0 []).getD (88 + j) 0))) := by decide +kernel
set_option maxRecDepth 100000 in
theorem sk_a12 : ∀ j, j < 8 → allC[135 + j]? = some (Cond.eq (.elem (.field (Term.string "FlockGaps$Tape" 53) "java/lang/String" "value" "[B") (.int (Int32.ofNat (96 + j)))) (.int ((skB.getD 0 []).getD (96 + j) 0))) := by decide +kernel
set_option maxRecDepth 100000 in
theorem sk_a13 : ∀ j, j < 8 → allC[143 + j]? = some (Cond.eq (.elem (.field (Term.string "FlockGaps$Tape" 53) "java/lang/String" "value" "[B") (.int (Int32.ofNat (104 + j)))) (.int ((skB.getD 0 []).getD (104 + j) 0))) := by decide +kernel
set_option maxRecDepth 100000 in
theorem sk_a14 : ∀ j, j < 8 → allC[151 + j]? = some (Cond.eq (.elem (.field (Term.string "FlockGaps$Tape" 53) "java/lang/String" "value" "[B") (.int (Int32.ofNat (112 + j)))) (.int ((skB.getD 0 []).getD (112 + j) 0))) := by decide +kernel
set_option maxRecDepth 100000 in
theorem sk_a15 : ∀ j, j < 8 → allC[159 + j]? = some (Cond.eq (.elem (.field (Term.string "FlockGaps$Tape" 53) "java/lang/String" "value" "[B") (.int (Int32.ofNat (120 + j)))) (.int ((skB.getD 0 []).getD (120 + j) 0))) := by decide +kernel
set_option maxRecDepth 100000 in
theorem sk_a16 : ∀ j, j < 8 → allC[167 + j]? = some (Cond.eq (.elem (.field (Term.string "FlockGaps$Tape" 53) "java/lang/String" "value" "[B") (.int (Int32.ofNat (128 + j)))) (.int ((skB.getD 0 []).getD (128 + j) 0))) := by decide +kernel
set_option maxRecDepth 100000 in
theorem sk_a17 : ∀ j, j < 8 → allC[175 + j]? = some (Cond.eq (.elem (.field (Term.string "FlockGaps$Tape" 53) "java/lang/String" "value" "[B") (.int (Int32.ofNat (136 + j)))) (.int ((skB.getD 0 []).getD (136 + j) 0))) := by decide +kernel
set_option maxRecDepth 100000 in
theorem sk_a18 : ∀ j, j < 8 → allC[183 + j]? = some (Cond.eq (.elem (.field (Term.string "FlockGaps$Tape" 53) "java/lang/String" "value" "[B") (.int (Int32.ofNat (144 + j)))) (.int ((skB.getD 0 []).getD (144 + j) 0))) := by decide +kernel
set_option maxRecDepth 100000 in
theorem sk_a19 : ∀ j, j < 8 → allC[191 + j]? = some (Cond.eq (.elem (.field (Term.string "FlockGaps$Tape" 53) "java/lang/String" "value" "[B") (.int (Int32.ofNat (152 + j)))) (.int ((skB.getD 0 []).getD (152 + j) 0))) := by decide +kernel
set_option maxRecDepth 100000 in
theorem sk_a20 : ∀ j, j < 8 → allC[199 + j]? = some (Cond.eq (.elem (.field (Term.string "FlockGaps$Tape" 53) "java/lang/String" "value" "[B") (.int (Int32.ofNat (160 + j)))) (.int ((skB.getD 0 []).getD (160 + j) 0))) := by decide +kernel
set_option maxRecDepth 100000 in
theorem sk_a21 : ∀ j, j < 8 → allC[207 + j]? = some (Cond.eq (.elem (.field (Term.string "FlockGaps$Tape" 53) "java/lang/String" "value" "[B") (.int (Int32.ofNat (168 + j)))) (.int ((skB.getD 0 []).getD (168 + j) 0))) := by decide +kernel
set_option maxRecDepth 100000 in
theorem sk_a22 : ∀ j, j < 8 → allC[215 + j]? = some (Cond.eq (.elem (.field (Term.string "FlockGaps$Tape" 53) "java/lang/String" "value" "[B") (.int (Int32.ofNat (176 + j)))) (.int ((skB.getD 0 []).getD (176 + j) 0))) := by decide +kernel
set_option maxRecDepth 100000 in
theorem sk_a23 : ∀ j, j < 8 → allC[223 + j]? = some (Cond.eq (.elem (.field (Term.string "FlockGaps$Tape" 53) "java/lang/String" "value" "[B") (.int (Int32.ofNat (184 + j)))) (.int ((skB.getD 0 []).getD (184 + j) 0))) := by decide +kernel
set_option maxRecDepth 100000 in
theorem sk_b : ∀ j, j < 8 → allC[235 + j]? = some (Cond.eq (.elem (.field (Term.string "FlockGaps$Tape" 67) "java/lang/String" "value" "[B") (.int (Int32.ofNat (0 + j)))) (.int ((skB.getD 1 []).getD (0 + j) 0))) := by decide +kernel
theorem sk_2 : ∀ i, i < 2 → ∀ j, j < skL.getD i 0 → Cond.eq (.elem (.field (tmS i) "java/lang/String" "value" "[B") (.int (Int32.ofNat j))) (.int ((skB.getD i []).getD j 0)) ∈ allC := by
  intro i hi j hj
  rcases (by omega : i = 0 ∨ i = 1) with h1 | h1
  · subst h1
    have hj : j < 192 := hj
    by_cases h0 : j < 8
    · exact (by have h := List.mem_of_getElem? (sk_a0 (j - 0) (by omega)); rw [show 0 + (j - 0) = j by omega] at h; exact h)
    by_cases h1 : j < 16
    · exact (by have h := List.mem_of_getElem? (sk_a1 (j - 8) (by omega)); rw [show 8 + (j - 8) = j by omega] at h; exact h)
    by_cases h2 : j < 24
    · exact (by have h := List.mem_of_getElem? (sk_a2 (j - 16) (by omega)); rw [show 16 + (j - 16) = j by omega] at h; exact h)
    by_cases h3 : j < 32
    · exact (by have h := List.mem_of_getElem? (sk_a3 (j - 24) (by omega)); rw [show 24 + (j - 24) = j by omega] at h; exact h)
    by_cases h4 : j < 40
    · exact (by have h := List.mem_of_getElem? (sk_a4 (j - 32) (by omega)); rw [show 32 + (j - 32) = j by omega] at h; exact h)
    by_cases h5 : j < 48
    · exact (by have h := List.mem_of_getElem? (sk_a5 (j - 40) (by omega)); rw [show 40 + (j - 40) = j by omega] at h; exact h)
    by_cases h6 : j < 56
    · exact (by have h := List.mem_of_getElem? (sk_a6 (j - 48) (by omega)); rw [show 48 + (j - 48) = j by omega] at h; exact h)
    by_cases h7 : j < 64
    · exact (by have h := List.mem_of_getElem? (sk_a7 (j - 56) (by omega)); rw [show 56 + (j - 56) = j by omega] at h; exact h)
    by_cases h8 : j < 72
    · exact (by have h := List.mem_of_getElem? (sk_a8 (j - 64) (by omega)); rw [show 64 + (j - 64) = j by omega] at h; exact h)
    by_cases h9 : j < 80
    · exact (by have h := List.mem_of_getElem? (sk_a9 (j - 72) (by omega)); rw [show 72 + (j - 72) = j by omega] at h; exact h)
    by_cases h10 : j < 88
    · exact (by have h := List.mem_of_getElem? (sk_a10 (j - 80) (by omega)); rw [show 80 + (j - 80) = j by omega] at h; exact h)
    by_cases h11 : j < 96
    · exact (by have h := List.mem_of_getElem? (sk_a11 (j - 88) (by omega)); rw [show 88 + (j - 88) = j by omega] at h; exact h)
    by_cases h12 : j < 104
    · exact (by have h := List.mem_of_getElem? (sk_a12 (j - 96) (by omega)); rw [show 96 + (j - 96) = j by omega] at h; exact h)
    by_cases h13 : j < 112
    · exact (by have h := List.mem_of_getElem? (sk_a13 (j - 104) (by omega)); rw [show 104 + (j - 104) = j by omega] at h; exact h)
    by_cases h14 : j < 120
    · exact (by have h := List.mem_of_getElem? (sk_a14 (j - 112) (by omega)); rw [show 112 + (j - 112) = j by omega] at h; exact h)
    by_cases h15 : j < 128
    · exact (by have h := List.mem_of_getElem? (sk_a15 (j - 120) (by omega)); rw [show 120 + (j - 120) = j by omega] at h; exact h)
    by_cases h16 : j < 136
    · exact (by have h := List.mem_of_getElem? (sk_a16 (j - 128) (by omega)); rw [show 128 + (j - 128) = j by omega] at h; exact h)
    by_cases h17 : j < 144
    · exact (by have h := List.mem_of_getElem? (sk_a17 (j - 136) (by omega)); rw [show 136 + (j - 136) = j by omega] at h; exact h)
    by_cases h18 : j < 152
    · exact (by have h := List.mem_of_getElem? (sk_a18 (j - 144) (by omega)); rw [show 144 + (j - 144) = j by omega] at h; exact h)
    by_cases h19 : j < 160
    · exact (by have h := List.mem_of_getElem? (sk_a19 (j - 152) (by omega)); rw [show 152 + (j - 152) = j by omega] at h; exact h)
    by_cases h20 : j < 168
    · exact (by have h := List.mem_of_getElem? (sk_a20 (j - 160) (by omega)); rw [show 160 + (j - 160) = j by omega] at h; exact h)
    by_cases h21 : j < 176
    · exact (by have h := List.mem_of_getElem? (sk_a21 (j - 168) (by omega)); rw [show 168 + (j - 168) = j by omega] at h; exact h)
    by_cases h22 : j < 184
    · exact (by have h := List.mem_of_getElem? (sk_a22 (j - 176) (by omega)); rw [show 176 + (j - 176) = j by omega] at h; exact h)
    by_cases h23 : j < 192
    · exact (by have h := List.mem_of_getElem? (sk_a23 (j - 184) (by omega)); rw [show 184 + (j - 184) = j by omega] at h; exact h)
    omega
  · subst h1
    have hj : j < 8 := hj
    exact (by have h := List.mem_of_getElem? (sk_b (j - 0) (by omega)); rw [show 0 + (j - 0) = j by omega] at h; exact h)
set_option maxRecDepth 100000 in
theorem sk_3 : Cond.not (Cond.eq (tmS 0) (tmS 1)) ∈ allC ∧ Cond.eq (.static "java/lang/String" "COMPACT_STRINGS" "Z") (.int 1) ∈ allC ∧ Cond.isRef (.static "jdk/internal/util/Preconditions" "SIOOBE_FORMATTER" "Ljava/util/function/BiFunction;") ∈ allC := by decide +kernel
theorem sk_start {p : Program} {s : State} {m : MethodId} {meth : Method} {c : Code} {b L : Nat} {xs : Nat → Int32} (C0 : lw_At p s m meth c b L xs) : SKx (fun q => s.heap.size ≤ q) s s.heap := by
  obtain ⟨hx, hb, hr, hml, hown, hts, hX, hbl, hlocks, hgv⟩ := C0
  have hc : ∀ w ∈ allC, w.before #[Value.ref b] s = true := flat_of_before _ hgv
  have hA : ∀ a : Nat, a < s.heap.size → ¬ (fun q => s.heap.size ≤ q) a := fun a h z => by simp only at z; omega
  have hne : ∀ i j : Nat, i < 2 → j < 2 → i ≠ j → (Cond.not (Cond.eq (tmS i) (tmS j))).before #[Value.ref b] s = true ∨ (Cond.not (Cond.eq (tmS j) (tmS i))).before #[Value.ref b] s = true := by
    intro i j hi hj hij
    rcases (by omega : (i = 0 ∧ j = 1) ∨ (i = 1 ∧ j = 0)) with ⟨h1, h2⟩ | ⟨h1, h2⟩
    · subst h1; subst h2
      exact Or.inl (hc _ sk_3.1)
    · subst h1; subst h2
      exact Or.inr (hc _ sk_3.1)
  obtain ⟨adK, adV, hS, hT⟩ := vk_Sof (A := fun q => s.heap.size ≤ q) (N := 2) (tm := tmS) (len := skL) (byt := skB) (by decide) (fun i hi => hc _ (sk_1 i hi).1) (fun i hi => hc _ (sk_1 i hi).2.1) (fun i hi => hc _ (sk_1 i hi).2.2.1) (fun i hi => hc _ (sk_1 i hi).2.2.2) (fun i hi j hj => hc _ (sk_2 i hi j hj)) hne hA
  exact ⟨adK, adV, hS, vk_R.of (hts _ (List.mem_of_getElem? (i := 561) (by decide +kernel))) (hT 0 (by omega)), vk_R.of (hts _ (List.mem_of_getElem? (i := 620) (by decide +kernel))) (hT 1 (by omega)), va_Zof (hts _ (List.mem_of_getElem? (i := 571) (by decide +kernel))) (hts _ (List.mem_of_getElem? (i := 114) (by decide +kernel))) (va_eqt (hc _ sk_3.2.1)) hA, va_Zqof (hts _ (List.mem_of_getElem? (i := 587) (by decide +kernel))) (hts _ (List.mem_of_getElem? (i := 116) (by decide +kernel))) (hc _ sk_3.2.2) hA⟩
