/-! statements: 0 goes on, 1 returns, the others are the ends of loops and switches by their numbers -/
abbrev Rs : Type := Nat × Int × Ev × Mem
abbrev Sx : Type := Shp → Ev → Mem → Option Rs
def KX (M : Md) (Γ : Cx) (bs : List (Nat × Nat)) (pc' : Nat) (x : Nat) (v : Int) (env : Ev) (μ : Mem) : Prop := if x = 0 then WP M Γ pc' env [] μ else if x = 1 then cF Γ v μ else match bs.lookup x with
  | some q => WP M Γ q env [] μ
  | none => False
def SO (M : Md) (Γ : Cx) (pc pc' : Nat) (bs : List (Nat × Nat)) (s : Sx) : Prop := CK M Γ → ∀ env μ x v env' μ', s (cs Γ) env μ = some (x, v, env', μ') → KX M Γ bs pc' x v env' μ' → WP M Γ pc env [] μ
def skipS : Sx := fun _ env μ => some (0, 0, env, μ)
def seqS (a b : Sx) : Sx := fun sh env μ => (a sh env μ).bind fun r => if r.1 = 0 then b sh r.2.2.1 r.2.2.2 else some r
def stS (i t : Nat) (e : Ex) : Sx := fun sh env μ => (e sh env μ).bind fun x => if i + t % 2 < env.length then some (0, 0, stE env i t x.1, x.2) else none
noncomputable def incS (i : Nat) (n : Int) : Sx := fun _ env μ => match env[i]? with
  | some (t, v) => if t = 0 then some (0, 0, stE env i 0 (w32 (v + n)), μ) else none
  | none => none
def okb (ty : FieldType) (t : Nat) (v : Int) : Bool := match ty with
  | .int => decide (t = 0)
  | .long => decide (t = 1)
  | .boolean => decide (t = 0) && (decide (v = 0) || decide (v = 1))
  | .object _ => decide (t = 2) && decide (0 ≤ v)
  | _ => false
def putS (ci j t : Nat) (ty : FieldType) (a e : Ex) : Sx := fun sh env μ => (a sh env μ).bind fun x => (e sh env x.2).bind fun y => match sh[x.1.toNat]? with
  | some q => if q.1 = ci ∧ okb ty t y.1 = true then some (0, 0, env, ud y.2 x.1.toNat j y.1) else none
  | none => none
/-- a field changed by an operation: the old value is read first -/
def fopS (ci j : Nat) (op : Int → Int → Int) (a e : Ex) : Sx := fun sh env μ => (a sh env μ).bind fun x => (e sh env x.2).bind fun y => match sh[x.1.toNat]? with
  | some q => if q.1 = ci then some (0, 0, env, ud y.2 x.1.toNat j (op (x.2 x.1.toNat j) y.1)) else none
  | none => none
def narV (kd : Nat) (v : Int) : Int := match kd with
  | 102 => (vp_nar .char (Int32.ofInt v)).toInt
  | 103 => (vp_nar .byte (Int32.ofInt v)).toInt
  | 104 => (vp_nar .boolean (Int32.ofInt v)).toInt
  | _ => v
def astS (kd : Nat) (a i e : Ex) : Sx := fun sh env μ => (a sh env μ).bind fun x => (i sh env x.2).bind fun y => (e sh env y.2).bind fun z => match sh[x.1.toNat]? with
  | some q => if q.1 = kd ∧ 0 ≤ y.1 ∧ y.1 < q.2 then some (0, 0, env, ud z.2 x.1.toNat y.1.toNat (narV kd z.1)) else none
  | none => none
def aopS (kd : Nat) (op : Int → Int → Int) (a i e : Ex) : Sx := fun sh env μ => (a sh env μ).bind fun x => (i sh env x.2).bind fun y => (e sh env y.2).bind fun z => match sh[x.1.toNat]? with
  | some q => if q.1 = kd ∧ 0 ≤ y.1 ∧ y.1 < q.2 then some (0, 0, env, ud z.2 x.1.toNat y.1.toNat (op (y.2 x.1.toNat y.1.toNat) z.1)) else none
  | none => none
def exS (e : Ex) : Sx := fun sh env μ => (e sh env μ).bind fun x => some (0, 0, env, x.2)
def copyS (a sp b dp n : Ex) : Sx := fun sh env μ => (a sh env μ).bind fun xa => (sp sh env xa.2).bind fun xs => (b sh env xs.2).bind fun xb => (dp sh env xb.2).bind fun xd => (n sh env xd.2).bind fun xn => match sh[xa.1.toNat]?, sh[xb.1.toNat]? with
  | some q0, some q1 => if q0.1 = 100 ∧ q1.1 = 100 ∧ 0 ≤ xs.1 ∧ 0 ≤ xd.1 ∧ 0 ≤ xn.1 ∧ xs.1 + xn.1 ≤ q0.2 ∧ xd.1 + xn.1 ≤ q1.2 then some (0, 0, env, cpyM xn.2 xa.1.toNat xs.1.toNat xb.1.toNat xd.1.toNat xn.1.toNat) else none
  | _, _ => none
def ifS (c : Cn) (a b : Sx) : Sx := fun sh env μ => (c sh env μ).bind fun x => if x.1 then a sh env x.2 else b sh env x.2
def retS (e : Ex) : Sx := fun sh env μ => (e sh env μ).bind fun x => some (1, x.1, env, x.2)
def retZ (e : Ex) : Sx := fun sh env μ => (e sh env μ).bind fun x => if x.1 = 0 ∨ x.1 = 1 then some (1, x.1, env, x.2) else none
def retV : Sx := fun _ env μ => some (1, 0, env, μ)
def brkS (k : Nat) : Sx := fun _ env μ => some (k, 0, env, μ)
/-- a loop, by fuel: break is kb, continue kc -/
def loopN (kb kc : Nat) (c : Cn) (body upd : Sx) : Nat → Sx
  | 0 => fun _ _ _ => none
  | n + 1 => fun sh env μ => (c sh env μ).bind fun b => if b.1 then (body sh env b.2).bind fun r => if r.1 = 0 ∨ r.1 = kc then (upd sh r.2.2.1 r.2.2.2).bind fun q => if q.1 = 0 then loopN kb kc c body upd n sh q.2.2.1 q.2.2.2 else none
      else if r.1 = kb then some (0, 0, r.2.2.1, r.2.2.2) else some r
    else some (0, 0, env, b.2)
theorem loopN_step {kb kc : Nat} {c : Cn} {body upd : Sx} : ∀ {n : Nat} {sh : Shp} {env : Ev} {μ : Mem} {r : Rs}, loopN kb kc c body upd n sh env μ = some r → loopN kb kc c body upd (n + 1) sh env μ = some r
  | 0, _, _, _, _, h => by cases h
  | n + 1, sh, env, μ, r, h => by
    obtain ⟨b, h1, h2⟩ := b_some h
    show (c sh env μ).bind _ = some r
    rw [h1]
    show (if b.1 then _ else _) = some r
    by_cases hb : b.1 = true
    · rw [if_pos hb] at h2 ⊢
      obtain ⟨q, h3, h4⟩ := b_some h2
      rw [h3]
      show (if q.1 = 0 ∨ q.1 = kc then _ else _) = some r
      by_cases hq : q.1 = 0 ∨ q.1 = kc
      · rw [if_pos hq] at h4 ⊢
        obtain ⟨z, h5, h6⟩ := b_some h4
        rw [h5]
        show (if z.1 = 0 then _ else _) = some r
        by_cases hz : z.1 = 0
        · rw [if_pos hz] at h6 ⊢
          exact loopN_step h6
        · rw [if_neg hz] at h6
          cases h6
      · rw [if_neg hq] at h4 ⊢
        exact h4
    · rw [if_neg hb] at h2 ⊢
      exact h2
theorem loopN_mono {kb kc : Nat} {c : Cn} {body upd : Sx} {n m : Nat} {sh : Shp} {env : Ev} {μ : Mem} {r : Rs} (h : loopN kb kc c body upd n sh env μ = some r) (hm : n ≤ m) : loopN kb kc c body upd m sh env μ = some r := by
  induction m with
  | zero => rw [Nat.le_zero.mp hm] at h; exact h
  | succ m ih =>
    rcases Nat.lt_or_ge m n with q | q
    · rw [show m + 1 = n by omega]; exact h
    · exact loopN_step (ih q)
noncomputable def loopS (kb kc : Nat) (c : Cn) (body upd : Sx) : Sx := fun sh env μ => by
  classical
  exact if h : ∃ r, ∃ n, loopN kb kc c body upd n sh env μ = some r then some (Classical.choose h) else none
theorem loopS_of {kb kc : Nat} {c : Cn} {body upd : Sx} {n : Nat} {sh : Shp} {env : Ev} {μ : Mem} {r : Rs} (h : loopN kb kc c body upd n sh env μ = some r) : loopS kb kc c body upd sh env μ = some r := by
  have hx : ∃ r, ∃ n, loopN kb kc c body upd n sh env μ = some r := ⟨r, n, h⟩
  unfold loopS
  rw [dif_pos hx]
  obtain ⟨m, hm⟩ := Classical.choose_spec hx
  have h1 := loopN_mono h (Nat.le_max_left n m)
  have h2 := loopN_mono hm (Nat.le_max_right n m)
  rw [h1] at h2
  rw [← Option.some.inj h2]
theorem loopS_some {kb kc : Nat} {c : Cn} {body upd : Sx} {sh : Shp} {env : Ev} {μ : Mem} {r : Rs} (h : loopS kb kc c body upd sh env μ = some r) : ∃ n, loopN kb kc c body upd n sh env μ = some r := by
  unfold loopS at h
  split at h
  · rename_i hx
    have h2 := Classical.choose_spec hx
    rw [Option.some.inj h] at h2
    exact h2
  · cases h
/-- one turn of a loop -/
theorem loopS_eq {kb kc : Nat} {c : Cn} {body upd : Sx} {sh : Shp} {env : Ev} {μ : Mem} : loopS kb kc c body upd sh env μ = (c sh env μ).bind fun b => if b.1 then (body sh env b.2).bind fun r => if r.1 = 0 ∨ r.1 = kc then (upd sh r.2.2.1 r.2.2.2).bind fun q => if q.1 = 0 then loopS kb kc c body upd sh q.2.2.1 q.2.2.2 else none
      else if r.1 = kb then some (0, 0, r.2.2.1, r.2.2.2) else some r
    else some (0, 0, env, b.2) := by
  apply Option.ext
  intro r
  constructor
  · intro h
    obtain ⟨n, h⟩ := loopS_some h
    cases n with
    | zero => cases h
    | succ n =>
      obtain ⟨b, h1, h2⟩ := b_some h
      rw [h1]
      show (if b.1 then _ else _) = some r
      by_cases hb : b.1 = true
      · rw [if_pos hb] at h2 ⊢
        obtain ⟨q, h3, h4⟩ := b_some h2
        rw [h3]
        show (if q.1 = 0 ∨ q.1 = kc then _ else _) = some r
        by_cases hq : q.1 = 0 ∨ q.1 = kc
        · rw [if_pos hq] at h4 ⊢
          obtain ⟨z, h5, h6⟩ := b_some h4
          rw [h5]
          show (if z.1 = 0 then _ else _) = some r
          by_cases hz : z.1 = 0
          · rw [if_pos hz] at h6 ⊢
            exact loopS_of h6
          · rw [if_neg hz] at h6
            cases h6
        · rw [if_neg hq] at h4 ⊢
          exact h4
      · rw [if_neg hb] at h2 ⊢
        exact h2
  · intro h
    obtain ⟨b, h1, h2⟩ := b_some h
    by_cases hb : b.1 = true
    · rw [if_pos hb] at h2
      obtain ⟨q, h3, h4⟩ := b_some h2
      by_cases hq : q.1 = 0 ∨ q.1 = kc
      · rw [if_pos hq] at h4
        obtain ⟨z, h5, h6⟩ := b_some h4
        by_cases hz : z.1 = 0
        · rw [if_pos hz] at h6
          obtain ⟨n, h7⟩ := loopS_some h6
          refine loopS_of (n := n + 1) ?_
          show (c sh env μ).bind _ = some r
          rw [h1]
          show (if b.1 then _ else _) = some r
          rw [if_pos hb, h3]
          show (if q.1 = 0 ∨ q.1 = kc then _ else _) = some r
          rw [if_pos hq, h5]
          show (if z.1 = 0 then _ else _) = some r
          rw [if_pos hz]
          exact h7
        · rw [if_neg hz] at h6
          cases h6
      · rw [if_neg hq] at h4
        refine loopS_of (n := 1) ?_
        show (c sh env μ).bind _ = some r
        rw [h1]
        show (if b.1 then _ else _) = some r
        rw [if_pos hb, h3]
        show (if q.1 = 0 ∨ q.1 = kc then _ else _) = some r
        rw [if_neg hq]
        exact h4
    · rw [if_neg hb] at h2
      refine loopS_of (n := 1) ?_
      show (c sh env μ).bind _ = some r
      rw [h1]
      show (if b.1 then _ else _) = some r
      rw [if_neg hb]
      exact h2
/-- a switch: which case a value goes to, and the cases' texts from there on -/
def swS (kb : Nat) (e : Ex) (sel : Int → Nat) (cases : Nat → Sx) : Sx := fun sh env μ => (e sh env μ).bind fun x => (cases (sel x.1) sh env x.2).bind fun r => if r.1 = kb then some (0, 0, r.2.2.1, r.2.2.2) else some r
theorem okb_okv {ty : FieldType} {t : Nat} {v : Int} (h : okb ty t v = true) : okv ty t v := by
  cases ty <;> simp [okb, okv] at h ⊢ <;> exact h
section SU
variable {M : Md} {Γ : Cx} {pc p1 p2 p3 p4 : Nat} {bs : List (Nat × Nat)}
theorem KX0 {pc' : Nat} {v : Int} {env : Ev} {μ : Mem} (h : KX M Γ bs pc' 0 v env μ) : WP M Γ pc' env [] μ := h
theorem S_skip : SO M Γ pc pc bs skipS := by
  intro G env μ x v env' μ' h k
  cases h
  exact k
theorem S_thru {s : Sx} {off : Int} {tgt : Nat} (hs : SO M Γ pc p1 bs s) (hd : decode M.1 p1 = .ok (.goto off, 3)) (ht : (p1 : Int) + off = (tgt : Int)) : SO M Γ pc tgt bs s := by
  intro G env μ x v env' μ' h k
  refine hs G env μ x v env' μ' h ?_
  unfold KX at k ⊢
  split
  · rename_i hx
    rw [if_pos hx] at k
    exact r_goto G hd ht k
  · rename_i hx
    rw [if_neg hx] at k
    exact k
theorem S_seq {a b : Sx} (ha : SO M Γ pc p1 bs a) (hb : SO M Γ p1 p2 bs b) : SO M Γ pc p2 bs (seqS a b) := by
  intro G env μ x v env' μ' h k
  obtain ⟨⟨x1, v1, e1, μ1⟩, h1, h2⟩ := b_some h
  dsimp only at h2
  refine ha G env μ x1 v1 e1 μ1 h1 ?_
  by_cases hx : x1 = 0
  · rw [if_pos hx] at h2
    unfold KX
    rw [if_pos hx]
    exact hb G e1 μ1 x v env' μ' h2 k
  · rw [if_neg hx] at h2
    cases h2
    unfold KX at k ⊢
    rw [if_neg hx] at k ⊢
    exact k
theorem S_istore {i : Nat} {e : Ex} (he : EO M Γ 0 pc p1 0 e) (hd : decode M.1 p1 = .ok (.istore i, 2)) : SO M Γ pc (p1 + 2) bs (stS i 0 e) := by
  intro G env μ x v env' μ' h k
  obtain ⟨⟨y, μ1⟩, h1, h2⟩ := b_some h
  dsimp only at h2
  split at h2
  · rename_i hl
    cases h2
    exact he G env [] μ _ _ h1 (Nat.le_refl _) (r_istore G hd (by simpa using hl) k)
  · cases h2
theorem S_istore_n {j : Fin 4} {i : Nat} {e : Ex} (he : EO M Γ 0 pc p1 0 e) (hd : decode M.1 p1 = .ok (.istore_n j, 1)) (hj : (j : Nat) = i) : SO M Γ pc (p1 + 1) bs (stS i 0 e) := by
  intro G env μ x v env' μ' h k
  obtain ⟨⟨y, μ1⟩, h1, h2⟩ := b_some h
  dsimp only at h2
  split at h2
  · rename_i hl
    cases h2
    exact he G env [] μ _ _ h1 (Nat.le_refl _) (r_istore_n G hd hj (by simpa using hl) k)
  · cases h2
theorem S_lstore {i : Nat} {e : Ex} (he : EO M Γ 0 pc p1 1 e) (hd : decode M.1 p1 = .ok (.lstore i, 2)) : SO M Γ pc (p1 + 2) bs (stS i 1 e) := by
  intro G env μ x v env' μ' h k
  obtain ⟨⟨y, μ1⟩, h1, h2⟩ := b_some h
  dsimp only at h2
  split at h2
  · rename_i hl
    cases h2
    exact he G env [] μ _ _ h1 (Nat.le_refl _) (r_lstore G hd (by simpa using hl) k)
  · cases h2
theorem S_lstore_n {j : Fin 4} {i : Nat} {e : Ex} (he : EO M Γ 0 pc p1 1 e) (hd : decode M.1 p1 = .ok (.lstore_n j, 1)) (hj : (j : Nat) = i) : SO M Γ pc (p1 + 1) bs (stS i 1 e) := by
  intro G env μ x v env' μ' h k
  obtain ⟨⟨y, μ1⟩, h1, h2⟩ := b_some h
  dsimp only at h2
  split at h2
  · rename_i hl
    cases h2
    exact he G env [] μ _ _ h1 (Nat.le_refl _) (r_lstore_n G hd hj (by simpa using hl) k)
  · cases h2
theorem S_astore {i : Nat} {e : Ex} (he : EO M Γ 0 pc p1 2 e) (hd : decode M.1 p1 = .ok (.astore i, 2)) : SO M Γ pc (p1 + 2) bs (stS i 2 e) := by
  intro G env μ x v env' μ' h k
  obtain ⟨⟨y, μ1⟩, h1, h2⟩ := b_some h
  dsimp only at h2
  split at h2
  · rename_i hl
    cases h2
    exact he G env [] μ _ _ h1 (Nat.le_refl _) (r_astore G hd (by simpa using hl) k)
  · cases h2
theorem S_astore_n {j : Fin 4} {i : Nat} {e : Ex} (he : EO M Γ 0 pc p1 2 e) (hd : decode M.1 p1 = .ok (.astore_n j, 1)) (hj : (j : Nat) = i) : SO M Γ pc (p1 + 1) bs (stS i 2 e) := by
  intro G env μ x v env' μ' h k
  obtain ⟨⟨y, μ1⟩, h1, h2⟩ := b_some h
  dsimp only at h2
  split at h2
  · rename_i hl
    cases h2
    exact he G env [] μ _ _ h1 (Nat.le_refl _) (r_astore_n G hd hj (by simpa using hl) k)
  · cases h2
theorem S_iinc {i : Nat} {n : Int} (hd : decode M.1 pc = .ok (.iinc i n, 3)) : SO M Γ pc (pc + 3) bs (incS i n) := by
  intro G env μ x v env' μ' h k
  unfold incS at h
  split at h
  · rename_i t y hy
    split at h
    · rename_i ht
      subst ht
      cases h
      exact r_iinc G hd hy k
    · cases h
  · cases h
theorem S_putf {idx ci j t : Nat} {ty : FieldType} {a e : Ex} (hf : FP M.2.1 idx ci j t ty) (ha : EO M Γ 0 pc p1 2 a) (he : EO M Γ 1 p1 p2 t e) (hd : decode M.1 p2 = .ok (.putfield idx, 3)) : SO M Γ pc (p2 + 3) bs (putS ci j t ty a e) := by
  intro G env μ x v env' μ' h k
  obtain ⟨⟨xa, μ1⟩, h1, h⟩ := b_some h
  obtain ⟨⟨xe, μ2⟩, h2, h3⟩ := b_some h
  dsimp only at h3
  split at h3
  · rename_i q hq
    split at h3
    · rename_i hc
      cases h3
      obtain ⟨ci', nn⟩ := q
      obtain ⟨rfl, g⟩ := hc
      exact ha G env [] μ _ _ h1 (Nat.le_refl _) (he G env _ _ _ _ h2 (wd2 (Nat.le_refl _)) (r_putf G hf hd hq (okb_okv g) k))
    · cases h3
  · cases h3
theorem S_iast {a i e : Ex} (ha : EO M Γ 0 pc p1 2 a) (hi : EO M Γ 1 p1 p2 0 i) (he : EO M Γ 2 p2 p3 0 e) (hd : decode M.1 p3 = .ok (.iastore, 1)) : SO M Γ pc (p3 + 1) bs (astS 100 a i e) := by
  intro G env μ x v env' μ' h k
  obtain ⟨⟨xa, μ1⟩, h1, h⟩ := b_some h
  obtain ⟨⟨xi, μ2⟩, h2, h⟩ := b_some h
  obtain ⟨⟨xe, μ3⟩, h3, h4⟩ := b_some h
  dsimp only at h4
  split at h4
  · rename_i q hq
    split at h4
    · rename_i hc
      cases h4
      obtain ⟨ci', nn⟩ := q
      obtain ⟨rfl, g1, g2⟩ := hc
      exact ha G env [] μ _ _ h1 (Nat.le_refl _) (hi G env _ _ _ _ h2 (wd2 (Nat.le_refl _)) (he G env _ _ _ _ h3 (wd0 (wd2 (Nat.le_refl _))) (r_iast G hd hq g1 g2 k)))
    · cases h4
  · cases h4
theorem S_last {a i e : Ex} (ha : EO M Γ 0 pc p1 2 a) (hi : EO M Γ 1 p1 p2 0 i) (he : EO M Γ 2 p2 p3 1 e) (hd : decode M.1 p3 = .ok (.lastore, 1)) : SO M Γ pc (p3 + 1) bs (astS 101 a i e) := by
  intro G env μ x v env' μ' h k
  obtain ⟨⟨xa, μ1⟩, h1, h⟩ := b_some h
  obtain ⟨⟨xi, μ2⟩, h2, h⟩ := b_some h
  obtain ⟨⟨xe, μ3⟩, h3, h4⟩ := b_some h
  dsimp only at h4
  split at h4
  · rename_i q hq
    split at h4
    · rename_i hc
      cases h4
      obtain ⟨ci', nn⟩ := q
      obtain ⟨rfl, g1, g2⟩ := hc
      exact ha G env [] μ _ _ h1 (Nat.le_refl _) (hi G env _ _ _ _ h2 (wd2 (Nat.le_refl _)) (he G env _ _ _ _ h3 (wd0 (wd2 (Nat.le_refl _))) (r_last G hd hq g1 g2 k)))
    · cases h4
  · cases h4
theorem S_cast {a i e : Ex} (ha : EO M Γ 0 pc p1 2 a) (hi : EO M Γ 1 p1 p2 0 i) (he : EO M Γ 2 p2 p3 0 e) (hd : decode M.1 p3 = .ok (.castore, 1)) : SO M Γ pc (p3 + 1) bs (astS 102 a i e) := by
  intro G env μ x v env' μ' h k
  obtain ⟨⟨xa, μ1⟩, h1, h⟩ := b_some h
  obtain ⟨⟨xi, μ2⟩, h2, h⟩ := b_some h
  obtain ⟨⟨xe, μ3⟩, h3, h4⟩ := b_some h
  dsimp only at h4
  split at h4
  · rename_i q hq
    split at h4
    · rename_i hc
      cases h4
      obtain ⟨ci', nn⟩ := q
      obtain ⟨rfl, g1, g2⟩ := hc
      exact ha G env [] μ _ _ h1 (Nat.le_refl _) (hi G env _ _ _ _ h2 (wd2 (Nat.le_refl _)) (he G env _ _ _ _ h3 (wd0 (wd2 (Nat.le_refl _))) (r_cast G hd hq g1 g2 k)))
    · cases h4
  · cases h4
theorem S_bast {a i e : Ex} (ha : EO M Γ 0 pc p1 2 a) (hi : EO M Γ 1 p1 p2 0 i) (he : EO M Γ 2 p2 p3 0 e) (hd : decode M.1 p3 = .ok (.bastore, 1)) : SO M Γ pc (p3 + 1) bs (astS 103 a i e) := by
  intro G env μ x v env' μ' h k
  obtain ⟨⟨xa, μ1⟩, h1, h⟩ := b_some h
  obtain ⟨⟨xi, μ2⟩, h2, h⟩ := b_some h
  obtain ⟨⟨xe, μ3⟩, h3, h4⟩ := b_some h
  dsimp only at h4
  split at h4
  · rename_i q hq
    split at h4
    · rename_i hc
      cases h4
      obtain ⟨ci', nn⟩ := q
      obtain ⟨rfl, g1, g2⟩ := hc
      exact ha G env [] μ _ _ h1 (Nat.le_refl _) (hi G env _ _ _ _ h2 (wd2 (Nat.le_refl _)) (he G env _ _ _ _ h3 (wd0 (wd2 (Nat.le_refl _))) (r_bast G hd hq g1 g2 k)))
    · cases h4
  · cases h4
theorem S_zast {a i e : Ex} (ha : EO M Γ 0 pc p1 2 a) (hi : EO M Γ 1 p1 p2 0 i) (he : EO M Γ 2 p2 p3 0 e) (hd : decode M.1 p3 = .ok (.bastore, 1)) : SO M Γ pc (p3 + 1) bs (astS 104 a i e) := by
  intro G env μ x v env' μ' h k
  obtain ⟨⟨xa, μ1⟩, h1, h⟩ := b_some h
  obtain ⟨⟨xi, μ2⟩, h2, h⟩ := b_some h
  obtain ⟨⟨xe, μ3⟩, h3, h4⟩ := b_some h
  dsimp only at h4
  split at h4
  · rename_i q hq
    split at h4
    · rename_i hc
      cases h4
      obtain ⟨ci', nn⟩ := q
      obtain ⟨rfl, g1, g2⟩ := hc
      exact ha G env [] μ _ _ h1 (Nat.le_refl _) (hi G env _ _ _ _ h2 (wd2 (Nat.le_refl _)) (he G env _ _ _ _ h3 (wd0 (wd2 (Nat.le_refl _))) (r_zast G hd hq g1 g2 k)))
    · cases h4
  · cases h4
theorem S_aop_iadd {a i e : Ex} (ha : EO M Γ 0 pc p1 2 a) (hi : EO M Γ 1 p1 p2 0 i) (h2 : decode M.1 p2 = .ok (.dup2, 1)) (h3 : decode M.1 (p2 + 1) = .ok (.iaload, 1)) (he : EO M Γ 3 (p2 + 2) p3 0 e) (ho : decode M.1 p3 = .ok (.iadd, 1)) (hd : decode M.1 (p3 + 1) = .ok (.iastore, 1)) : SO M Γ pc (p3 + 2) bs (aopS 100 (fun x y => w32 (x + y)) a i e) := by
  intro G env μ x v env' μ' h k
  obtain ⟨⟨xa, μ1⟩, g1, h⟩ := b_some h
  obtain ⟨⟨xi, μ2⟩, g2, h⟩ := b_some h
  obtain ⟨⟨xe, μ3⟩, g3, h4⟩ := b_some h
  dsimp only at h4
  split at h4
  · rename_i q hq
    split at h4
    · rename_i hc
      cases h4
      obtain ⟨ci', nn⟩ := q
      obtain ⟨rfl, f1, f2⟩ := hc
      exact ha G env [] μ _ _ g1 (Nat.le_refl _) (hi G env _ _ _ _ g2 (wd2 (Nat.le_refl _)) (r_dup2 G h2 (by decide) (by decide) (r_iald G h3 hq f1 f2 (he G env _ _ _ _ g3 (wd0 (wd0 (wd2 (Nat.le_refl _)))) (r_iadd G ho (r_iast G hd hq f1 f2 k))))))
    · cases h4
  · cases h4
theorem S_fop_iadd {idx ci j : Nat} {a e : Ex} (hf : FL M.2.1 idx ci j 0) (hp : FP M.2.1 idx ci j 0 .int) (ha : EO M Γ 0 pc p1 2 a) (h2 : decode M.1 p1 = .ok (.dup, 1)) (h3 : decode M.1 (p1 + 1) = .ok (.getfield idx, 3)) (he : EO M Γ 2 (p1 + 4) p3 0 e) (ho : decode M.1 p3 = .ok (.iadd, 1)) (hd : decode M.1 (p3 + 1) = .ok (.putfield idx, 3)) : SO M Γ pc (p3 + 4) bs (fopS ci j (fun x y => w32 (x + y)) a e) := by
  intro G env μ x v env' μ' h k
  obtain ⟨⟨xa, μ1⟩, g1, h⟩ := b_some h
  obtain ⟨⟨xe, μ3⟩, g3, h4⟩ := b_some h
  dsimp only at h4
  split at h4
  · rename_i q hq
    split at h4
    · rename_i hc
      cases h4
      obtain ⟨ci', nn⟩ := q
      simp only at hc
      subst hc
      exact ha G env [] μ _ _ g1 (Nat.le_refl _) (r_dup G h2 (by decide) (r_getf G hf h3 hq (fun z => absurd z (by decide)) (he G env _ _ _ _ g3 (wd0 (wd2 (Nat.le_refl _))) (r_iadd G ho (r_putf G hp hd hq rfl k)))))
    · cases h4
  · cases h4
theorem S_aop_isub {a i e : Ex} (ha : EO M Γ 0 pc p1 2 a) (hi : EO M Γ 1 p1 p2 0 i) (h2 : decode M.1 p2 = .ok (.dup2, 1)) (h3 : decode M.1 (p2 + 1) = .ok (.iaload, 1)) (he : EO M Γ 3 (p2 + 2) p3 0 e) (ho : decode M.1 p3 = .ok (.isub, 1)) (hd : decode M.1 (p3 + 1) = .ok (.iastore, 1)) : SO M Γ pc (p3 + 2) bs (aopS 100 (fun x y => w32 (x - y)) a i e) := by
  intro G env μ x v env' μ' h k
  obtain ⟨⟨xa, μ1⟩, g1, h⟩ := b_some h
  obtain ⟨⟨xi, μ2⟩, g2, h⟩ := b_some h
  obtain ⟨⟨xe, μ3⟩, g3, h4⟩ := b_some h
  dsimp only at h4
  split at h4
  · rename_i q hq
    split at h4
    · rename_i hc
      cases h4
      obtain ⟨ci', nn⟩ := q
      obtain ⟨rfl, f1, f2⟩ := hc
      exact ha G env [] μ _ _ g1 (Nat.le_refl _) (hi G env _ _ _ _ g2 (wd2 (Nat.le_refl _)) (r_dup2 G h2 (by decide) (by decide) (r_iald G h3 hq f1 f2 (he G env _ _ _ _ g3 (wd0 (wd0 (wd2 (Nat.le_refl _)))) (r_isub G ho (r_iast G hd hq f1 f2 k))))))
    · cases h4
  · cases h4
theorem S_fop_isub {idx ci j : Nat} {a e : Ex} (hf : FL M.2.1 idx ci j 0) (hp : FP M.2.1 idx ci j 0 .int) (ha : EO M Γ 0 pc p1 2 a) (h2 : decode M.1 p1 = .ok (.dup, 1)) (h3 : decode M.1 (p1 + 1) = .ok (.getfield idx, 3)) (he : EO M Γ 2 (p1 + 4) p3 0 e) (ho : decode M.1 p3 = .ok (.isub, 1)) (hd : decode M.1 (p3 + 1) = .ok (.putfield idx, 3)) : SO M Γ pc (p3 + 4) bs (fopS ci j (fun x y => w32 (x - y)) a e) := by
  intro G env μ x v env' μ' h k
  obtain ⟨⟨xa, μ1⟩, g1, h⟩ := b_some h
  obtain ⟨⟨xe, μ3⟩, g3, h4⟩ := b_some h
  dsimp only at h4
  split at h4
  · rename_i q hq
    split at h4
    · rename_i hc
      cases h4
      obtain ⟨ci', nn⟩ := q
      simp only at hc
      subst hc
      exact ha G env [] μ _ _ g1 (Nat.le_refl _) (r_dup G h2 (by decide) (r_getf G hf h3 hq (fun z => absurd z (by decide)) (he G env _ _ _ _ g3 (wd0 (wd2 (Nat.le_refl _))) (r_isub G ho (r_putf G hp hd hq rfl k)))))
    · cases h4
  · cases h4
theorem S_aop_ior {a i e : Ex} (ha : EO M Γ 0 pc p1 2 a) (hi : EO M Γ 1 p1 p2 0 i) (h2 : decode M.1 p2 = .ok (.dup2, 1)) (h3 : decode M.1 (p2 + 1) = .ok (.iaload, 1)) (he : EO M Γ 3 (p2 + 2) p3 0 e) (ho : decode M.1 p3 = .ok (.ior, 1)) (hd : decode M.1 (p3 + 1) = .ok (.iastore, 1)) : SO M Γ pc (p3 + 2) bs (aopS 100 (o_ior) a i e) := by
  intro G env μ x v env' μ' h k
  obtain ⟨⟨xa, μ1⟩, g1, h⟩ := b_some h
  obtain ⟨⟨xi, μ2⟩, g2, h⟩ := b_some h
  obtain ⟨⟨xe, μ3⟩, g3, h4⟩ := b_some h
  dsimp only at h4
  split at h4
  · rename_i q hq
    split at h4
    · rename_i hc
      cases h4
      obtain ⟨ci', nn⟩ := q
      obtain ⟨rfl, f1, f2⟩ := hc
      exact ha G env [] μ _ _ g1 (Nat.le_refl _) (hi G env _ _ _ _ g2 (wd2 (Nat.le_refl _)) (r_dup2 G h2 (by decide) (by decide) (r_iald G h3 hq f1 f2 (he G env _ _ _ _ g3 (wd0 (wd0 (wd2 (Nat.le_refl _)))) (r_ior G ho (r_iast G hd hq f1 f2 k))))))
    · cases h4
  · cases h4
theorem S_fop_ior {idx ci j : Nat} {a e : Ex} (hf : FL M.2.1 idx ci j 0) (hp : FP M.2.1 idx ci j 0 .int) (ha : EO M Γ 0 pc p1 2 a) (h2 : decode M.1 p1 = .ok (.dup, 1)) (h3 : decode M.1 (p1 + 1) = .ok (.getfield idx, 3)) (he : EO M Γ 2 (p1 + 4) p3 0 e) (ho : decode M.1 p3 = .ok (.ior, 1)) (hd : decode M.1 (p3 + 1) = .ok (.putfield idx, 3)) : SO M Γ pc (p3 + 4) bs (fopS ci j (o_ior) a e) := by
  intro G env μ x v env' μ' h k
  obtain ⟨⟨xa, μ1⟩, g1, h⟩ := b_some h
  obtain ⟨⟨xe, μ3⟩, g3, h4⟩ := b_some h
  dsimp only at h4
  split at h4
  · rename_i q hq
    split at h4
    · rename_i hc
      cases h4
      obtain ⟨ci', nn⟩ := q
      simp only at hc
      subst hc
      exact ha G env [] μ _ _ g1 (Nat.le_refl _) (r_dup G h2 (by decide) (r_getf G hf h3 hq (fun z => absurd z (by decide)) (he G env _ _ _ _ g3 (wd0 (wd2 (Nat.le_refl _))) (r_ior G ho (r_putf G hp hd hq rfl k)))))
    · cases h4
  · cases h4
theorem S_aop_iand {a i e : Ex} (ha : EO M Γ 0 pc p1 2 a) (hi : EO M Γ 1 p1 p2 0 i) (h2 : decode M.1 p2 = .ok (.dup2, 1)) (h3 : decode M.1 (p2 + 1) = .ok (.iaload, 1)) (he : EO M Γ 3 (p2 + 2) p3 0 e) (ho : decode M.1 p3 = .ok (.iand, 1)) (hd : decode M.1 (p3 + 1) = .ok (.iastore, 1)) : SO M Γ pc (p3 + 2) bs (aopS 100 (o_iand) a i e) := by
  intro G env μ x v env' μ' h k
  obtain ⟨⟨xa, μ1⟩, g1, h⟩ := b_some h
  obtain ⟨⟨xi, μ2⟩, g2, h⟩ := b_some h
  obtain ⟨⟨xe, μ3⟩, g3, h4⟩ := b_some h
  dsimp only at h4
  split at h4
  · rename_i q hq
    split at h4
    · rename_i hc
      cases h4
      obtain ⟨ci', nn⟩ := q
      obtain ⟨rfl, f1, f2⟩ := hc
      exact ha G env [] μ _ _ g1 (Nat.le_refl _) (hi G env _ _ _ _ g2 (wd2 (Nat.le_refl _)) (r_dup2 G h2 (by decide) (by decide) (r_iald G h3 hq f1 f2 (he G env _ _ _ _ g3 (wd0 (wd0 (wd2 (Nat.le_refl _)))) (r_iand G ho (r_iast G hd hq f1 f2 k))))))
    · cases h4
  · cases h4
theorem S_fop_iand {idx ci j : Nat} {a e : Ex} (hf : FL M.2.1 idx ci j 0) (hp : FP M.2.1 idx ci j 0 .int) (ha : EO M Γ 0 pc p1 2 a) (h2 : decode M.1 p1 = .ok (.dup, 1)) (h3 : decode M.1 (p1 + 1) = .ok (.getfield idx, 3)) (he : EO M Γ 2 (p1 + 4) p3 0 e) (ho : decode M.1 p3 = .ok (.iand, 1)) (hd : decode M.1 (p3 + 1) = .ok (.putfield idx, 3)) : SO M Γ pc (p3 + 4) bs (fopS ci j (o_iand) a e) := by
  intro G env μ x v env' μ' h k
  obtain ⟨⟨xa, μ1⟩, g1, h⟩ := b_some h
  obtain ⟨⟨xe, μ3⟩, g3, h4⟩ := b_some h
  dsimp only at h4
  split at h4
  · rename_i q hq
    split at h4
    · rename_i hc
      cases h4
      obtain ⟨ci', nn⟩ := q
      simp only at hc
      subst hc
      exact ha G env [] μ _ _ g1 (Nat.le_refl _) (r_dup G h2 (by decide) (r_getf G hf h3 hq (fun z => absurd z (by decide)) (he G env _ _ _ _ g3 (wd0 (wd2 (Nat.le_refl _))) (r_iand G ho (r_putf G hp hd hq rfl k)))))
    · cases h4
  · cases h4
theorem S_aop_ixor {a i e : Ex} (ha : EO M Γ 0 pc p1 2 a) (hi : EO M Γ 1 p1 p2 0 i) (h2 : decode M.1 p2 = .ok (.dup2, 1)) (h3 : decode M.1 (p2 + 1) = .ok (.iaload, 1)) (he : EO M Γ 3 (p2 + 2) p3 0 e) (ho : decode M.1 p3 = .ok (.ixor, 1)) (hd : decode M.1 (p3 + 1) = .ok (.iastore, 1)) : SO M Γ pc (p3 + 2) bs (aopS 100 (o_ixor) a i e) := by
  intro G env μ x v env' μ' h k
  obtain ⟨⟨xa, μ1⟩, g1, h⟩ := b_some h
  obtain ⟨⟨xi, μ2⟩, g2, h⟩ := b_some h
  obtain ⟨⟨xe, μ3⟩, g3, h4⟩ := b_some h
  dsimp only at h4
  split at h4
  · rename_i q hq
    split at h4
    · rename_i hc
      cases h4
      obtain ⟨ci', nn⟩ := q
      obtain ⟨rfl, f1, f2⟩ := hc
      exact ha G env [] μ _ _ g1 (Nat.le_refl _) (hi G env _ _ _ _ g2 (wd2 (Nat.le_refl _)) (r_dup2 G h2 (by decide) (by decide) (r_iald G h3 hq f1 f2 (he G env _ _ _ _ g3 (wd0 (wd0 (wd2 (Nat.le_refl _)))) (r_ixor G ho (r_iast G hd hq f1 f2 k))))))
    · cases h4
  · cases h4
theorem S_fop_ixor {idx ci j : Nat} {a e : Ex} (hf : FL M.2.1 idx ci j 0) (hp : FP M.2.1 idx ci j 0 .int) (ha : EO M Γ 0 pc p1 2 a) (h2 : decode M.1 p1 = .ok (.dup, 1)) (h3 : decode M.1 (p1 + 1) = .ok (.getfield idx, 3)) (he : EO M Γ 2 (p1 + 4) p3 0 e) (ho : decode M.1 p3 = .ok (.ixor, 1)) (hd : decode M.1 (p3 + 1) = .ok (.putfield idx, 3)) : SO M Γ pc (p3 + 4) bs (fopS ci j (o_ixor) a e) := by
  intro G env μ x v env' μ' h k
  obtain ⟨⟨xa, μ1⟩, g1, h⟩ := b_some h
  obtain ⟨⟨xe, μ3⟩, g3, h4⟩ := b_some h
  dsimp only at h4
  split at h4
  · rename_i q hq
    split at h4
    · rename_i hc
      cases h4
      obtain ⟨ci', nn⟩ := q
      simp only at hc
      subst hc
      exact ha G env [] μ _ _ g1 (Nat.le_refl _) (r_dup G h2 (by decide) (r_getf G hf h3 hq (fun z => absurd z (by decide)) (he G env _ _ _ _ g3 (wd0 (wd2 (Nat.le_refl _))) (r_ixor G ho (r_putf G hp hd hq rfl k)))))
    · cases h4
  · cases h4
theorem S_pop {e : Ex} (he : EO M Γ 0 pc p1 0 e) (hd : decode M.1 p1 = .ok (.pop, 1)) : SO M Γ pc (p1 + 1) bs (exS e) := by
  intro G env μ x v env' μ' h k
  obtain ⟨⟨y, μ1⟩, h1, h2⟩ := b_some h
  cases h2
  exact he G env [] μ _ _ h1 (Nat.le_refl _) (r_pop G hd (by decide) k)
theorem S_callV {y : MethodName} {bytes : ByteArray} {maxL : Nat} {d idx ci n : Nat} {f : Fn} {as : List (Nat × Ex)} (hM : MO y bytes maxL none d f) (hw9 : CV M.2.1 idx ci y bytes maxL none n) (ha : AO M Γ 0 pc p1 as) (hd : decode M.1 p1 = .ok (.invokevirtual idx, 3)) (hdep : d + 1 ≤ M.2.2.1) (hl : as.length = n + 1) : SO M Γ pc (p1 + 3) bs (exS (cvE ci f as)) := by
  intro G env μ x v env' μ' h k
  obtain ⟨⟨y, μ1⟩, h1, h2⟩ := b_some h
  cases h2
  obtain ⟨a, vs, μ1, nn, g1, g2, g3⟩ := cvE_some h1
  have hln := evA_len g1
  simp only [List.length_cons] at hln
  refine ha G env [] μ _ _ g1 (Nat.le_refl _) ?_
  rw [List.reverse_cons, List.append_assoc]
  exact r_callV G hM hw9 hd hdep (by decide) (by omega) g2 g3 (Nat.zero_le _) k
theorem S_callS {y : MethodName} {bytes : ByteArray} {maxL : Nat} {d idx n : Nat} {f : Fn} {as : List (Nat × Ex)} (hM : MO y bytes maxL none d f) (hw9 : CS M.2.1 idx y bytes maxL none n) (ha : AO M Γ 0 pc p1 as) (hd : decode M.1 p1 = .ok (.invokestatic idx, 3)) (hdep : d + 1 ≤ M.2.2.1) (hl : as.length = n) : SO M Γ pc (p1 + 3) bs (exS (csE f as)) := by
  intro G env μ x v env' μ' h k
  obtain ⟨⟨y, μ1⟩, h1, h2⟩ := b_some h
  cases h2
  obtain ⟨⟨vs, μ1⟩, g1, g3⟩ := b_some h1
  have hln := evA_len g1
  refine ha G env [] μ _ _ g1 (Nat.le_refl _) ?_
  exact r_callS G hM hw9 hd hdep (by decide) (by omega) g3 (Nat.zero_le _) k
theorem S_copy {idx : Nat} {a sp b dp n : Ex} {p5 : Nat} (hw : Cond.methodLink M.2.1 idx arraycopyName ∈ tbl ∧ Cond.native arraycopyName ∈ tbl ∧ Cond.static arraycopyName ∈ tbl ∧ Cond.initialized "java/lang/System" ∈ tbl) (h1 : EO M Γ 0 pc p1 2 a) (h2 : EO M Γ 1 p1 p2 0 sp) (h3 : EO M Γ 2 p2 p3 2 b) (h4 : EO M Γ 3 p3 p4 0 dp) (h5 : EO M Γ 4 p4 p5 0 n) (hd : decode M.1 p5 = .ok (.invokestatic idx, 3)) (hdep : 1 ≤ M.2.2.1) : SO M Γ pc (p5 + 3) bs (copyS a sp b dp n) := by
  intro G env μ x v env' μ' h k
  obtain ⟨⟨xa, μ1⟩, g1, h⟩ := b_some h
  obtain ⟨⟨xs, μ2⟩, g2, h⟩ := b_some h
  obtain ⟨⟨xb, μ3⟩, g3, h⟩ := b_some h
  obtain ⟨⟨xd, μ4⟩, g4, h⟩ := b_some h
  obtain ⟨⟨xn, μ5⟩, g5, h⟩ := b_some h
  dsimp only at h
  split at h
  · rename_i q0 q1 hq0 hq1
    split at h
    · rename_i hc
      cases h
      obtain ⟨k0, n0⟩ := q0
      obtain ⟨k1, n1⟩ := q1
      obtain ⟨e0, e1, f1, f2, f3, f4, f5⟩ := hc
      simp only at e0 e1 f4 f5
      subst e0
      subst e1
      exact h1 G env [] μ _ _ g1 (Nat.le_refl _) (h2 G env _ _ _ _ g2 (wd2 (Nat.le_refl _)) (h3 G env _ _ _ _ g3 (wd0 (wd2 (Nat.le_refl _))) (h4 G env _ _ _ _ g4 (wd2 (wd0 (wd2 (Nat.le_refl _)))) (h5 G env _ _ _ _ g5 (wd0 (wd2 (wd0 (wd2 (Nat.le_refl _))))) (r_copy G hw hd hdep (Nat.zero_le _) hq0 hq1 f1 f2 f3 f4 f5 k)))))
    · cases h
  · cases h
theorem S_if {c : Cn} {a b : Sx} {q : Nat} (hc : CO M Γ 0 pc p1 p2 c) (ha : SO M Γ p1 q bs a) (hb : SO M Γ p2 q bs b) : SO M Γ pc q bs (ifS c a b) := by
  intro G env μ x v env' μ' h k
  obtain ⟨⟨y, μ1⟩, h1, h2⟩ := b_some h
  refine hc G env [] μ _ _ h1 (Nat.le_refl _) ?_
  cases y with
  | true => exact ha G env μ1 x v env' μ' h2 k
  | false => exact hb G env μ1 x v env' μ' h2 k
theorem S_reti {e : Ex} {q : Nat} (hr : M.2.2.2.2 = some .int) (he : EO M Γ 0 pc p1 0 e) (hd : decode M.1 p1 = .ok (.ireturn, 1)) : SO M Γ pc q bs (retS e) := by
  intro G env μ x v env' μ' h k
  obtain ⟨⟨y, μ1⟩, h1, h2⟩ := b_some h
  cases h2
  exact he G env [] μ _ _ h1 (Nat.le_refl _) (r_iret G hr hd k)
theorem S_retl {e : Ex} {q : Nat} (hr : M.2.2.2.2 = some .long) (he : EO M Γ 0 pc p1 1 e) (hd : decode M.1 p1 = .ok (.lreturn, 1)) : SO M Γ pc q bs (retS e) := by
  intro G env μ x v env' μ' h k
  obtain ⟨⟨y, μ1⟩, h1, h2⟩ := b_some h
  cases h2
  exact he G env [] μ _ _ h1 (Nat.le_refl _) (r_lret G hr hd k)
theorem S_retz {e : Ex} {q : Nat} (hr : M.2.2.2.2 = some .boolean) (he : EO M Γ 0 pc p1 0 e) (hd : decode M.1 p1 = .ok (.ireturn, 1)) : SO M Γ pc q bs (retZ e) := by
  intro G env μ x v env' μ' h k
  obtain ⟨⟨y, μ1⟩, h1, h2⟩ := b_some h
  dsimp only at h2
  split at h2
  · rename_i h01
    cases h2
    exact he G env [] μ _ _ h1 (Nat.le_refl _) (r_zret G hr h01 hd k)
  · cases h2
theorem S_retv {q : Nat} (hr : M.2.2.2.2 = none) (hd : decode M.1 pc = .ok (.return_, 1)) : SO M Γ pc q bs retV := by
  intro G env μ x v env' μ' h k
  cases h
  exact r_vret G hr hd k
theorem S_brk {kk : Nat} {off : Int} {tgt q : Nat} (hd : decode M.1 pc = .ok (.goto off, 3)) (ht : (pc : Int) + off = (tgt : Int)) (hk : 2 ≤ kk) (hb : bs.lookup kk = some tgt) : SO M Γ pc q bs (brkS kk) := by
  intro G env μ x v env' μ' h k
  cases h
  unfold KX at k
  rw [if_neg (by omega), if_neg (by omega), hb] at k
  exact r_goto G hd ht k
/-- a jump that was left out: the code goes on where it would have gone to -/
theorem S_brk0 {kk : Nat} {q : Nat} (hk : 2 ≤ kk) (hb : bs.lookup kk = some pc) : SO M Γ pc q bs (brkS kk) := by
  intro G env μ x v env' μ' h k
  cases h
  unfold KX at k
  rw [if_neg (by omega), if_neg (by omega), hb] at k
  exact k
theorem S_loop {kb kc : Nat} {c : Cn} {body upd : Sx} (h2 : 2 ≤ kb) (h3 : 2 ≤ kc) (hne : kb ≠ kc) (hc : CO M Γ 0 pc p1 p2 c) (hb : SO M Γ p1 p3 ((kb, p2) :: (kc, p3) :: bs) body) (hu : SO M Γ p3 pc [] upd) : SO M Γ pc p2 bs (loopS kb kc c body upd) := by
  intro G env μ x v env' μ' h k
  obtain ⟨n, hN⟩ := loopS_some h
  clear h
  induction n generalizing env μ with
  | zero => cases hN
  | succ n ih =>
    obtain ⟨⟨b, μ1⟩, g1, g2⟩ := b_some hN
    refine hc G env [] μ _ _ g1 (Nat.le_refl _) ?_
    cases b with
    | false =>
      cases g2
      exact k
    | true =>
      obtain ⟨⟨x1, v1, e1, μ2⟩, g3, g4⟩ := b_some g2
      dsimp only at g4
      have hup : (x1 = 0 ∨ x1 = kc) → WP M Γ p3 e1 [] μ2 := by
        intro hx
        rw [if_pos hx] at g4
        obtain ⟨⟨x2, v2, e2, μ3⟩, g5, g6⟩ := b_some g4
        dsimp only at g6
        split at g6
        · rename_i hx2
          subst hx2
          exact hu G e1 μ2 0 v2 e2 μ3 g5 (ih e2 μ3 g6)
        · cases g6
      refine hb G env μ1 x1 v1 e1 μ2 g3 ?_
      unfold KX
      by_cases hx0 : x1 = 0
      · rw [if_pos hx0]
        exact hup (Or.inl hx0)
      · rw [if_neg hx0]
        by_cases hxc : x1 = kc
        · subst hxc
          rw [if_neg (by omega)]
          have e9 : ((kb, p2) :: (x1, p3) :: bs).lookup x1 = some p3 := by
            rw [List.lookup_cons, show (x1 == kb) = false by simpa using (fun z => hne z.symm), List.lookup_cons, show (x1 == x1) = true by simp]
          rw [e9]
          exact hup (Or.inr rfl)
        · rw [if_neg (by omega)] at g4
          by_cases hxb : x1 = kb
          · subst hxb
            rw [if_pos rfl] at g4
            cases g4
            rw [if_neg (by omega)]
            have e9 : ((x1, p2) :: (kc, p3) :: bs).lookup x1 = some p2 := by
              rw [List.lookup_cons, show (x1 == x1) = true by simp]
            rw [e9]
            exact k
          · rw [if_neg hxb] at g4
            cases g4
            unfold KX at k
            rw [if_neg hx0] at k
            by_cases hx1 : x = 1
            · rw [if_pos hx1] at k ⊢
              exact k
            · rw [if_neg hx1] at k ⊢
              have e9 : ((kb, p2) :: (kc, p3) :: bs).lookup x = bs.lookup x := by
                rw [List.lookup_cons, show (x == kb) = false by simpa using hxb, List.lookup_cons, show (x == kc) = false by simpa using hxc]
              rw [e9]
              exact k
theorem r_tsw (G : CK M Γ) {env : Ev} {st : List Vl} {μ : Mem} {dflt lo hi : Int} {offs : Array Int} {len : Nat} {v : Int} {tgt : Nat} (hd : decode M.1 pc = .ok (.tableswitch dflt lo hi offs, len)) (ht : (v < lo ∨ hi < v) ∧ (pc : Int) + dflt = (tgt : Int) ∨ (¬ v < lo ∧ ¬ hi < v) ∧ ∃ off, offs[(v - lo).toNat]? = some off ∧ (pc : Int) + off = (tgt : Int)) (k : WP M Γ tgt env st μ) : WP M Γ pc env ((0, v) :: st) μ := by
  obtain ⟨p, l, e, s, m, args, below, meth, c, D, ad, sh, F, A, R, nc, ns, Q⟩ := Γ
  obtain ⟨hx, hb, hml, hown, hts, hD, hK, hKa, hrt, hlk, hal, hsk, hR, hQ⟩ := G
  intro H locs ls hP hM hS hE hn hst
  obtain ⟨-, hv, -⟩ := sok_t hst
  have k1 := k H locs ls hP hM hS hE hn (sok_d hst)
  rcases ht with ⟨h1, h2⟩ | ⟨h1, off, h2, h3⟩
  · exact lv_tableOut hx hb hd (by rw [i32_rgto hv]; exact h1) h2 k1
  · exact lv_tableIn hx hb hd (by rw [i32_rgto hv]; exact h1.1) (by rw [i32_rgto hv]; exact h1.2) (by rw [i32_rgto hv]; exact h2) h3 k1
theorem r_lsw (G : CK M Γ) {env : Ev} {st : List Vl} {μ : Mem} {dflt : Int} {ps : Array (Int × Int)} {len : Nat} {v : Int} {tgt : Nat} (hd : decode M.1 pc = .ok (.lookupswitch dflt ps, len)) (hp : (ps.toList.zip (ps.toList.drop 1)).all (fun (a, next) => a.1 < next.1) = true) (ht : (pc : Int) + Op.lookupswitch.offset ps.toList dflt v = (tgt : Int)) (k : WP M Γ tgt env st μ) : WP M Γ pc env ((0, v) :: st) μ := by
  obtain ⟨p, l, e, s, m, args, below, meth, c, D, ad, sh, F, A, R, nc, ns, Q⟩ := Γ
  obtain ⟨hx, hb, hml, hown, hts, hD, hK, hKa, hrt, hlk, hal, hsk, hR, hQ⟩ := G
  intro H locs ls hP hM hS hE hn hst
  obtain ⟨-, hv, -⟩ := sok_t hst
  have k1 := k H locs ls hP hM hS hE hn (sok_d hst)
  exact lv_lookup hx hb hd hp (by rw [i32_rgto hv]) ht k1
/-- a switch's jump: from its own place with a value to the place of the value's case -/
def SW (M : Md) (Γ : Cx) (pc : Nat) (pcs : Nat → Nat) (sel : Int → Nat) : Prop := CK M Γ → ∀ env μ v, WP M Γ (pcs (sel v)) env [] μ → WP M Γ pc env [(0, v)] μ
theorem S_switch {kb : Nat} {e : Ex} {sel : Int → Nat} {pcs : Nat → Nat} {cases : Nat → Sx} {q : Nat} (h2 : 2 ≤ kb) (he : EO M Γ 0 pc p1 0 e) (hs : SW M Γ p1 pcs sel) (hb : ∀ i, SO M Γ (pcs i) q ((kb, q) :: bs) (cases i)) : SO M Γ pc q bs (swS kb e sel cases) := by
  intro G env μ x v env' μ' h k
  obtain ⟨⟨y, μ1⟩, h1, h⟩ := b_some h
  obtain ⟨⟨x1, v1, e1, μ2⟩, g2, g3⟩ := b_some h
  dsimp only at g2 g3
  refine he G env [] μ _ _ h1 (Nat.le_refl _) (hs G env μ1 y (hb (sel y) G env μ1 x1 v1 e1 μ2 g2 ?_))
  split at g3
  · rename_i hx
    subst hx
    cases g3
    unfold KX
    rw [if_neg (by omega), if_neg (by omega)]
    have e9 : ((x1, q) :: bs).lookup x1 = some q := by
      rw [List.lookup_cons, show (x1 == x1) = true by simp]
    rw [e9]
    exact k
  · rename_i hx
    cases g3
    unfold KX at k ⊢
    by_cases hx0 : x = 0
    · rw [if_pos hx0] at k ⊢
      exact k
    · rw [if_neg hx0] at k ⊢
      by_cases hx1 : x = 1
      · rw [if_pos hx1] at k ⊢
        exact k
      · rw [if_neg hx1] at k ⊢
        have e9 : ((kb, q) :: bs).lookup x = bs.lookup x := by
          rw [List.lookup_cons, show (x == kb) = false by simpa using hx]
        rw [e9]
        exact k
end SU
/-- the environment at a method's entry -/
def enA : List Vl → Ev
  | [] => []
  | (t, v) :: r => if t = 1 then (1, v) :: (3, 0) :: enA r else (t, v) :: enA r
def en (n : Nat) (as : List Vl) : Ev := enA as ++ List.replicate (n - (enA as).length) (3, 0)
/-- what a body answers: it must come to a return -/
def runB (n : Nat) (b : Sx) : Fn := fun sh as μ => if (enA as).length ≤ n then (b sh (en n as) μ).bind fun r => if r.1 = 1 then some (r.2.1, r.2.2.2) else none else none
theorem enA_len {ad : Adr} {n : Nat} : ∀ {as : List Vl}, sok n as → (lg_sl (sv ad as)).length = (enA as).length
  | [], _ => rfl
  | (t, v) :: r, h => by
    obtain ⟨h1, -, -⟩ := sok_t h
    have ih := enA_len (ad := ad) (sok_d h)
    show ((if (vv ad t v).category = 2 then [Slot.val (vv ad t v), .second] else [.val (vv ad t v)]) ++ lg_sl (sv ad r)).length = (if t = 1 then _ else _ : Ev).length
    by_cases ht : t = 1
    · rw [if_pos ((vv_cat h1).mpr ht), if_pos ht]
      simp only [List.length_append, List.length_cons, List.length_nil, ih]
      omega
    · rw [if_neg (fun z => ht ((vv_cat h1).mp z)), if_neg ht]
      simp only [List.length_append, List.length_cons, List.length_nil, ih]
      omega
theorem enA_at {ad : Adr} {n : Nat} : ∀ {as : List Vl} (b : Nat), sok n as → ∀ {i t : Nat} {v : Int}, (enA as)[i]? = some (t, v) → t < 3 → (b + i, vv ad t v) ∈ lv_args b (sv ad as) ∧ (t, v) ∈ as
  | [], _, _, i, t, v, h, _ => by simp [enA] at h
  | (t0, v0) :: r, b, hs, i, t, v, h, ht => by
    obtain ⟨h1, -, -⟩ := sok_t hs
    show (b + i, vv ad t v) ∈ (b, vv ad t0 v0) :: lv_args (if (vv ad t0 v0).category = 2 then b + 2 else b + 1) (sv ad r) ∧ _
    have he : enA ((t0, v0) :: r) = if t0 = 1 then (1, v0) :: (3, 0) :: enA r else (t0, v0) :: enA r := rfl
    rw [he] at h
    by_cases h2 : t0 = 1
    · rw [if_pos h2] at h
      rw [if_pos ((vv_cat h1).mpr h2)]
      match i, h with
      | 0, h => cases h; subst h2; exact ⟨List.mem_cons_self, List.mem_cons_self⟩
      | 1, h => cases h; omega
      | i + 2, h =>
        have := enA_at (ad := ad) (b + 2) (sok_d hs) (i := i) h ht
        refine ⟨List.mem_cons_of_mem _ ?_, List.mem_cons_of_mem _ this.2⟩
        rw [show b + (i + 2) = b + 2 + i by omega]
        exact this.1
    · rw [if_neg h2] at h
      rw [if_neg (fun z => h2 ((vv_cat h1).mp z))]
      match i, h with
      | 0, h => cases h; exact ⟨List.mem_cons_self, List.mem_cons_self⟩
      | i + 1, h =>
        have := enA_at (ad := ad) (b + 1) (sok_d hs) (i := i) h ht
        refine ⟨List.mem_cons_of_mem _ ?_, List.mem_cons_of_mem _ this.2⟩
        rw [show b + (i + 1) = b + 1 + i by omega]
        exact this.1
/-- a method's contract out of its body -/
theorem MO_of {y : MethodName} {cc : ByteArray} {maxL : Nat} {ret : Option FieldType} {d : Nat} {b : Sx} {q : Nat} (hy : plainName y.cls = true) (hb : ∀ Γ, SO (cc, y.cls, d, maxL, ret) Γ 0 q [] b) : MO y cc maxL ret d (runB maxL b) := by
  intro l D ad sh μ as r μ' hf hs
  refine Met.ofW (cc := cc) (maxL := maxL) (ret := ret) hy rfl ?_
  intro p e s m args below meth c s₁ B hml hv
  obtain ⟨rfl, hP, hM, hK, hKa, hD, hal, hsk⟩ := hv
  have hts := atoms_spec (ws := .code y cc maxL ret :: tbl) B.pre
  unfold runB at hf
  split at hf
  case isFalse => cases hf
  rename_i hle
  obtain ⟨⟨x, v, e1, μ1⟩, g1, g2⟩ := b_some hf
  dsimp only at g2
  split at g2
  case isFalse => cases g2
  rename_i hx
  subst hx
  cases g2
  have hlen := enA_len (ad := ad) hs
  rw [lg_entry_eq]
  have hl := lv_entry (sv ad as) (n := maxL) (by rw [hlen]; exact hle)
  generalize (lg_sl (sv ad as) ++ List.replicate (maxL - (lg_sl (sv ad as)).length) Slot.unset).toArray = ls at hl ⊢
  have henl : (en maxL as).length = maxL := by
    unfold en
    rw [List.length_append, List.length_replicate]
    omega
  refine hb (p, l, e, s, m, (sv ad as).toArray, below, meth, c, D, ad, sh, fun r1 μ1 => r1 = r ∧ μ1 = μ', Aof ad sh, Rm d, 0, 0, MQ below (Qx D ad sh (rk ret) (fun r1 μ1 => r1 = r ∧ μ1 = μ')) (sv ad as).toArray s 0 0 (Aof ad sh)) ⟨B.exec, B.bytes, hml, findClass_of_methodNamed B.named, fun w hw => hts w (List.mem_cons_of_mem _ hw), hD, hK, hKa, B.returns, B.notSynchronized, hal, hsk, ⟨Nat.le_refl d, Nat.le_refl _, Nat.zero_le _, Nat.zero_le _⟩, fun _ => ⟨rfl, rfl⟩⟩ (en maxL as) μ 1 r e1 μ' g1 ⟨rfl, rfl⟩ s.heap [] ls hP hM va_S.rf ⟨?_, hl.2.1, ?_⟩ henl (fun _ h => by cases h)
  · rw [henl]
    exact hl.1
  · intro i t v hi ht
    unfold en at hi
    by_cases hil : i < (enA as).length
    · rw [List.getElem?_append_left hil] at hi
      obtain ⟨h1, h2⟩ := enA_at (ad := ad) 0 hs hi ht
      rw [Nat.zero_add] at h1
      obtain ⟨h3, h4, h5⟩ := hs _ h2
      exact ⟨h4, h5, hl.2.2 _ h1⟩
    · rw [List.getElem?_append_right (by omega), List.getElem?_replicate] at hi
      split at hi
      · cases hi
        omega
      · cases hi
