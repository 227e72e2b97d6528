/-! expressions: what they answer, and that the code does so -/
abbrev Ex : Type := Shp → Ev → Mem → Option (Int × Mem)
abbrev Cn : Type := Shp → Ev → Mem → Option (Bool × Mem)
def EO (M : Md) (Γ : Cx) (w pc pc' t : Nat) (e : Ex) : Prop := CK M Γ → ∀ env st μ v μ', e (cs Γ) env μ = some (v, μ') → wd st ≤ w → WP M Γ pc' env ((t, v) :: st) μ' → WP M Γ pc env st μ
def CO (M : Md) (Γ : Cx) (w pc pt pf : Nat) (e : Cn) : Prop := CK M Γ → ∀ env st μ b μ', e (cs Γ) env μ = some (b, μ') → wd st ≤ w → WP M Γ (if b then pt else pf) env st μ' → WP M Γ pc env st μ
def locE (t i : Nat) : Ex := fun _ env μ => match env[i]? with
  | some (t', v) => if t' = t then some (v, μ) else none
  | none => none
def numE (n : Int) : Ex := fun _ _ μ => some (n, μ)
def binE (op : Int → Int → Int) (a b : Ex) : Ex := fun sh env μ => (a sh env μ).bind fun x => (b sh env x.2).bind fun y => some (op x.1 y.1, y.2)
def divE (op : Int → Int → Int) (a b : Ex) : Ex := fun sh env μ => (a sh env μ).bind fun x => (b sh env x.2).bind fun y => if y.1 = 0 then none else some (op x.1 y.1, y.2)
def unE (op : Int → Int) (a : Ex) : Ex := fun sh env μ => (a sh env μ).bind fun x => some (op x.1, x.2)
def getE (ci j t : Nat) (a : Ex) : Ex := fun sh env μ => (a sh env μ).bind fun x => match sh[x.1.toNat]? with
  | some q => if q.1 = ci ∧ (t ≠ 2 ∨ 0 ≤ x.2 x.1.toNat j) then some (x.2 x.1.toNat j, x.2) else none
  | none => none
def aldE (kd : Nat) (a i : Ex) : Ex := fun sh env μ => (a sh env μ).bind fun x => (i sh env x.2).bind fun y => match sh[x.1.toNat]? with
  | some q => if q.1 = kd ∧ 0 ≤ y.1 ∧ y.1 < q.2 ∧ (kd < 110 ∨ 0 ≤ y.2 x.1.toNat y.1.toNat) then some (y.2 x.1.toNat y.1.toNat, y.2) else none
  | none => none
def lenE (a : Ex) : Ex := fun sh env μ => (a sh env μ).bind fun x => match sh[x.1.toNat]? with
  | some q => if 100 ≤ q.1 ∧ (q.2 : Int) < 2147483648 then some ((q.2 : Int), x.2) else none
  | none => none
def rl (r : Nat) (a b : Int) : Bool := match r with
  | 0 => decide (a = b)
  | 1 => decide (¬ a = b)
  | 2 => decide (a < b)
  | 3 => decide (b ≤ a)
  | 4 => decide (b < a)
  | _ => decide (a ≤ b)
def cmpC (r : Nat) (a b : Ex) : Cn := fun sh env μ => (a sh env μ).bind fun x => (b sh env x.2).bind fun y => some (rl r x.1 y.1, y.2)
def zC (r : Nat) (a : Ex) : Cn := fun sh env μ => (a sh env μ).bind fun x => some (rl r x.1 0, x.2)
def constC (b : Bool) (a : Ex) : Cn := fun sh env μ => (a sh env μ).bind fun x => some (b, x.2)
def andC (a b : Cn) : Cn := fun sh env μ => (a sh env μ).bind fun x => if x.1 then b sh env x.2 else some (false, x.2)
def orC (a b : Cn) : Cn := fun sh env μ => (a sh env μ).bind fun x => if x.1 then some (true, x.2) else b sh env x.2
def notC (a : Cn) : Cn := fun sh env μ => (a sh env μ).bind fun x => some (!x.1, x.2)
def boolE (c : Cn) : Ex := fun sh env μ => (c sh env μ).bind fun x => some (if x.1 then 1 else 0, x.2)
def condE (c : Cn) (a b : Ex) : Ex := fun sh env μ => (c sh env μ).bind fun x => if x.1 then a sh env x.2 else b sh env x.2
def condC (c : Cn) (a b : Cn) : Cn := fun sh env μ => (c sh env μ).bind fun x => if x.1 then a sh env x.2 else b sh env x.2
/-- arguments, from the left -/
def evA : List (Nat × Ex) → Shp → Ev → Mem → Option (List Vl × Mem)
  | [], _, _, μ => some ([], μ)
  | (t, e) :: r, sh, env, μ => (e sh env μ).bind fun x => (evA r sh env x.2).bind fun y => some ((t, x.1) :: y.1, y.2)
def AO (M : Md) (Γ : Cx) (w pc pc' : Nat) (as : List (Nat × Ex)) : Prop := CK M Γ → ∀ env st μ vs μ', evA as (cs Γ) env μ = some (vs, μ') → wd st ≤ w → WP M Γ pc' env (vs.reverse ++ st) μ' → WP M Γ pc env st μ
abbrev Fn : Type := Shp → List Vl → Mem → Option (Int × Mem)
/-- a call on an object of class ci: the first argument is the object -/
def cvE (ci : Nat) (f : Fn) (as : List (Nat × Ex)) : Ex := fun sh env μ => (evA as sh env μ).bind fun x => match x.1 with
  | (2, a) :: _ => (match sh[a.toNat]? with
    | some q => if q.1 = ci then f sh x.1 x.2 else none
    | none => none)
  | _ => none
def csE (f : Fn) (as : List (Nat × Ex)) : Ex := fun sh env μ => (evA as sh env μ).bind fun x => f sh x.1 x.2
theorem wd_c {t : Nat} {v : Int} {st : List Vl} : wd ((t, v) :: st) = (if t = 1 then 2 else 1) + wd st := rfl
theorem wd0 {v : Int} {st : List Vl} {w : Nat} (h : wd st ≤ w) : wd ((0, v) :: st) ≤ w + 1 := by rw [wd_c, if_neg (by decide)]; omega
theorem wd1 {v : Int} {st : List Vl} {w : Nat} (h : wd st ≤ w) : wd ((1, v) :: st) ≤ w + 2 := by rw [wd_c, if_pos rfl]; omega
theorem wd2 {v : Int} {st : List Vl} {w : Nat} (h : wd st ≤ w) : wd ((2, v) :: st) ≤ w + 1 := by rw [wd_c, if_neg (by decide)]; omega
theorem b_some {α β : Type} {o : Option α} {k : α → Option β} {r : β} (h : o.bind k = some r) : ∃ a, o = some a ∧ k a = some r := by
  cases o with
  | none => cases h
  | some a => exact ⟨a, rfl, h⟩
section EU
variable {M : Md} {Γ : Cx} {w pc p1 p2 p3 p4 : Nat}
theorem locE_some {t i : Nat} {sh : Shp} {env : Ev} {μ μ' : Mem} {v : Int} (h : locE t i sh env μ = some (v, μ')) : env[i]? = some (t, v) ∧ μ' = μ := by
  unfold locE at h
  split at h
  · rename_i t' v' he
    split at h
    · rename_i ht
      cases h
      exact ⟨by rw [he, ht], rfl⟩
    · cases h
  · cases h
theorem E_iload_n {j : Fin 4} {i : Nat} (hd : decode M.1 pc = .ok (.iload_n j, 1)) (hj : (j : Nat) = i) : EO M Γ w pc (pc + 1) 0 (locE 0 i) := by
  intro G env st μ v μ' h hw k
  obtain ⟨h1, rfl⟩ := locE_some h
  exact r_iload_n G hd hj h1 k
theorem E_iload {i : Nat} (hd : decode M.1 pc = .ok (.iload i, 2)) : EO M Γ w pc (pc + 2) 0 (locE 0 i) := by
  intro G env st μ v μ' h hw k
  obtain ⟨h1, rfl⟩ := locE_some h
  exact r_iload G hd h1 k
theorem E_lload_n {j : Fin 4} {i : Nat} (hd : decode M.1 pc = .ok (.lload_n j, 1)) (hj : (j : Nat) = i) : EO M Γ w pc (pc + 1) 1 (locE 1 i) := by
  intro G env st μ v μ' h hw k
  obtain ⟨h1, rfl⟩ := locE_some h
  exact r_lload_n G hd hj h1 k
theorem E_lload {i : Nat} (hd : decode M.1 pc = .ok (.lload i, 2)) : EO M Γ w pc (pc + 2) 1 (locE 1 i) := by
  intro G env st μ v μ' h hw k
  obtain ⟨h1, rfl⟩ := locE_some h
  exact r_lload G hd h1 k
theorem E_aload_n {j : Fin 4} {i : Nat} (hd : decode M.1 pc = .ok (.aload_n j, 1)) (hj : (j : Nat) = i) : EO M Γ w pc (pc + 1) 2 (locE 2 i) := by
  intro G env st μ v μ' h hw k
  obtain ⟨h1, rfl⟩ := locE_some h
  exact r_aload_n G hd hj h1 k
theorem E_aload {i : Nat} (hd : decode M.1 pc = .ok (.aload i, 2)) : EO M Γ w pc (pc + 2) 2 (locE 2 i) := by
  intro G env st μ v μ' h hw k
  obtain ⟨h1, rfl⟩ := locE_some h
  exact r_aload G hd h1 k
theorem E_iconst {n : Int} (hd : decode M.1 pc = .ok (.iconst n, 1)) (hr : -2147483648 ≤ n ∧ n < 2147483648) : EO M Γ w pc (pc + 1) 0 (numE n) := by
  intro G env st μ v μ' h hw k
  cases h
  exact r_iconst G hd hr k
theorem E_bipush {n : Int} (hd : decode M.1 pc = .ok (.bipush n, 2)) (hr : -128 ≤ n ∧ n < 128) : EO M Γ w pc (pc + 2) 0 (numE n) := by
  intro G env st μ v μ' h hw k
  cases h
  exact r_bipush G hd hr k
theorem E_sipush {n : Int} (hd : decode M.1 pc = .ok (.sipush n, 3)) (hr : -32768 ≤ n ∧ n < 32768) : EO M Γ w pc (pc + 3) 0 (numE n) := by
  intro G env st μ v μ' h hw k
  cases h
  exact r_sipush G hd hr k
theorem E_ldc {i : Nat} {n : Int} (hd : decode M.1 pc = .ok (.ldc i, 2)) (hw9 : Cond.constant M.2.1 i (Int32.ofInt n) ∈ tbl) (hr : -2147483648 ≤ n ∧ n < 2147483648) : EO M Γ w pc (pc + 2) 0 (numE n) := by
  intro G env st μ v μ' h hw k
  cases h
  exact r_ldc G hd hw9 hr k
theorem E_ldc2 {i : Nat} {n : Int} (hd : decode M.1 pc = .ok (.ldc2_w i, 3)) (hw9 : Cond.constantLong M.2.1 i (Int64.ofInt n) ∈ tbl) (hr : -9223372036854775808 ≤ n ∧ n < 9223372036854775808) : EO M Γ w pc (pc + 3) 1 (numE n) := by
  intro G env st μ v μ' h hw k
  cases h
  exact r_ldc2 G hd hw9 hr k
theorem E_lconst {j : Fin 2} {n : Int} (hd : decode M.1 pc = .ok (.lconst j, 1)) (hj : ((j : Nat) : Int) = n) : EO M Γ w pc (pc + 1) 1 (numE n) := by
  intro G env st μ v μ' h hw k
  cases h
  exact r_lconst G hd hj k
theorem E_iadd {a b : Ex} (ha : EO M Γ w pc p1 0 a) (hb : EO M Γ (w + 1) p1 p2 0 b) (hd : decode M.1 p2 = .ok (.iadd, 1)) : EO M Γ w pc (p2 + 1) 0 (binE (fun x y => w32 (x + y)) a b) := by
  intro G env st μ v μ' h hw k
  obtain ⟨⟨x, μ1⟩, h1, h⟩ := b_some h
  obtain ⟨⟨y, μ2⟩, h2, h3⟩ := b_some h
  cases h3
  exact ha G env st μ _ _ h1 hw (hb G env _ _ _ _ h2 (wd0 hw) (r_iadd G hd k))
theorem E_isub {a b : Ex} (ha : EO M Γ w pc p1 0 a) (hb : EO M Γ (w + 1) p1 p2 0 b) (hd : decode M.1 p2 = .ok (.isub, 1)) : EO M Γ w pc (p2 + 1) 0 (binE (fun x y => w32 (x - y)) a b) := by
  intro G env st μ v μ' h hw k
  obtain ⟨⟨x, μ1⟩, h1, h⟩ := b_some h
  obtain ⟨⟨y, μ2⟩, h2, h3⟩ := b_some h
  cases h3
  exact ha G env st μ _ _ h1 hw (hb G env _ _ _ _ h2 (wd0 hw) (r_isub G hd k))
theorem E_imul {a b : Ex} (ha : EO M Γ w pc p1 0 a) (hb : EO M Γ (w + 1) p1 p2 0 b) (hd : decode M.1 p2 = .ok (.imul, 1)) : EO M Γ w pc (p2 + 1) 0 (binE (fun x y => w32 (x * y)) a b) := by
  intro G env st μ v μ' h hw k
  obtain ⟨⟨x, μ1⟩, h1, h⟩ := b_some h
  obtain ⟨⟨y, μ2⟩, h2, h3⟩ := b_some h
  cases h3
  exact ha G env st μ _ _ h1 hw (hb G env _ _ _ _ h2 (wd0 hw) (r_imul G hd k))
theorem E_ladd {a b : Ex} (ha : EO M Γ w pc p1 1 a) (hb : EO M Γ (w + 2) p1 p2 1 b) (hd : decode M.1 p2 = .ok (.ladd, 1)) : EO M Γ w pc (p2 + 1) 1 (binE (fun x y => w64 (x + y)) a b) := by
  intro G env st μ v μ' h hw k
  obtain ⟨⟨x, μ1⟩, h1, h⟩ := b_some h
  obtain ⟨⟨y, μ2⟩, h2, h3⟩ := b_some h
  cases h3
  exact ha G env st μ _ _ h1 hw (hb G env _ _ _ _ h2 (wd1 hw) (r_ladd G hd k))
theorem E_lsub {a b : Ex} (ha : EO M Γ w pc p1 1 a) (hb : EO M Γ (w + 2) p1 p2 1 b) (hd : decode M.1 p2 = .ok (.lsub, 1)) : EO M Γ w pc (p2 + 1) 1 (binE (fun x y => w64 (x - y)) a b) := by
  intro G env st μ v μ' h hw k
  obtain ⟨⟨x, μ1⟩, h1, h⟩ := b_some h
  obtain ⟨⟨y, μ2⟩, h2, h3⟩ := b_some h
  cases h3
  exact ha G env st μ _ _ h1 hw (hb G env _ _ _ _ h2 (wd1 hw) (r_lsub G hd k))
theorem E_lmul {a b : Ex} (ha : EO M Γ w pc p1 1 a) (hb : EO M Γ (w + 2) p1 p2 1 b) (hd : decode M.1 p2 = .ok (.lmul, 1)) : EO M Γ w pc (p2 + 1) 1 (binE (fun x y => w64 (x * y)) a b) := by
  intro G env st μ v μ' h hw k
  obtain ⟨⟨x, μ1⟩, h1, h⟩ := b_some h
  obtain ⟨⟨y, μ2⟩, h2, h3⟩ := b_some h
  cases h3
  exact ha G env st μ _ _ h1 hw (hb G env _ _ _ _ h2 (wd1 hw) (r_lmul G hd k))
theorem E_iand {a b : Ex} (ha : EO M Γ w pc p1 0 a) (hb : EO M Γ (w + 1) p1 p2 0 b) (hd : decode M.1 p2 = .ok (.iand, 1)) : EO M Γ w pc (p2 + 1) 0 (binE (o_iand) a b) := by
  intro G env st μ v μ' h hw k
  obtain ⟨⟨x, μ1⟩, h1, h⟩ := b_some h
  obtain ⟨⟨y, μ2⟩, h2, h3⟩ := b_some h
  cases h3
  exact ha G env st μ _ _ h1 hw (hb G env _ _ _ _ h2 (wd0 hw) (r_iand G hd k))
theorem E_ior {a b : Ex} (ha : EO M Γ w pc p1 0 a) (hb : EO M Γ (w + 1) p1 p2 0 b) (hd : decode M.1 p2 = .ok (.ior, 1)) : EO M Γ w pc (p2 + 1) 0 (binE (o_ior) a b) := by
  intro G env st μ v μ' h hw k
  obtain ⟨⟨x, μ1⟩, h1, h⟩ := b_some h
  obtain ⟨⟨y, μ2⟩, h2, h3⟩ := b_some h
  cases h3
  exact ha G env st μ _ _ h1 hw (hb G env _ _ _ _ h2 (wd0 hw) (r_ior G hd k))
theorem E_ixor {a b : Ex} (ha : EO M Γ w pc p1 0 a) (hb : EO M Γ (w + 1) p1 p2 0 b) (hd : decode M.1 p2 = .ok (.ixor, 1)) : EO M Γ w pc (p2 + 1) 0 (binE (o_ixor) a b) := by
  intro G env st μ v μ' h hw k
  obtain ⟨⟨x, μ1⟩, h1, h⟩ := b_some h
  obtain ⟨⟨y, μ2⟩, h2, h3⟩ := b_some h
  cases h3
  exact ha G env st μ _ _ h1 hw (hb G env _ _ _ _ h2 (wd0 hw) (r_ixor G hd k))
theorem E_ishl {a b : Ex} (ha : EO M Γ w pc p1 0 a) (hb : EO M Γ (w + 1) p1 p2 0 b) (hd : decode M.1 p2 = .ok (.ishl, 1)) : EO M Γ w pc (p2 + 1) 0 (binE (o_ishl) a b) := by
  intro G env st μ v μ' h hw k
  obtain ⟨⟨x, μ1⟩, h1, h⟩ := b_some h
  obtain ⟨⟨y, μ2⟩, h2, h3⟩ := b_some h
  cases h3
  exact ha G env st μ _ _ h1 hw (hb G env _ _ _ _ h2 (wd0 hw) (r_ishl G hd k))
theorem E_ishr {a b : Ex} (ha : EO M Γ w pc p1 0 a) (hb : EO M Γ (w + 1) p1 p2 0 b) (hd : decode M.1 p2 = .ok (.ishr, 1)) : EO M Γ w pc (p2 + 1) 0 (binE (o_ishr) a b) := by
  intro G env st μ v μ' h hw k
  obtain ⟨⟨x, μ1⟩, h1, h⟩ := b_some h
  obtain ⟨⟨y, μ2⟩, h2, h3⟩ := b_some h
  cases h3
  exact ha G env st μ _ _ h1 hw (hb G env _ _ _ _ h2 (wd0 hw) (r_ishr G hd k))
theorem E_land {a b : Ex} (ha : EO M Γ w pc p1 1 a) (hb : EO M Γ (w + 2) p1 p2 1 b) (hd : decode M.1 p2 = .ok (.land, 1)) : EO M Γ w pc (p2 + 1) 1 (binE (o_land) a b) := by
  intro G env st μ v μ' h hw k
  obtain ⟨⟨x, μ1⟩, h1, h⟩ := b_some h
  obtain ⟨⟨y, μ2⟩, h2, h3⟩ := b_some h
  cases h3
  exact ha G env st μ _ _ h1 hw (hb G env _ _ _ _ h2 (wd1 hw) (r_land G hd k))
theorem E_lor {a b : Ex} (ha : EO M Γ w pc p1 1 a) (hb : EO M Γ (w + 2) p1 p2 1 b) (hd : decode M.1 p2 = .ok (.lor, 1)) : EO M Γ w pc (p2 + 1) 1 (binE (o_lor) a b) := by
  intro G env st μ v μ' h hw k
  obtain ⟨⟨x, μ1⟩, h1, h⟩ := b_some h
  obtain ⟨⟨y, μ2⟩, h2, h3⟩ := b_some h
  cases h3
  exact ha G env st μ _ _ h1 hw (hb G env _ _ _ _ h2 (wd1 hw) (r_lor G hd k))
theorem E_lshl {a b : Ex} (ha : EO M Γ w pc p1 1 a) (hb : EO M Γ (w + 2) p1 p2 0 b) (hd : decode M.1 p2 = .ok (.lshl, 1)) : EO M Γ w pc (p2 + 1) 1 (binE (o_lshl) a b) := by
  intro G env st μ v μ' h hw k
  obtain ⟨⟨x, μ1⟩, h1, h⟩ := b_some h
  obtain ⟨⟨y, μ2⟩, h2, h3⟩ := b_some h
  cases h3
  exact ha G env st μ _ _ h1 hw (hb G env _ _ _ _ h2 (wd1 hw) (r_lshl G hd k))
theorem E_lshr {a b : Ex} (ha : EO M Γ w pc p1 1 a) (hb : EO M Γ (w + 2) p1 p2 0 b) (hd : decode M.1 p2 = .ok (.lshr, 1)) : EO M Γ w pc (p2 + 1) 1 (binE (o_lshr) a b) := by
  intro G env st μ v μ' h hw k
  obtain ⟨⟨x, μ1⟩, h1, h⟩ := b_some h
  obtain ⟨⟨y, μ2⟩, h2, h3⟩ := b_some h
  cases h3
  exact ha G env st μ _ _ h1 hw (hb G env _ _ _ _ h2 (wd1 hw) (r_lshr G hd k))
theorem E_lushr {a b : Ex} (ha : EO M Γ w pc p1 1 a) (hb : EO M Γ (w + 2) p1 p2 0 b) (hd : decode M.1 p2 = .ok (.lushr, 1)) : EO M Γ w pc (p2 + 1) 1 (binE (o_lushr) a b) := by
  intro G env st μ v μ' h hw k
  obtain ⟨⟨x, μ1⟩, h1, h⟩ := b_some h
  obtain ⟨⟨y, μ2⟩, h2, h3⟩ := b_some h
  cases h3
  exact ha G env st μ _ _ h1 hw (hb G env _ _ _ _ h2 (wd1 hw) (r_lushr G hd k))
theorem E_idiv {a b : Ex} (ha : EO M Γ w pc p1 0 a) (hb : EO M Γ (w + 1) p1 p2 0 b) (hd : decode M.1 p2 = .ok (.idiv, 1)) : EO M Γ w pc (p2 + 1) 0 (divE (fun x y => w32 (Int.tdiv x y)) a b) := by
  intro G env st μ v μ' h hw k
  obtain ⟨⟨x, μ1⟩, h1, h⟩ := b_some h
  obtain ⟨⟨y, μ2⟩, h2, h3⟩ := b_some h
  split at h3
  · cases h3
  rename_i hne
  cases h3
  exact ha G env st μ _ _ h1 hw (hb G env _ _ _ _ h2 (wd0 hw) (r_idiv G hd hne k))
theorem E_irem {a b : Ex} (ha : EO M Γ w pc p1 0 a) (hb : EO M Γ (w + 1) p1 p2 0 b) (hd : decode M.1 p2 = .ok (.irem, 1)) : EO M Γ w pc (p2 + 1) 0 (divE (fun x y => w32 (Int.tmod x y)) a b) := by
  intro G env st μ v μ' h hw k
  obtain ⟨⟨x, μ1⟩, h1, h⟩ := b_some h
  obtain ⟨⟨y, μ2⟩, h2, h3⟩ := b_some h
  split at h3
  · cases h3
  rename_i hne
  cases h3
  exact ha G env st μ _ _ h1 hw (hb G env _ _ _ _ h2 (wd0 hw) (r_irem G hd hne k))
theorem E_ldiv {a b : Ex} (ha : EO M Γ w pc p1 1 a) (hb : EO M Γ (w + 2) p1 p2 1 b) (hd : decode M.1 p2 = .ok (.ldiv, 1)) : EO M Γ w pc (p2 + 1) 1 (divE (fun x y => w64 (Int.tdiv x y)) a b) := by
  intro G env st μ v μ' h hw k
  obtain ⟨⟨x, μ1⟩, h1, h⟩ := b_some h
  obtain ⟨⟨y, μ2⟩, h2, h3⟩ := b_some h
  split at h3
  · cases h3
  rename_i hne
  cases h3
  exact ha G env st μ _ _ h1 hw (hb G env _ _ _ _ h2 (wd1 hw) (r_ldiv G hd hne k))
theorem E_lrem {a b : Ex} (ha : EO M Γ w pc p1 1 a) (hb : EO M Γ (w + 2) p1 p2 1 b) (hd : decode M.1 p2 = .ok (.lrem, 1)) : EO M Γ w pc (p2 + 1) 1 (divE (fun x y => w64 (Int.tmod x y)) a b) := by
  intro G env st μ v μ' h hw k
  obtain ⟨⟨x, μ1⟩, h1, h⟩ := b_some h
  obtain ⟨⟨y, μ2⟩, h2, h3⟩ := b_some h
  split at h3
  · cases h3
  rename_i hne
  cases h3
  exact ha G env st μ _ _ h1 hw (hb G env _ _ _ _ h2 (wd1 hw) (r_lrem G hd hne k))
theorem E_i2l {a : Ex} (ha : EO M Γ w pc p1 0 a) (hd : decode M.1 p1 = .ok (.i2l, 1)) : EO M Γ w pc (p1 + 1) 1 (unE (fun x => x) a) := by
  intro G env st μ v μ' h hw k
  obtain ⟨⟨x, μ1⟩, h1, h3⟩ := b_some h
  cases h3
  exact ha G env st μ _ _ h1 hw (r_i2l G hd k)
theorem E_l2i {a : Ex} (ha : EO M Γ w pc p1 1 a) (hd : decode M.1 p1 = .ok (.l2i, 1)) : EO M Γ w pc (p1 + 1) 0 (unE (w32) a) := by
  intro G env st μ v μ' h hw k
  obtain ⟨⟨x, μ1⟩, h1, h3⟩ := b_some h
  cases h3
  exact ha G env st μ _ _ h1 hw (r_l2i G hd k)
theorem E_i2c {a : Ex} (ha : EO M Γ w pc p1 0 a) (hd : decode M.1 p1 = .ok (.i2c, 1)) : EO M Γ w pc (p1 + 1) 0 (unE (o_i2c) a) := by
  intro G env st μ v μ' h hw k
  obtain ⟨⟨x, μ1⟩, h1, h3⟩ := b_some h
  cases h3
  exact ha G env st μ _ _ h1 hw (r_i2c G hd k)
theorem E_i2b {a : Ex} (ha : EO M Γ w pc p1 0 a) (hd : decode M.1 p1 = .ok (.i2b, 1)) : EO M Γ w pc (p1 + 1) 0 (unE (o_i2b) a) := by
  intro G env st μ v μ' h hw k
  obtain ⟨⟨x, μ1⟩, h1, h3⟩ := b_some h
  cases h3
  exact ha G env st μ _ _ h1 hw (r_i2b G hd k)
theorem E_getf {idx ci j t : Nat} {a : Ex} (hf : FL M.2.1 idx ci j t) (ha : EO M Γ w pc p1 2 a) (hd : decode M.1 p1 = .ok (.getfield idx, 3)) : EO M Γ w pc (p1 + 3) t (getE ci j t a) := by
  intro G env st μ v μ' h hw k
  obtain ⟨⟨x, μ1⟩, h1, h3⟩ := b_some h
  dsimp only at h3
  split at h3
  · rename_i q hq
    split at h3
    · rename_i hc
      cases h3
      obtain ⟨ci', nn⟩ := q
      obtain ⟨rfl, h4⟩ := hc
      exact ha G env st μ _ _ h1 hw (r_getf G hf hd hq (fun z => h4.resolve_left (fun y => y z)) k)
    · cases h3
  · cases h3
theorem E_alen {a : Ex} (ha : EO M Γ w pc p1 2 a) (hd : decode M.1 p1 = .ok (.arraylength, 1)) : EO M Γ w pc (p1 + 1) 0 (lenE a) := by
  intro G env st μ v μ' h hw k
  obtain ⟨⟨x, μ1⟩, h1, h3⟩ := b_some h
  dsimp only at h3
  split at h3
  · rename_i q hq
    split at h3
    · rename_i hc
      cases h3
      obtain ⟨kd, nn⟩ := q
      exact ha G env st μ _ _ h1 hw (r_alen G hd hq hc.1 hc.2 k)
    · cases h3
  · cases h3
theorem E_iald {a i : Ex} (ha : EO M Γ w pc p1 2 a) (hi : EO M Γ (w + 1) p1 p2 0 i) (hd : decode M.1 p2 = .ok (.iaload, 1)) : EO M Γ w pc (p2 + 1) 0 (aldE 100 a i) := by
  intro G env st μ v μ' h hw k
  obtain ⟨⟨x, μ1⟩, h1, h⟩ := b_some h
  obtain ⟨⟨y, μ2⟩, h2, h3⟩ := b_some h
  dsimp only at h3
  split at h3
  · rename_i q hq
    split at h3
    · rename_i hc
      cases h3
      obtain ⟨kd', nn⟩ := q
      obtain ⟨rfl, g1, g2, -⟩ := hc
      exact ha G env st μ _ _ h1 hw (hi G env _ _ _ _ h2 (wd2 hw) (r_iald G hd hq g1 g2 k))
    · cases h3
  · cases h3
theorem E_cald {a i : Ex} (ha : EO M Γ w pc p1 2 a) (hi : EO M Γ (w + 1) p1 p2 0 i) (hd : decode M.1 p2 = .ok (.caload, 1)) : EO M Γ w pc (p2 + 1) 0 (aldE 102 a i) := by
  intro G env st μ v μ' h hw k
  obtain ⟨⟨x, μ1⟩, h1, h⟩ := b_some h
  obtain ⟨⟨y, μ2⟩, h2, h3⟩ := b_some h
  dsimp only at h3
  split at h3
  · rename_i q hq
    split at h3
    · rename_i hc
      cases h3
      obtain ⟨kd', nn⟩ := q
      obtain ⟨rfl, g1, g2, -⟩ := hc
      exact ha G env st μ _ _ h1 hw (hi G env _ _ _ _ h2 (wd2 hw) (r_cald G hd hq g1 g2 k))
    · cases h3
  · cases h3
theorem E_bald {a i : Ex} (ha : EO M Γ w pc p1 2 a) (hi : EO M Γ (w + 1) p1 p2 0 i) (hd : decode M.1 p2 = .ok (.baload, 1)) : EO M Γ w pc (p2 + 1) 0 (aldE 103 a i) := by
  intro G env st μ v μ' h hw k
  obtain ⟨⟨x, μ1⟩, h1, h⟩ := b_some h
  obtain ⟨⟨y, μ2⟩, h2, h3⟩ := b_some h
  dsimp only at h3
  split at h3
  · rename_i q hq
    split at h3
    · rename_i hc
      cases h3
      obtain ⟨kd', nn⟩ := q
      obtain ⟨rfl, g1, g2, -⟩ := hc
      exact ha G env st μ _ _ h1 hw (hi G env _ _ _ _ h2 (wd2 hw) (r_bald G hd hq g1 g2 k))
    · cases h3
  · cases h3
theorem E_zald {a i : Ex} (ha : EO M Γ w pc p1 2 a) (hi : EO M Γ (w + 1) p1 p2 0 i) (hd : decode M.1 p2 = .ok (.baload, 1)) : EO M Γ w pc (p2 + 1) 0 (aldE 104 a i) := by
  intro G env st μ v μ' h hw k
  obtain ⟨⟨x, μ1⟩, h1, h⟩ := b_some h
  obtain ⟨⟨y, μ2⟩, h2, h3⟩ := b_some h
  dsimp only at h3
  split at h3
  · rename_i q hq
    split at h3
    · rename_i hc
      cases h3
      obtain ⟨kd', nn⟩ := q
      obtain ⟨rfl, g1, g2, -⟩ := hc
      exact ha G env st μ _ _ h1 hw (hi G env _ _ _ _ h2 (wd2 hw) (r_zald G hd hq g1 g2 k))
    · cases h3
  · cases h3
theorem E_lald {a i : Ex} (ha : EO M Γ w pc p1 2 a) (hi : EO M Γ (w + 1) p1 p2 0 i) (hd : decode M.1 p2 = .ok (.laload, 1)) : EO M Γ w pc (p2 + 1) 1 (aldE 101 a i) := by
  intro G env st μ v μ' h hw k
  obtain ⟨⟨x, μ1⟩, h1, h⟩ := b_some h
  obtain ⟨⟨y, μ2⟩, h2, h3⟩ := b_some h
  dsimp only at h3
  split at h3
  · rename_i q hq
    split at h3
    · rename_i hc
      cases h3
      obtain ⟨kd', nn⟩ := q
      obtain ⟨rfl, g1, g2, -⟩ := hc
      exact ha G env st μ _ _ h1 hw (hi G env _ _ _ _ h2 (wd2 hw) (r_lald G hd hq g1 g2 k))
    · cases h3
  · cases h3
theorem E_aald {ci : Nat} {a i : Ex} (ha : EO M Γ w pc p1 2 a) (hi : EO M Γ (w + 1) p1 p2 0 i) (hd : decode M.1 p2 = .ok (.aaload, 1)) : EO M Γ w pc (p2 + 1) 2 (aldE (110 + ci) a i) := by
  intro G env st μ v μ' h hw k
  obtain ⟨⟨x, μ1⟩, h1, h⟩ := b_some h
  obtain ⟨⟨y, μ2⟩, h2, h3⟩ := b_some h
  dsimp only at h3
  split at h3
  · rename_i q hq
    split at h3
    · rename_i hc
      cases h3
      obtain ⟨kd', nn⟩ := q
      obtain ⟨g0, g1, g2, g3⟩ := hc
      simp only at g0
      subst g0
      exact ha G env st μ _ _ h1 hw (hi G env _ _ _ _ h2 (wd2 hw) (r_aald G hd hq g1 g2 (g3.resolve_left (by omega)) k))
    · cases h3
  · cases h3
theorem E_thru {t tgt : Nat} {off : Int} {e : Ex} (he : EO M Γ w pc p1 t e) (hd : decode M.1 p1 = .ok (.goto off, 3)) (ht : (p1 : Int) + off = (tgt : Int)) : EO M Γ w pc tgt t e :=
  fun G env st μ v μ' h hw k => he G env st μ v μ' h hw (r_goto G hd ht k)
theorem E_bool {c : Cn} {off : Int} (hc : CO M Γ w pc p1 p2 c) (h1 : decode M.1 p1 = .ok (.iconst 1, 1)) (h2 : decode M.1 (p1 + 1) = .ok (.goto off, 3)) (h3 : decode M.1 p2 = .ok (.iconst 0, 1)) (ht : ((p1 + 1 : Nat) : Int) + off = ((p2 + 1 : Nat) : Int)) : EO M Γ w pc (p2 + 1) 0 (boolE c) := by
  intro G env st μ v μ' h hw k
  obtain ⟨⟨b, μ1⟩, g1, g3⟩ := b_some h
  cases g3
  refine hc G env st μ _ _ g1 hw ?_
  cases b with
  | true => exact r_iconst G h1 ⟨by omega, by omega⟩ (r_goto G h2 ht k)
  | false => exact r_iconst G h3 ⟨by omega, by omega⟩ k
theorem E_cond {c : Cn} {a b : Ex} {t : Nat} (hc : CO M Γ w pc p1 p2 c) (ha : EO M Γ w p1 p3 t a) (hb : EO M Γ w p2 p3 t b) : EO M Γ w pc p3 t (condE c a b) := by
  intro G env st μ v μ' h hw k
  obtain ⟨⟨x, μ1⟩, g1, g3⟩ := b_some h
  refine hc G env st μ _ _ g1 hw ?_
  cases x with
  | true => exact ha G env st μ1 _ _ g3 hw k
  | false => exact hb G env st μ1 _ _ g3 hw k
theorem C_cond {c a b : Cn} (hc : CO M Γ w pc p1 p2 c) (ha : CO M Γ w p1 p3 p4 a) (hb : CO M Γ w p2 p3 p4 b) : CO M Γ w pc p3 p4 (condC c a b) := by
  intro G env st μ v μ' h hw k
  obtain ⟨⟨x, μ1⟩, g1, g3⟩ := b_some h
  refine hc G env st μ _ _ g1 hw ?_
  cases x with
  | true => exact ha G env st μ1 _ _ g3 hw k
  | false => exact hb G env st μ1 _ _ g3 hw k
theorem C_and {a b : Cn} {pt pf : Nat} (ha : CO M Γ w pc p1 pf a) (hb : CO M Γ w p1 pt pf b) : CO M Γ w pc pt pf (andC a b) := by
  intro G env st μ v μ' h hw k
  obtain ⟨⟨x, μ1⟩, g1, g3⟩ := b_some h
  refine ha G env st μ _ _ g1 hw ?_
  cases x with
  | true => exact hb G env st μ1 _ _ g3 hw k
  | false => cases g3; exact k
theorem C_or {a b : Cn} {pt pf : Nat} (ha : CO M Γ w pc pt p1 a) (hb : CO M Γ w p1 pt pf b) : CO M Γ w pc pt pf (orC a b) := by
  intro G env st μ v μ' h hw k
  obtain ⟨⟨x, μ1⟩, g1, g3⟩ := b_some h
  refine ha G env st μ _ _ g1 hw ?_
  cases x with
  | true => cases g3; exact k
  | false => exact hb G env st μ1 _ _ g3 hw k
theorem C_not {a : Cn} {pt pf : Nat} (ha : CO M Γ w pc pf pt a) : CO M Γ w pc pt pf (notC a) := by
  intro G env st μ v μ' h hw k
  obtain ⟨⟨x, μ1⟩, g1, g3⟩ := b_some h
  cases g3
  refine ha G env st μ _ _ g1 hw ?_
  cases x <;> exact k
theorem C_ifnonnull {a : Ex} {off : Int} {tgt pf : Nat} (ha : EO M Γ w pc p1 2 a) (hd : decode M.1 p1 = .ok (.ifnonnull off, 3)) (ht : (p1 : Int) + off = (tgt : Int)) : CO M Γ w pc tgt pf (constC true a) := by
  intro G env st μ v μ' h hw k
  obtain ⟨⟨x, μ1⟩, g1, g3⟩ := b_some h
  cases g3
  exact ha G env st μ _ _ g1 hw (r_ifnonnull G hd ht k)
theorem C_ifnonnull_n {a : Ex} {off : Int} {tgt pt : Nat} (ha : EO M Γ w pc p1 2 a) (hd : decode M.1 p1 = .ok (.ifnonnull off, 3)) (ht : (p1 : Int) + off = (tgt : Int)) : CO M Γ w pc pt tgt (constC false a) := by
  intro G env st μ v μ' h hw k
  obtain ⟨⟨x, μ1⟩, g1, g3⟩ := b_some h
  cases g3
  exact ha G env st μ _ _ g1 hw (r_ifnonnull G hd ht k)
theorem C_ifnull {a : Ex} {off : Int} {pt : Nat} (ha : EO M Γ w pc p1 2 a) (hd : decode M.1 p1 = .ok (.ifnull off, 3)) : CO M Γ w pc pt (p1 + 3) (constC false a) := by
  intro G env st μ v μ' h hw k
  obtain ⟨⟨x, μ1⟩, g1, g3⟩ := b_some h
  cases g3
  exact ha G env st μ _ _ g1 hw (r_ifnull G hd k)
theorem C_ifnull_n {a : Ex} {off : Int} {pf : Nat} (ha : EO M Γ w pc p1 2 a) (hd : decode M.1 p1 = .ok (.ifnull off, 3)) : CO M Γ w pc (p1 + 3) pf (constC true a) := by
  intro G env st μ v μ' h hw k
  obtain ⟨⟨x, μ1⟩, g1, g3⟩ := b_some h
  cases g3
  exact ha G env st μ _ _ g1 hw (r_ifnull G hd k)
theorem C_acmp_ne {a b : Ex} {off : Int} {tgt : Nat} (ha : EO M Γ w pc p1 2 a) (hb : EO M Γ (w + 1) p1 p2 2 b) (hd : decode M.1 p2 = .ok (.if_acmp .ne off, 3)) (ht : (p2 : Int) + off = (tgt : Int)) : CO M Γ w pc (p2 + 3) tgt (cmpC 0 a b) := by
  intro G env st μ v μ' h hw k
  obtain ⟨⟨x, μ1⟩, g1, h⟩ := b_some h
  obtain ⟨⟨y, μ2⟩, g2, g3⟩ := b_some h
  cases g3
  refine ha G env st μ _ _ g1 hw (hb G env _ _ _ _ g2 (wd2 hw) (r_acmp_ne G hd ht (fun z => ?_) (fun z => ?_)))
  · rw [show rl 0 x y = false from decide_eq_false z] at k
    exact k
  · rw [show rl 0 x y = true from decide_eq_true z] at k
    exact k
theorem A_nil : AO M Γ w pc pc [] := by
  intro G env st μ v μ' h hw k
  cases h
  exact k
theorem A_cons0 {e : Ex} {r : List (Nat × Ex)} (he : EO M Γ w pc p1 0 e) (hr : AO M Γ (w + 1) p1 p2 r) : AO M Γ w pc p2 ((0, e) :: r) := by
  intro G env st μ vs μ' h hw k
  obtain ⟨⟨x, μ1⟩, g1, h⟩ := b_some h
  obtain ⟨⟨y, μ2⟩, g2, g3⟩ := b_some h
  cases g3
  refine he G env st μ _ _ g1 hw (hr G env _ _ _ _ g2 (wd0 hw) ?_)
  rw [List.reverse_cons, List.append_assoc] at k
  exact k
theorem A_cons1 {e : Ex} {r : List (Nat × Ex)} (he : EO M Γ w pc p1 1 e) (hr : AO M Γ (w + 2) p1 p2 r) : AO M Γ w pc p2 ((1, e) :: r) := by
  intro G env st μ vs μ' h hw k
  obtain ⟨⟨x, μ1⟩, g1, h⟩ := b_some h
  obtain ⟨⟨y, μ2⟩, g2, g3⟩ := b_some h
  cases g3
  refine he G env st μ _ _ g1 hw (hr G env _ _ _ _ g2 (wd1 hw) ?_)
  rw [List.reverse_cons, List.append_assoc] at k
  exact k
theorem A_cons2 {e : Ex} {r : List (Nat × Ex)} (he : EO M Γ w pc p1 2 e) (hr : AO M Γ (w + 1) p1 p2 r) : AO M Γ w pc p2 ((2, e) :: r) := by
  intro G env st μ vs μ' h hw k
  obtain ⟨⟨x, μ1⟩, g1, h⟩ := b_some h
  obtain ⟨⟨y, μ2⟩, g2, g3⟩ := b_some h
  cases g3
  refine he G env st μ _ _ g1 hw (hr G env _ _ _ _ g2 (wd2 hw) ?_)
  rw [List.reverse_cons, List.append_assoc] at k
  exact k
theorem evA_len : ∀ {as : List (Nat × Ex)} {sh : Shp} {env : Ev} {μ μ' : Mem} {vs : List Vl}, evA as sh env μ = some (vs, μ') → vs.length = as.length
  | [], _, _, _, _, _, h => by cases h; rfl
  | (t, e) :: r, sh, env, μ, μ', vs, h => by
    obtain ⟨⟨x, μ1⟩, g1, h⟩ := b_some h
    obtain ⟨⟨y, μ2⟩, g2, g3⟩ := b_some h
    cases g3
    have := evA_len g2
    simp only [List.length_cons]
    rw [this]
theorem cvE_some {ci : Nat} {f : Fn} {as : List (Nat × Ex)} {sh : Shp} {env : Ev} {μ μ' : Mem} {v : Int} (h : cvE ci f as sh env μ = some (v, μ')) : ∃ a vs μ1 nn, evA as sh env μ = some ((2, a) :: vs, μ1) ∧ sh[a.toNat]? = some (ci, nn) ∧ f sh ((2, a) :: vs) μ1 = some (v, μ') := by
  obtain ⟨⟨vs, μ1⟩, g1, g9⟩ := b_some h
  dsimp only at g9
  split at g9
  · rename_i a r
    split at g9
    · rename_i q hq
      split at g9
      · rename_i hc
        obtain ⟨c', nn⟩ := q
        simp only at hc
        subst hc
        exact ⟨a, r, μ1, nn, g1, hq, g9⟩
      · cases g9
    · cases g9
  · cases g9
theorem E_callV {y : MethodName} {bytes : ByteArray} {maxL : Nat} {ret : Option FieldType} {d idx ci n : Nat} {f : Fn} {as : List (Nat × Ex)} (hM : MO y bytes maxL ret d f) (hw9 : CV M.2.1 idx ci y bytes maxL ret n) (ha : AO M Γ w pc p1 as) (hd : decode M.1 p1 = .ok (.invokevirtual idx, 3)) (hdep : d + 1 ≤ M.2.2.1) (hk : rk ret ≠ 2 ∧ rk ret ≠ 3) (hl : as.length = n + 1) (hw8 : w ≤ 8) : EO M Γ w pc (p1 + 3) (rk ret) (cvE ci f as) := by
  intro G env st μ v μ' h hw k
  obtain ⟨a, vs, μ1, nn, g1, g2, g3⟩ := cvE_some h
  have hln := evA_len g1
  simp only [List.length_cons] at hln
  refine ha G env st μ _ _ g1 hw ?_
  rw [List.reverse_cons, List.append_assoc]
  show WP M Γ p1 env (vs.reverse ++ (2, a) :: st) μ1
  refine r_callV G hM hw9 hd hdep hk.1 (by omega) g2 g3 (by omega) ?_
  unfold pu
  rw [if_neg hk.2]
  exact k
theorem E_callS {y : MethodName} {bytes : ByteArray} {maxL : Nat} {ret : Option FieldType} {d idx n : Nat} {f : Fn} {as : List (Nat × Ex)} (hM : MO y bytes maxL ret d f) (hw9 : CS M.2.1 idx y bytes maxL ret n) (ha : AO M Γ w pc p1 as) (hd : decode M.1 p1 = .ok (.invokestatic idx, 3)) (hdep : d + 1 ≤ M.2.2.1) (hk : rk ret ≠ 2 ∧ rk ret ≠ 3) (hl : as.length = n) (hw8 : w ≤ 8) : EO M Γ w pc (p1 + 3) (rk ret) (csE f as) := by
  intro G env st μ v μ' h hw k
  obtain ⟨⟨vs, μ1⟩, g1, g3⟩ := b_some h
  have hln := evA_len g1
  refine ha G env st μ _ _ g1 hw ?_
  refine r_callS G hM hw9 hd hdep hk.1 (by omega) g3 (by omega) ?_
  unfold pu
  rw [if_neg hk.2]
  exact k
theorem C_icmp_eq {off : Int} {tgt : Nat} {a b : Ex} (ha : EO M Γ w pc p1 0 a) (hb : EO M Γ (w + 1) p1 p2 0 b) (hd : decode M.1 p2 = .ok (.if_icmp .eq off, 3)) (ht : (p2 : Int) + off = (tgt : Int)) : CO M Γ w pc tgt (p2 + 3) (cmpC 0 a b) := by
  intro G env st μ v μ' h hw k
  obtain ⟨⟨x, μ1⟩, g1, h⟩ := b_some h
  obtain ⟨⟨y, μ2⟩, g2, g3⟩ := b_some h
  cases g3
  refine ha G env st μ _ _ g1 hw (hb G env _ _ _ _ g2 (wd0 hw) (r_icmp_eq G hd ht (fun z => ?_) (fun z => ?_)))
  · rw [show rl 0 x y = true from decide_eq_true z] at k
    exact k
  · rw [show rl 0 x y = false from decide_eq_false z] at k
    exact k
theorem C_icmp_eq_n {off : Int} {tgt : Nat} {a b : Ex} (ha : EO M Γ w pc p1 0 a) (hb : EO M Γ (w + 1) p1 p2 0 b) (hd : decode M.1 p2 = .ok (.if_icmp .eq off, 3)) (ht : (p2 : Int) + off = (tgt : Int)) : CO M Γ w pc (p2 + 3) tgt (cmpC 1 a b) := by
  intro G env st μ v μ' h hw k
  obtain ⟨⟨x, μ1⟩, g1, h⟩ := b_some h
  obtain ⟨⟨y, μ2⟩, g2, g3⟩ := b_some h
  cases g3
  refine ha G env st μ _ _ g1 hw (hb G env _ _ _ _ g2 (wd0 hw) (r_icmp_eq G hd ht (fun z => ?_) (fun z => ?_)))
  · rw [show rl 1 x y = false from decide_eq_false (by omega)] at k
    exact k
  · rw [show rl 1 x y = true from decide_eq_true (by omega)] at k
    exact k
theorem C_if_eq {off : Int} {tgt : Nat} {a : Ex} (ha : EO M Γ w pc p1 0 a) (hd : decode M.1 p1 = .ok (.ifCond .eq off, 3)) (ht : (p1 : Int) + off = (tgt : Int)) : CO M Γ w pc tgt (p1 + 3) (zC 0 a) := by
  intro G env st μ v μ' h hw k
  obtain ⟨⟨x, μ1⟩, g1, g3⟩ := b_some h
  cases g3
  refine ha G env st μ _ _ g1 hw (r_if_eq G hd ht (fun z => ?_) (fun z => ?_))
  · rw [show rl 0 x 0 = true from decide_eq_true z] at k
    exact k
  · rw [show rl 0 x 0 = false from decide_eq_false z] at k
    exact k
theorem C_if_eq_n {off : Int} {tgt : Nat} {a : Ex} (ha : EO M Γ w pc p1 0 a) (hd : decode M.1 p1 = .ok (.ifCond .eq off, 3)) (ht : (p1 : Int) + off = (tgt : Int)) : CO M Γ w pc (p1 + 3) tgt (zC 1 a) := by
  intro G env st μ v μ' h hw k
  obtain ⟨⟨x, μ1⟩, g1, g3⟩ := b_some h
  cases g3
  refine ha G env st μ _ _ g1 hw (r_if_eq G hd ht (fun z => ?_) (fun z => ?_))
  · rw [show rl 1 x 0 = false from decide_eq_false (by omega)] at k
    exact k
  · rw [show rl 1 x 0 = true from decide_eq_true (by omega)] at k
    exact k
theorem C_icmp_ne {off : Int} {tgt : Nat} {a b : Ex} (ha : EO M Γ w pc p1 0 a) (hb : EO M Γ (w + 1) p1 p2 0 b) (hd : decode M.1 p2 = .ok (.if_icmp .ne off, 3)) (ht : (p2 : Int) + off = (tgt : Int)) : CO M Γ w pc tgt (p2 + 3) (cmpC 1 a b) := by
  intro G env st μ v μ' h hw k
  obtain ⟨⟨x, μ1⟩, g1, h⟩ := b_some h
  obtain ⟨⟨y, μ2⟩, g2, g3⟩ := b_some h
  cases g3
  refine ha G env st μ _ _ g1 hw (hb G env _ _ _ _ g2 (wd0 hw) (r_icmp_ne G hd ht (fun z => ?_) (fun z => ?_)))
  · rw [show rl 1 x y = true from decide_eq_true z] at k
    exact k
  · rw [show rl 1 x y = false from decide_eq_false z] at k
    exact k
theorem C_icmp_ne_n {off : Int} {tgt : Nat} {a b : Ex} (ha : EO M Γ w pc p1 0 a) (hb : EO M Γ (w + 1) p1 p2 0 b) (hd : decode M.1 p2 = .ok (.if_icmp .ne off, 3)) (ht : (p2 : Int) + off = (tgt : Int)) : CO M Γ w pc (p2 + 3) tgt (cmpC 0 a b) := by
  intro G env st μ v μ' h hw k
  obtain ⟨⟨x, μ1⟩, g1, h⟩ := b_some h
  obtain ⟨⟨y, μ2⟩, g2, g3⟩ := b_some h
  cases g3
  refine ha G env st μ _ _ g1 hw (hb G env _ _ _ _ g2 (wd0 hw) (r_icmp_ne G hd ht (fun z => ?_) (fun z => ?_)))
  · rw [show rl 0 x y = false from decide_eq_false (by omega)] at k
    exact k
  · rw [show rl 0 x y = true from decide_eq_true (by omega)] at k
    exact k
theorem C_if_ne {off : Int} {tgt : Nat} {a : Ex} (ha : EO M Γ w pc p1 0 a) (hd : decode M.1 p1 = .ok (.ifCond .ne off, 3)) (ht : (p1 : Int) + off = (tgt : Int)) : CO M Γ w pc tgt (p1 + 3) (zC 1 a) := by
  intro G env st μ v μ' h hw k
  obtain ⟨⟨x, μ1⟩, g1, g3⟩ := b_some h
  cases g3
  refine ha G env st μ _ _ g1 hw (r_if_ne G hd ht (fun z => ?_) (fun z => ?_))
  · rw [show rl 1 x 0 = true from decide_eq_true z] at k
    exact k
  · rw [show rl 1 x 0 = false from decide_eq_false z] at k
    exact k
theorem C_if_ne_n {off : Int} {tgt : Nat} {a : Ex} (ha : EO M Γ w pc p1 0 a) (hd : decode M.1 p1 = .ok (.ifCond .ne off, 3)) (ht : (p1 : Int) + off = (tgt : Int)) : CO M Γ w pc (p1 + 3) tgt (zC 0 a) := by
  intro G env st μ v μ' h hw k
  obtain ⟨⟨x, μ1⟩, g1, g3⟩ := b_some h
  cases g3
  refine ha G env st μ _ _ g1 hw (r_if_ne G hd ht (fun z => ?_) (fun z => ?_))
  · rw [show rl 0 x 0 = false from decide_eq_false (by omega)] at k
    exact k
  · rw [show rl 0 x 0 = true from decide_eq_true (by omega)] at k
    exact k
theorem C_icmp_lt {off : Int} {tgt : Nat} {a b : Ex} (ha : EO M Γ w pc p1 0 a) (hb : EO M Γ (w + 1) p1 p2 0 b) (hd : decode M.1 p2 = .ok (.if_icmp .lt off, 3)) (ht : (p2 : Int) + off = (tgt : Int)) : CO M Γ w pc tgt (p2 + 3) (cmpC 2 a b) := by
  intro G env st μ v μ' h hw k
  obtain ⟨⟨x, μ1⟩, g1, h⟩ := b_some h
  obtain ⟨⟨y, μ2⟩, g2, g3⟩ := b_some h
  cases g3
  refine ha G env st μ _ _ g1 hw (hb G env _ _ _ _ g2 (wd0 hw) (r_icmp_lt G hd ht (fun z => ?_) (fun z => ?_)))
  · rw [show rl 2 x y = true from decide_eq_true z] at k
    exact k
  · rw [show rl 2 x y = false from decide_eq_false z] at k
    exact k
theorem C_icmp_lt_n {off : Int} {tgt : Nat} {a b : Ex} (ha : EO M Γ w pc p1 0 a) (hb : EO M Γ (w + 1) p1 p2 0 b) (hd : decode M.1 p2 = .ok (.if_icmp .lt off, 3)) (ht : (p2 : Int) + off = (tgt : Int)) : CO M Γ w pc (p2 + 3) tgt (cmpC 3 a b) := by
  intro G env st μ v μ' h hw k
  obtain ⟨⟨x, μ1⟩, g1, h⟩ := b_some h
  obtain ⟨⟨y, μ2⟩, g2, g3⟩ := b_some h
  cases g3
  refine ha G env st μ _ _ g1 hw (hb G env _ _ _ _ g2 (wd0 hw) (r_icmp_lt G hd ht (fun z => ?_) (fun z => ?_)))
  · rw [show rl 3 x y = false from decide_eq_false (by omega)] at k
    exact k
  · rw [show rl 3 x y = true from decide_eq_true (by omega)] at k
    exact k
theorem C_if_lt {off : Int} {tgt : Nat} {a : Ex} (ha : EO M Γ w pc p1 0 a) (hd : decode M.1 p1 = .ok (.ifCond .lt off, 3)) (ht : (p1 : Int) + off = (tgt : Int)) : CO M Γ w pc tgt (p1 + 3) (zC 2 a) := by
  intro G env st μ v μ' h hw k
  obtain ⟨⟨x, μ1⟩, g1, g3⟩ := b_some h
  cases g3
  refine ha G env st μ _ _ g1 hw (r_if_lt G hd ht (fun z => ?_) (fun z => ?_))
  · rw [show rl 2 x 0 = true from decide_eq_true z] at k
    exact k
  · rw [show rl 2 x 0 = false from decide_eq_false z] at k
    exact k
theorem C_if_lt_n {off : Int} {tgt : Nat} {a : Ex} (ha : EO M Γ w pc p1 0 a) (hd : decode M.1 p1 = .ok (.ifCond .lt off, 3)) (ht : (p1 : Int) + off = (tgt : Int)) : CO M Γ w pc (p1 + 3) tgt (zC 3 a) := by
  intro G env st μ v μ' h hw k
  obtain ⟨⟨x, μ1⟩, g1, g3⟩ := b_some h
  cases g3
  refine ha G env st μ _ _ g1 hw (r_if_lt G hd ht (fun z => ?_) (fun z => ?_))
  · rw [show rl 3 x 0 = false from decide_eq_false (by omega)] at k
    exact k
  · rw [show rl 3 x 0 = true from decide_eq_true (by omega)] at k
    exact k
theorem C_icmp_ge {off : Int} {tgt : Nat} {a b : Ex} (ha : EO M Γ w pc p1 0 a) (hb : EO M Γ (w + 1) p1 p2 0 b) (hd : decode M.1 p2 = .ok (.if_icmp .ge off, 3)) (ht : (p2 : Int) + off = (tgt : Int)) : CO M Γ w pc tgt (p2 + 3) (cmpC 3 a b) := by
  intro G env st μ v μ' h hw k
  obtain ⟨⟨x, μ1⟩, g1, h⟩ := b_some h
  obtain ⟨⟨y, μ2⟩, g2, g3⟩ := b_some h
  cases g3
  refine ha G env st μ _ _ g1 hw (hb G env _ _ _ _ g2 (wd0 hw) (r_icmp_ge G hd ht (fun z => ?_) (fun z => ?_)))
  · rw [show rl 3 x y = true from decide_eq_true z] at k
    exact k
  · rw [show rl 3 x y = false from decide_eq_false z] at k
    exact k
theorem C_icmp_ge_n {off : Int} {tgt : Nat} {a b : Ex} (ha : EO M Γ w pc p1 0 a) (hb : EO M Γ (w + 1) p1 p2 0 b) (hd : decode M.1 p2 = .ok (.if_icmp .ge off, 3)) (ht : (p2 : Int) + off = (tgt : Int)) : CO M Γ w pc (p2 + 3) tgt (cmpC 2 a b) := by
  intro G env st μ v μ' h hw k
  obtain ⟨⟨x, μ1⟩, g1, h⟩ := b_some h
  obtain ⟨⟨y, μ2⟩, g2, g3⟩ := b_some h
  cases g3
  refine ha G env st μ _ _ g1 hw (hb G env _ _ _ _ g2 (wd0 hw) (r_icmp_ge G hd ht (fun z => ?_) (fun z => ?_)))
  · rw [show rl 2 x y = false from decide_eq_false (by omega)] at k
    exact k
  · rw [show rl 2 x y = true from decide_eq_true (by omega)] at k
    exact k
theorem C_if_ge {off : Int} {tgt : Nat} {a : Ex} (ha : EO M Γ w pc p1 0 a) (hd : decode M.1 p1 = .ok (.ifCond .ge off, 3)) (ht : (p1 : Int) + off = (tgt : Int)) : CO M Γ w pc tgt (p1 + 3) (zC 3 a) := by
  intro G env st μ v μ' h hw k
  obtain ⟨⟨x, μ1⟩, g1, g3⟩ := b_some h
  cases g3
  refine ha G env st μ _ _ g1 hw (r_if_ge G hd ht (fun z => ?_) (fun z => ?_))
  · rw [show rl 3 x 0 = true from decide_eq_true z] at k
    exact k
  · rw [show rl 3 x 0 = false from decide_eq_false z] at k
    exact k
theorem C_if_ge_n {off : Int} {tgt : Nat} {a : Ex} (ha : EO M Γ w pc p1 0 a) (hd : decode M.1 p1 = .ok (.ifCond .ge off, 3)) (ht : (p1 : Int) + off = (tgt : Int)) : CO M Γ w pc (p1 + 3) tgt (zC 2 a) := by
  intro G env st μ v μ' h hw k
  obtain ⟨⟨x, μ1⟩, g1, g3⟩ := b_some h
  cases g3
  refine ha G env st μ _ _ g1 hw (r_if_ge G hd ht (fun z => ?_) (fun z => ?_))
  · rw [show rl 2 x 0 = false from decide_eq_false (by omega)] at k
    exact k
  · rw [show rl 2 x 0 = true from decide_eq_true (by omega)] at k
    exact k
theorem C_icmp_gt {off : Int} {tgt : Nat} {a b : Ex} (ha : EO M Γ w pc p1 0 a) (hb : EO M Γ (w + 1) p1 p2 0 b) (hd : decode M.1 p2 = .ok (.if_icmp .gt off, 3)) (ht : (p2 : Int) + off = (tgt : Int)) : CO M Γ w pc tgt (p2 + 3) (cmpC 4 a b) := by
  intro G env st μ v μ' h hw k
  obtain ⟨⟨x, μ1⟩, g1, h⟩ := b_some h
  obtain ⟨⟨y, μ2⟩, g2, g3⟩ := b_some h
  cases g3
  refine ha G env st μ _ _ g1 hw (hb G env _ _ _ _ g2 (wd0 hw) (r_icmp_gt G hd ht (fun z => ?_) (fun z => ?_)))
  · rw [show rl 4 x y = true from decide_eq_true z] at k
    exact k
  · rw [show rl 4 x y = false from decide_eq_false z] at k
    exact k
theorem C_icmp_gt_n {off : Int} {tgt : Nat} {a b : Ex} (ha : EO M Γ w pc p1 0 a) (hb : EO M Γ (w + 1) p1 p2 0 b) (hd : decode M.1 p2 = .ok (.if_icmp .gt off, 3)) (ht : (p2 : Int) + off = (tgt : Int)) : CO M Γ w pc (p2 + 3) tgt (cmpC 5 a b) := by
  intro G env st μ v μ' h hw k
  obtain ⟨⟨x, μ1⟩, g1, h⟩ := b_some h
  obtain ⟨⟨y, μ2⟩, g2, g3⟩ := b_some h
  cases g3
  refine ha G env st μ _ _ g1 hw (hb G env _ _ _ _ g2 (wd0 hw) (r_icmp_gt G hd ht (fun z => ?_) (fun z => ?_)))
  · rw [show rl 5 x y = false from decide_eq_false (by omega)] at k
    exact k
  · rw [show rl 5 x y = true from decide_eq_true (by omega)] at k
    exact k
theorem C_if_gt {off : Int} {tgt : Nat} {a : Ex} (ha : EO M Γ w pc p1 0 a) (hd : decode M.1 p1 = .ok (.ifCond .gt off, 3)) (ht : (p1 : Int) + off = (tgt : Int)) : CO M Γ w pc tgt (p1 + 3) (zC 4 a) := by
  intro G env st μ v μ' h hw k
  obtain ⟨⟨x, μ1⟩, g1, g3⟩ := b_some h
  cases g3
  refine ha G env st μ _ _ g1 hw (r_if_gt G hd ht (fun z => ?_) (fun z => ?_))
  · rw [show rl 4 x 0 = true from decide_eq_true z] at k
    exact k
  · rw [show rl 4 x 0 = false from decide_eq_false z] at k
    exact k
theorem C_if_gt_n {off : Int} {tgt : Nat} {a : Ex} (ha : EO M Γ w pc p1 0 a) (hd : decode M.1 p1 = .ok (.ifCond .gt off, 3)) (ht : (p1 : Int) + off = (tgt : Int)) : CO M Γ w pc (p1 + 3) tgt (zC 5 a) := by
  intro G env st μ v μ' h hw k
  obtain ⟨⟨x, μ1⟩, g1, g3⟩ := b_some h
  cases g3
  refine ha G env st μ _ _ g1 hw (r_if_gt G hd ht (fun z => ?_) (fun z => ?_))
  · rw [show rl 5 x 0 = false from decide_eq_false (by omega)] at k
    exact k
  · rw [show rl 5 x 0 = true from decide_eq_true (by omega)] at k
    exact k
theorem C_icmp_le {off : Int} {tgt : Nat} {a b : Ex} (ha : EO M Γ w pc p1 0 a) (hb : EO M Γ (w + 1) p1 p2 0 b) (hd : decode M.1 p2 = .ok (.if_icmp .le off, 3)) (ht : (p2 : Int) + off = (tgt : Int)) : CO M Γ w pc tgt (p2 + 3) (cmpC 5 a b) := by
  intro G env st μ v μ' h hw k
  obtain ⟨⟨x, μ1⟩, g1, h⟩ := b_some h
  obtain ⟨⟨y, μ2⟩, g2, g3⟩ := b_some h
  cases g3
  refine ha G env st μ _ _ g1 hw (hb G env _ _ _ _ g2 (wd0 hw) (r_icmp_le G hd ht (fun z => ?_) (fun z => ?_)))
  · rw [show rl 5 x y = true from decide_eq_true z] at k
    exact k
  · rw [show rl 5 x y = false from decide_eq_false z] at k
    exact k
theorem C_icmp_le_n {off : Int} {tgt : Nat} {a b : Ex} (ha : EO M Γ w pc p1 0 a) (hb : EO M Γ (w + 1) p1 p2 0 b) (hd : decode M.1 p2 = .ok (.if_icmp .le off, 3)) (ht : (p2 : Int) + off = (tgt : Int)) : CO M Γ w pc (p2 + 3) tgt (cmpC 4 a b) := by
  intro G env st μ v μ' h hw k
  obtain ⟨⟨x, μ1⟩, g1, h⟩ := b_some h
  obtain ⟨⟨y, μ2⟩, g2, g3⟩ := b_some h
  cases g3
  refine ha G env st μ _ _ g1 hw (hb G env _ _ _ _ g2 (wd0 hw) (r_icmp_le G hd ht (fun z => ?_) (fun z => ?_)))
  · rw [show rl 4 x y = false from decide_eq_false (by omega)] at k
    exact k
  · rw [show rl 4 x y = true from decide_eq_true (by omega)] at k
    exact k
theorem C_if_le {off : Int} {tgt : Nat} {a : Ex} (ha : EO M Γ w pc p1 0 a) (hd : decode M.1 p1 = .ok (.ifCond .le off, 3)) (ht : (p1 : Int) + off = (tgt : Int)) : CO M Γ w pc tgt (p1 + 3) (zC 5 a) := by
  intro G env st μ v μ' h hw k
  obtain ⟨⟨x, μ1⟩, g1, g3⟩ := b_some h
  cases g3
  refine ha G env st μ _ _ g1 hw (r_if_le G hd ht (fun z => ?_) (fun z => ?_))
  · rw [show rl 5 x 0 = true from decide_eq_true z] at k
    exact k
  · rw [show rl 5 x 0 = false from decide_eq_false z] at k
    exact k
theorem C_if_le_n {off : Int} {tgt : Nat} {a : Ex} (ha : EO M Γ w pc p1 0 a) (hd : decode M.1 p1 = .ok (.ifCond .le off, 3)) (ht : (p1 : Int) + off = (tgt : Int)) : CO M Γ w pc (p1 + 3) tgt (zC 4 a) := by
  intro G env st μ v μ' h hw k
  obtain ⟨⟨x, μ1⟩, g1, g3⟩ := b_some h
  cases g3
  refine ha G env st μ _ _ g1 hw (r_if_le G hd ht (fun z => ?_) (fun z => ?_))
  · rw [show rl 4 x 0 = false from decide_eq_false (by omega)] at k
    exact k
  · rw [show rl 4 x 0 = true from decide_eq_true (by omega)] at k
    exact k
theorem C_lcmp_eq {off : Int} {tgt : Nat} {a b : Ex} (ha : EO M Γ w pc p1 1 a) (hb : EO M Γ (w + 2) p1 p2 1 b) (hc : decode M.1 p2 = .ok (.lcmp, 1)) (hd : decode M.1 (p2 + 1) = .ok (.ifCond .eq off, 3)) (ht : ((p2 + 1 : Nat) : Int) + off = (tgt : Int)) : CO M Γ w pc tgt (p2 + 4) (cmpC 0 a b) := by
  intro G env st μ v μ' h hw k
  obtain ⟨⟨x, μ1⟩, g1, h⟩ := b_some h
  obtain ⟨⟨y, μ2⟩, g2, g3⟩ := b_some h
  cases g3
  refine ha G env st μ _ _ g1 hw (hb G env _ _ _ _ g2 (wd1 hw) (r_lcmp G hc (r_if_eq G hd ht (fun z => ?_) (fun z => ?_))))
  · rw [show rl 0 x y = true from decide_eq_true (by unfold o_lcmp at z; split at z; omega; split at z <;> omega)] at k
    exact k
  · rw [show rl 0 x y = false from decide_eq_false (by unfold o_lcmp at z; split at z; omega; split at z <;> omega)] at k
    exact k
theorem C_lcmp_eq_n {off : Int} {tgt : Nat} {a b : Ex} (ha : EO M Γ w pc p1 1 a) (hb : EO M Γ (w + 2) p1 p2 1 b) (hc : decode M.1 p2 = .ok (.lcmp, 1)) (hd : decode M.1 (p2 + 1) = .ok (.ifCond .eq off, 3)) (ht : ((p2 + 1 : Nat) : Int) + off = (tgt : Int)) : CO M Γ w pc (p2 + 4) tgt (cmpC 1 a b) := by
  intro G env st μ v μ' h hw k
  obtain ⟨⟨x, μ1⟩, g1, h⟩ := b_some h
  obtain ⟨⟨y, μ2⟩, g2, g3⟩ := b_some h
  cases g3
  refine ha G env st μ _ _ g1 hw (hb G env _ _ _ _ g2 (wd1 hw) (r_lcmp G hc (r_if_eq G hd ht (fun z => ?_) (fun z => ?_))))
  · rw [show rl 1 x y = false from decide_eq_false (by unfold o_lcmp at z; split at z; omega; split at z <;> omega)] at k
    exact k
  · rw [show rl 1 x y = true from decide_eq_true (by unfold o_lcmp at z; split at z; omega; split at z <;> omega)] at k
    exact k
theorem C_lcmp_ne {off : Int} {tgt : Nat} {a b : Ex} (ha : EO M Γ w pc p1 1 a) (hb : EO M Γ (w + 2) p1 p2 1 b) (hc : decode M.1 p2 = .ok (.lcmp, 1)) (hd : decode M.1 (p2 + 1) = .ok (.ifCond .ne off, 3)) (ht : ((p2 + 1 : Nat) : Int) + off = (tgt : Int)) : CO M Γ w pc tgt (p2 + 4) (cmpC 1 a b) := by
  intro G env st μ v μ' h hw k
  obtain ⟨⟨x, μ1⟩, g1, h⟩ := b_some h
  obtain ⟨⟨y, μ2⟩, g2, g3⟩ := b_some h
  cases g3
  refine ha G env st μ _ _ g1 hw (hb G env _ _ _ _ g2 (wd1 hw) (r_lcmp G hc (r_if_ne G hd ht (fun z => ?_) (fun z => ?_))))
  · rw [show rl 1 x y = true from decide_eq_true (by unfold o_lcmp at z; split at z; omega; split at z <;> omega)] at k
    exact k
  · rw [show rl 1 x y = false from decide_eq_false (by unfold o_lcmp at z; split at z; omega; split at z <;> omega)] at k
    exact k
theorem C_lcmp_ne_n {off : Int} {tgt : Nat} {a b : Ex} (ha : EO M Γ w pc p1 1 a) (hb : EO M Γ (w + 2) p1 p2 1 b) (hc : decode M.1 p2 = .ok (.lcmp, 1)) (hd : decode M.1 (p2 + 1) = .ok (.ifCond .ne off, 3)) (ht : ((p2 + 1 : Nat) : Int) + off = (tgt : Int)) : CO M Γ w pc (p2 + 4) tgt (cmpC 0 a b) := by
  intro G env st μ v μ' h hw k
  obtain ⟨⟨x, μ1⟩, g1, h⟩ := b_some h
  obtain ⟨⟨y, μ2⟩, g2, g3⟩ := b_some h
  cases g3
  refine ha G env st μ _ _ g1 hw (hb G env _ _ _ _ g2 (wd1 hw) (r_lcmp G hc (r_if_ne G hd ht (fun z => ?_) (fun z => ?_))))
  · rw [show rl 0 x y = false from decide_eq_false (by unfold o_lcmp at z; split at z; omega; split at z <;> omega)] at k
    exact k
  · rw [show rl 0 x y = true from decide_eq_true (by unfold o_lcmp at z; split at z; omega; split at z <;> omega)] at k
    exact k
theorem C_lcmp_lt {off : Int} {tgt : Nat} {a b : Ex} (ha : EO M Γ w pc p1 1 a) (hb : EO M Γ (w + 2) p1 p2 1 b) (hc : decode M.1 p2 = .ok (.lcmp, 1)) (hd : decode M.1 (p2 + 1) = .ok (.ifCond .lt off, 3)) (ht : ((p2 + 1 : Nat) : Int) + off = (tgt : Int)) : CO M Γ w pc tgt (p2 + 4) (cmpC 2 a b) := by
  intro G env st μ v μ' h hw k
  obtain ⟨⟨x, μ1⟩, g1, h⟩ := b_some h
  obtain ⟨⟨y, μ2⟩, g2, g3⟩ := b_some h
  cases g3
  refine ha G env st μ _ _ g1 hw (hb G env _ _ _ _ g2 (wd1 hw) (r_lcmp G hc (r_if_lt G hd ht (fun z => ?_) (fun z => ?_))))
  · rw [show rl 2 x y = true from decide_eq_true (by unfold o_lcmp at z; split at z; omega; split at z <;> omega)] at k
    exact k
  · rw [show rl 2 x y = false from decide_eq_false (by unfold o_lcmp at z; split at z; omega; split at z <;> omega)] at k
    exact k
theorem C_lcmp_lt_n {off : Int} {tgt : Nat} {a b : Ex} (ha : EO M Γ w pc p1 1 a) (hb : EO M Γ (w + 2) p1 p2 1 b) (hc : decode M.1 p2 = .ok (.lcmp, 1)) (hd : decode M.1 (p2 + 1) = .ok (.ifCond .lt off, 3)) (ht : ((p2 + 1 : Nat) : Int) + off = (tgt : Int)) : CO M Γ w pc (p2 + 4) tgt (cmpC 3 a b) := by
  intro G env st μ v μ' h hw k
  obtain ⟨⟨x, μ1⟩, g1, h⟩ := b_some h
  obtain ⟨⟨y, μ2⟩, g2, g3⟩ := b_some h
  cases g3
  refine ha G env st μ _ _ g1 hw (hb G env _ _ _ _ g2 (wd1 hw) (r_lcmp G hc (r_if_lt G hd ht (fun z => ?_) (fun z => ?_))))
  · rw [show rl 3 x y = false from decide_eq_false (by unfold o_lcmp at z; split at z; omega; split at z <;> omega)] at k
    exact k
  · rw [show rl 3 x y = true from decide_eq_true (by unfold o_lcmp at z; split at z; omega; split at z <;> omega)] at k
    exact k
theorem C_lcmp_ge {off : Int} {tgt : Nat} {a b : Ex} (ha : EO M Γ w pc p1 1 a) (hb : EO M Γ (w + 2) p1 p2 1 b) (hc : decode M.1 p2 = .ok (.lcmp, 1)) (hd : decode M.1 (p2 + 1) = .ok (.ifCond .ge off, 3)) (ht : ((p2 + 1 : Nat) : Int) + off = (tgt : Int)) : CO M Γ w pc tgt (p2 + 4) (cmpC 3 a b) := by
  intro G env st μ v μ' h hw k
  obtain ⟨⟨x, μ1⟩, g1, h⟩ := b_some h
  obtain ⟨⟨y, μ2⟩, g2, g3⟩ := b_some h
  cases g3
  refine ha G env st μ _ _ g1 hw (hb G env _ _ _ _ g2 (wd1 hw) (r_lcmp G hc (r_if_ge G hd ht (fun z => ?_) (fun z => ?_))))
  · rw [show rl 3 x y = true from decide_eq_true (by unfold o_lcmp at z; split at z; omega; split at z <;> omega)] at k
    exact k
  · rw [show rl 3 x y = false from decide_eq_false (by unfold o_lcmp at z; split at z; omega; split at z <;> omega)] at k
    exact k
theorem C_lcmp_ge_n {off : Int} {tgt : Nat} {a b : Ex} (ha : EO M Γ w pc p1 1 a) (hb : EO M Γ (w + 2) p1 p2 1 b) (hc : decode M.1 p2 = .ok (.lcmp, 1)) (hd : decode M.1 (p2 + 1) = .ok (.ifCond .ge off, 3)) (ht : ((p2 + 1 : Nat) : Int) + off = (tgt : Int)) : CO M Γ w pc (p2 + 4) tgt (cmpC 2 a b) := by
  intro G env st μ v μ' h hw k
  obtain ⟨⟨x, μ1⟩, g1, h⟩ := b_some h
  obtain ⟨⟨y, μ2⟩, g2, g3⟩ := b_some h
  cases g3
  refine ha G env st μ _ _ g1 hw (hb G env _ _ _ _ g2 (wd1 hw) (r_lcmp G hc (r_if_ge G hd ht (fun z => ?_) (fun z => ?_))))
  · rw [show rl 2 x y = false from decide_eq_false (by unfold o_lcmp at z; split at z; omega; split at z <;> omega)] at k
    exact k
  · rw [show rl 2 x y = true from decide_eq_true (by unfold o_lcmp at z; split at z; omega; split at z <;> omega)] at k
    exact k
theorem C_lcmp_gt {off : Int} {tgt : Nat} {a b : Ex} (ha : EO M Γ w pc p1 1 a) (hb : EO M Γ (w + 2) p1 p2 1 b) (hc : decode M.1 p2 = .ok (.lcmp, 1)) (hd : decode M.1 (p2 + 1) = .ok (.ifCond .gt off, 3)) (ht : ((p2 + 1 : Nat) : Int) + off = (tgt : Int)) : CO M Γ w pc tgt (p2 + 4) (cmpC 4 a b) := by
  intro G env st μ v μ' h hw k
  obtain ⟨⟨x, μ1⟩, g1, h⟩ := b_some h
  obtain ⟨⟨y, μ2⟩, g2, g3⟩ := b_some h
  cases g3
  refine ha G env st μ _ _ g1 hw (hb G env _ _ _ _ g2 (wd1 hw) (r_lcmp G hc (r_if_gt G hd ht (fun z => ?_) (fun z => ?_))))
  · rw [show rl 4 x y = true from decide_eq_true (by unfold o_lcmp at z; split at z; omega; split at z <;> omega)] at k
    exact k
  · rw [show rl 4 x y = false from decide_eq_false (by unfold o_lcmp at z; split at z; omega; split at z <;> omega)] at k
    exact k
theorem C_lcmp_gt_n {off : Int} {tgt : Nat} {a b : Ex} (ha : EO M Γ w pc p1 1 a) (hb : EO M Γ (w + 2) p1 p2 1 b) (hc : decode M.1 p2 = .ok (.lcmp, 1)) (hd : decode M.1 (p2 + 1) = .ok (.ifCond .gt off, 3)) (ht : ((p2 + 1 : Nat) : Int) + off = (tgt : Int)) : CO M Γ w pc (p2 + 4) tgt (cmpC 5 a b) := by
  intro G env st μ v μ' h hw k
  obtain ⟨⟨x, μ1⟩, g1, h⟩ := b_some h
  obtain ⟨⟨y, μ2⟩, g2, g3⟩ := b_some h
  cases g3
  refine ha G env st μ _ _ g1 hw (hb G env _ _ _ _ g2 (wd1 hw) (r_lcmp G hc (r_if_gt G hd ht (fun z => ?_) (fun z => ?_))))
  · rw [show rl 5 x y = false from decide_eq_false (by unfold o_lcmp at z; split at z; omega; split at z <;> omega)] at k
    exact k
  · rw [show rl 5 x y = true from decide_eq_true (by unfold o_lcmp at z; split at z; omega; split at z <;> omega)] at k
    exact k
theorem C_lcmp_le {off : Int} {tgt : Nat} {a b : Ex} (ha : EO M Γ w pc p1 1 a) (hb : EO M Γ (w + 2) p1 p2 1 b) (hc : decode M.1 p2 = .ok (.lcmp, 1)) (hd : decode M.1 (p2 + 1) = .ok (.ifCond .le off, 3)) (ht : ((p2 + 1 : Nat) : Int) + off = (tgt : Int)) : CO M Γ w pc tgt (p2 + 4) (cmpC 5 a b) := by
  intro G env st μ v μ' h hw k
  obtain ⟨⟨x, μ1⟩, g1, h⟩ := b_some h
  obtain ⟨⟨y, μ2⟩, g2, g3⟩ := b_some h
  cases g3
  refine ha G env st μ _ _ g1 hw (hb G env _ _ _ _ g2 (wd1 hw) (r_lcmp G hc (r_if_le G hd ht (fun z => ?_) (fun z => ?_))))
  · rw [show rl 5 x y = true from decide_eq_true (by unfold o_lcmp at z; split at z; omega; split at z <;> omega)] at k
    exact k
  · rw [show rl 5 x y = false from decide_eq_false (by unfold o_lcmp at z; split at z; omega; split at z <;> omega)] at k
    exact k
theorem C_lcmp_le_n {off : Int} {tgt : Nat} {a b : Ex} (ha : EO M Γ w pc p1 1 a) (hb : EO M Γ (w + 2) p1 p2 1 b) (hc : decode M.1 p2 = .ok (.lcmp, 1)) (hd : decode M.1 (p2 + 1) = .ok (.ifCond .le off, 3)) (ht : ((p2 + 1 : Nat) : Int) + off = (tgt : Int)) : CO M Γ w pc (p2 + 4) tgt (cmpC 4 a b) := by
  intro G env st μ v μ' h hw k
  obtain ⟨⟨x, μ1⟩, g1, h⟩ := b_some h
  obtain ⟨⟨y, μ2⟩, g2, g3⟩ := b_some h
  cases g3
  refine ha G env st μ _ _ g1 hw (hb G env _ _ _ _ g2 (wd1 hw) (r_lcmp G hc (r_if_le G hd ht (fun z => ?_) (fun z => ?_))))
  · rw [show rl 4 x y = false from decide_eq_false (by unfold o_lcmp at z; split at z; omega; split at z <;> omega)] at k
    exact k
  · rw [show rl 4 x y = true from decide_eq_true (by unfold o_lcmp at z; split at z; omega; split at z <;> omega)] at k
    exact k
end EU
