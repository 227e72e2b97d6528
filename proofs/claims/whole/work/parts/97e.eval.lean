/-! evaluation from the outside in: what comes behind stays as it is until its turn -/
def q_bn (op : Int → Int → Int) (o : Option (Int × Mem)) (b : Ex) (sh : Shp) (env : Ev) : Option (Int × Mem) := o.bind fun x => (b sh env x.2).bind fun y => some (op x.1 y.1, y.2)
def q_bn2 (op : Int → Int → Int) (x : Int) (o : Option (Int × Mem)) : Option (Int × Mem) := o.bind fun y => some (op x y.1, y.2)
theorem v_bin (op : Int → Int → Int) (a b : Ex) (sh : Shp) (env : Ev) (μ : Mem) : binE op a b sh env μ = q_bn op (a sh env μ) b sh env := rfl
theorem v_bn (op : Int → Int → Int) (x : Int) (μ : Mem) (b : Ex) (sh : Shp) (env : Ev) : q_bn op (some (x, μ)) b sh env = q_bn2 op x (b sh env μ) := rfl
theorem v_bn2 (op : Int → Int → Int) (x y : Int) (μ : Mem) : q_bn2 op x (some (y, μ)) = some (op x y, μ) := rfl
def q_dv (op : Int → Int → Int) (o : Option (Int × Mem)) (b : Ex) (sh : Shp) (env : Ev) : Option (Int × Mem) := o.bind fun x => (b sh env x.2).bind fun y => if y.1 = 0 then none else some (op x.1 y.1, y.2)
def q_dv2 (op : Int → Int → Int) (x : Int) (o : Option (Int × Mem)) : Option (Int × Mem) := o.bind fun y => if y.1 = 0 then none else some (op x y.1, y.2)
theorem v_div (op : Int → Int → Int) (a b : Ex) (sh : Shp) (env : Ev) (μ : Mem) : divE op a b sh env μ = q_dv op (a sh env μ) b sh env := rfl
theorem v_dv (op : Int → Int → Int) (x : Int) (μ : Mem) (b : Ex) (sh : Shp) (env : Ev) : q_dv op (some (x, μ)) b sh env = q_dv2 op x (b sh env μ) := rfl
theorem v_dv2 (op : Int → Int → Int) (x y : Int) (μ : Mem) : q_dv2 op x (some (y, μ)) = if y = 0 then none else some (op x y, μ) := rfl
def q_un (op : Int → Int) (o : Option (Int × Mem)) : Option (Int × Mem) := o.bind fun x => some (op x.1, x.2)
theorem v_une (op : Int → Int) (a : Ex) (sh : Shp) (env : Ev) (μ : Mem) : unE op a sh env μ = q_un op (a sh env μ) := rfl
theorem v_un (op : Int → Int) (x : Int) (μ : Mem) : q_un op (some (x, μ)) = some (op x, μ) := rfl
theorem v_loc (t i : Nat) (sh : Shp) (env : Ev) (μ : Mem) : locE t i sh env μ = match env[i]? with
  | some (t', v) => if t' = t then some (v, μ) else none
  | none => none := rfl
theorem v_num (n : Int) (sh : Shp) (env : Ev) (μ : Mem) : numE n sh env μ = some (n, μ) := rfl
def fst1 (sh : Shp) (k : Nat) : Option Nat := (sh[k]?).map (fun q => q.1)
def snd1 (sh : Shp) (k : Nat) : Nat := ((sh[k]?).map (fun q => q.2)).getD 0
theorem fst1_of {sh : Shp} {k c n : Nat} (h : sh[k]? = some (c, n)) : fst1 sh k = some c := by unfold fst1; rw [h]; rfl
theorem snd1_of {sh : Shp} {k c n : Nat} (h : sh[k]? = some (c, n)) : snd1 sh k = n := by unfold snd1; rw [h]; rfl
def q_gt (ci j t : Nat) (sh : Shp) (o : Option (Int × Mem)) : Option (Int × Mem) := o.bind fun x => match sh[x.1.toNat]? with
  | some q => if q.1 = ci ∧ (t ≠ 2 ∨ 0 ≤ x.2 x.1.toNat j) then some (x.2 x.1.toNat j, x.2) else none
  | none => none
theorem v_get (ci j t : Nat) (a : Ex) (sh : Shp) (env : Ev) (μ : Mem) : getE ci j t a sh env μ = q_gt ci j t sh (a sh env μ) := rfl
theorem v_gt (ci j t : Nat) (sh : Shp) (x : Int) (μ : Mem) : q_gt ci j t sh (some (x, μ)) = if fst1 sh x.toNat = some ci ∧ (t ≠ 2 ∨ 0 ≤ μ x.toNat j) then some (μ x.toNat j, μ) else none := by
  unfold q_gt fst1
  simp only [Option.bind_some]
  cases h : sh[x.toNat]? with
  | none => simp
  | some q => simp
def q_al (kd : Nat) (o : Option (Int × Mem)) (i : Ex) (sh : Shp) (env : Ev) : Option (Int × Mem) := o.bind fun x => (i sh env x.2).bind fun y => match sh[x.1.toNat]? with
  | some q => if q.1 = kd ∧ 0 ≤ y.1 ∧ y.1 < q.2 ∧ (kd < 110 ∨ 0 ≤ y.2 x.1.toNat y.1.toNat) then some (y.2 x.1.toNat y.1.toNat, y.2) else none
  | none => none
def q_al2 (kd : Nat) (x : Int) (sh : Shp) (o : Option (Int × Mem)) : Option (Int × Mem) := o.bind fun y => match sh[x.toNat]? with
  | some q => if q.1 = kd ∧ 0 ≤ y.1 ∧ y.1 < q.2 ∧ (kd < 110 ∨ 0 ≤ y.2 x.toNat y.1.toNat) then some (y.2 x.toNat y.1.toNat, y.2) else none
  | none => none
theorem v_ald (kd : Nat) (a i : Ex) (sh : Shp) (env : Ev) (μ : Mem) : aldE kd a i sh env μ = q_al kd (a sh env μ) i sh env := rfl
theorem v_al (kd : Nat) (x : Int) (μ : Mem) (i : Ex) (sh : Shp) (env : Ev) : q_al kd (some (x, μ)) i sh env = q_al2 kd x sh (i sh env μ) := rfl
theorem v_al2 (kd : Nat) (x : Int) (sh : Shp) (y : Int) (μ : Mem) : q_al2 kd x sh (some (y, μ)) = if fst1 sh x.toNat = some kd ∧ 0 ≤ y ∧ y < (snd1 sh x.toNat : Int) ∧ (kd < 110 ∨ 0 ≤ μ x.toNat y.toNat) then some (μ x.toNat y.toNat, μ) else none := by
  unfold q_al2 fst1 snd1
  simp only [Option.bind_some]
  cases h : sh[x.toNat]? with
  | none => simp
  | some q => simp
def q_ln (sh : Shp) (o : Option (Int × Mem)) : Option (Int × Mem) := o.bind fun x => match sh[x.1.toNat]? with
  | some q => if 100 ≤ q.1 ∧ (q.2 : Int) < 2147483648 then some ((q.2 : Int), x.2) else none
  | none => none
theorem v_len (a : Ex) (sh : Shp) (env : Ev) (μ : Mem) : lenE a sh env μ = q_ln sh (a sh env μ) := rfl
theorem v_ln (sh : Shp) (x : Int) (μ : Mem) : q_ln sh (some (x, μ)) = match sh[x.toNat]? with
  | some q => if 100 ≤ q.1 ∧ (q.2 : Int) < 2147483648 then some ((q.2 : Int), μ) else none
  | none => none := rfl
theorem v_rl0 (a b : Int) : rl 0 a b = decide (a = b) := rfl
theorem v_rl1 (a b : Int) : rl 1 a b = decide (¬ a = b) := rfl
theorem v_rl2 (a b : Int) : rl 2 a b = decide (a < b) := rfl
theorem v_rl3 (a b : Int) : rl 3 a b = decide (b ≤ a) := rfl
theorem v_rl4 (a b : Int) : rl 4 a b = decide (b < a) := rfl
theorem v_rl5 (a b : Int) : rl 5 a b = decide (a ≤ b) := rfl
def q_cp (r : Nat) (o : Option (Int × Mem)) (b : Ex) (sh : Shp) (env : Ev) : Option (Bool × Mem) := o.bind fun x => (b sh env x.2).bind fun y => some (rl r x.1 y.1, y.2)
def q_cp2 (r : Nat) (x : Int) (o : Option (Int × Mem)) : Option (Bool × Mem) := o.bind fun y => some (rl r x y.1, y.2)
theorem v_cmp (r : Nat) (a b : Ex) (sh : Shp) (env : Ev) (μ : Mem) : cmpC r a b sh env μ = q_cp r (a sh env μ) b sh env := rfl
theorem v_cp (r : Nat) (x : Int) (μ : Mem) (b : Ex) (sh : Shp) (env : Ev) : q_cp r (some (x, μ)) b sh env = q_cp2 r x (b sh env μ) := rfl
theorem v_cp2 (r : Nat) (x y : Int) (μ : Mem) : q_cp2 r x (some (y, μ)) = some (rl r x y, μ) := rfl
def q_zc (r : Nat) (o : Option (Int × Mem)) : Option (Bool × Mem) := o.bind fun x => some (rl r x.1 0, x.2)
theorem v_zC (r : Nat) (a : Ex) (sh : Shp) (env : Ev) (μ : Mem) : zC r a sh env μ = q_zc r (a sh env μ) := rfl
theorem v_zc (r : Nat) (x : Int) (μ : Mem) : q_zc r (some (x, μ)) = some (rl r x 0, μ) := rfl
def q_kc (b : Bool) (o : Option (Int × Mem)) : Option (Bool × Mem) := o.bind fun x => some (b, x.2)
theorem v_con (b : Bool) (a : Ex) (sh : Shp) (env : Ev) (μ : Mem) : constC b a sh env μ = q_kc b (a sh env μ) := rfl
theorem v_kc (b : Bool) (x : Int) (μ : Mem) : q_kc b (some (x, μ)) = some (b, μ) := rfl
def q_an (o : Option (Bool × Mem)) (b : Cn) (sh : Shp) (env : Ev) : Option (Bool × Mem) := o.bind fun x => if x.1 then b sh env x.2 else some (false, x.2)
theorem v_and (a b : Cn) (sh : Shp) (env : Ev) (μ : Mem) : andC a b sh env μ = q_an (a sh env μ) b sh env := rfl
theorem v_an1 (μ : Mem) (b : Cn) (sh : Shp) (env : Ev) : q_an (some (true, μ)) b sh env = b sh env μ := rfl
theorem v_an0 (μ : Mem) (b : Cn) (sh : Shp) (env : Ev) : q_an (some (false, μ)) b sh env = some (false, μ) := rfl
def q_or (o : Option (Bool × Mem)) (b : Cn) (sh : Shp) (env : Ev) : Option (Bool × Mem) := o.bind fun x => if x.1 then some (true, x.2) else b sh env x.2
theorem v_or (a b : Cn) (sh : Shp) (env : Ev) (μ : Mem) : orC a b sh env μ = q_or (a sh env μ) b sh env := rfl
theorem v_or1 (μ : Mem) (b : Cn) (sh : Shp) (env : Ev) : q_or (some (true, μ)) b sh env = some (true, μ) := rfl
theorem v_or0 (μ : Mem) (b : Cn) (sh : Shp) (env : Ev) : q_or (some (false, μ)) b sh env = b sh env μ := rfl
def q_nt (o : Option (Bool × Mem)) : Option (Bool × Mem) := o.bind fun x => some (!x.1, x.2)
theorem v_not (a : Cn) (sh : Shp) (env : Ev) (μ : Mem) : notC a sh env μ = q_nt (a sh env μ) := rfl
theorem v_nt (b : Bool) (μ : Mem) : q_nt (some (b, μ)) = some (!b, μ) := rfl
def q_bo (o : Option (Bool × Mem)) : Option (Int × Mem) := o.bind fun x => some (if x.1 then 1 else 0, x.2)
theorem v_boo (a : Cn) (sh : Shp) (env : Ev) (μ : Mem) : boolE a sh env μ = q_bo (a sh env μ) := rfl
theorem v_bo (b : Bool) (μ : Mem) : q_bo (some (b, μ)) = some (if b then 1 else 0, μ) := rfl
def q_cd (o : Option (Bool × Mem)) (a b : Ex) (sh : Shp) (env : Ev) : Option (Int × Mem) := o.bind fun x => if x.1 then a sh env x.2 else b sh env x.2
theorem v_cnd (c : Cn) (a b : Ex) (sh : Shp) (env : Ev) (μ : Mem) : condE c a b sh env μ = q_cd (c sh env μ) a b sh env := rfl
theorem v_cd1 (μ : Mem) (a b : Ex) (sh : Shp) (env : Ev) : q_cd (some (true, μ)) a b sh env = a sh env μ := rfl
theorem v_cd0 (μ : Mem) (a b : Ex) (sh : Shp) (env : Ev) : q_cd (some (false, μ)) a b sh env = b sh env μ := rfl
def q_cc (o : Option (Bool × Mem)) (a b : Cn) (sh : Shp) (env : Ev) : Option (Bool × Mem) := o.bind fun x => if x.1 then a sh env x.2 else b sh env x.2
theorem v_cnc (c : Cn) (a b : Cn) (sh : Shp) (env : Ev) (μ : Mem) : condC c a b sh env μ = q_cc (c sh env μ) a b sh env := rfl
theorem v_cc1 (μ : Mem) (a b : Cn) (sh : Shp) (env : Ev) : q_cc (some (true, μ)) a b sh env = a sh env μ := rfl
theorem v_cc0 (μ : Mem) (a b : Cn) (sh : Shp) (env : Ev) : q_cc (some (false, μ)) a b sh env = b sh env μ := rfl
def q_e1 (t : Nat) (o : Option (Int × Mem)) (r : List (Nat × Ex)) (sh : Shp) (env : Ev) : Option (List Vl × Mem) := o.bind fun x => (evA r sh env x.2).bind fun y => some ((t, x.1) :: y.1, y.2)
def q_e2 (t : Nat) (x : Int) (o : Option (List Vl × Mem)) : Option (List Vl × Mem) := o.bind fun y => some ((t, x) :: y.1, y.2)
theorem v_ev0 (sh : Shp) (env : Ev) (μ : Mem) : evA [] sh env μ = some ([], μ) := rfl
theorem v_ev (t : Nat) (e : Ex) (r : List (Nat × Ex)) (sh : Shp) (env : Ev) (μ : Mem) : evA ((t, e) :: r) sh env μ = q_e1 t (e sh env μ) r sh env := rfl
theorem v_e1 (t : Nat) (x : Int) (μ : Mem) (r : List (Nat × Ex)) (sh : Shp) (env : Ev) : q_e1 t (some (x, μ)) r sh env = q_e2 t x (evA r sh env μ) := rfl
theorem v_e2 (t : Nat) (x : Int) (l : List Vl) (μ : Mem) : q_e2 t x (some (l, μ)) = some ((t, x) :: l, μ) := rfl
def q_cv (ci : Nat) (f : Fn) (sh : Shp) (o : Option (List Vl × Mem)) : Option (Int × Mem) := o.bind fun x => match x.1 with
  | (2, a) :: _ => (match sh[a.toNat]? with
    | some q => if q.1 = ci then f sh x.1 x.2 else none
    | none => none)
  | _ => none
theorem v_cve (ci : Nat) (f : Fn) (as : List (Nat × Ex)) (sh : Shp) (env : Ev) (μ : Mem) : cvE ci f as sh env μ = q_cv ci f sh (evA as sh env μ) := rfl
theorem v_cv (ci : Nat) (f : Fn) (sh : Shp) (a : Int) (l : List Vl) (μ : Mem) : q_cv ci f sh (some ((2, a) :: l, μ)) = if fst1 sh a.toNat = some ci then f sh ((2, a) :: l) μ else none := by
  unfold q_cv fst1
  simp only [Option.bind_some]
  cases h : sh[a.toNat]? with
  | none => simp
  | some q => simp
def q_cs (f : Fn) (sh : Shp) (o : Option (List Vl × Mem)) : Option (Int × Mem) := o.bind fun x => f sh x.1 x.2
theorem v_cse (f : Fn) (as : List (Nat × Ex)) (sh : Shp) (env : Ev) (μ : Mem) : csE f as sh env μ = q_cs f sh (evA as sh env μ) := rfl
theorem v_cs (f : Fn) (sh : Shp) (l : List Vl) (μ : Mem) : q_cs f sh (some (l, μ)) = f sh l μ := rfl
/-! statements -/
theorem v_skip (sh : Shp) (env : Ev) (μ : Mem) : skipS sh env μ = some (0, 0, env, μ) := rfl
def q_sq (o : Option Rs) (b : Sx) (sh : Shp) : Option Rs := o.bind fun r => if r.1 = 0 then b sh r.2.2.1 r.2.2.2 else some r
theorem v_seq (a b : Sx) (sh : Shp) (env : Ev) (μ : Mem) : seqS a b sh env μ = q_sq (a sh env μ) b sh := rfl
theorem v_sq0 (v : Int) (env : Ev) (μ : Mem) (b : Sx) (sh : Shp) : q_sq (some (0, v, env, μ)) b sh = b sh env μ := rfl
theorem v_sq1 (k : Nat) (v : Int) (env : Ev) (μ : Mem) (b : Sx) (sh : Shp) : q_sq (some (k + 1, v, env, μ)) b sh = some (k + 1, v, env, μ) := rfl
theorem v_sqr (v : Int) (env : Ev) (μ : Mem) (b : Sx) (sh : Shp) : q_sq (some (1, v, env, μ)) b sh = some (1, v, env, μ) := rfl
def q_st (i t : Nat) (env : Ev) (o : Option (Int × Mem)) : Option Rs := o.bind fun x => if i + t % 2 < env.length then some (0, 0, stE env i t x.1, x.2) else none
theorem v_sts (i t : Nat) (e : Ex) (sh : Shp) (env : Ev) (μ : Mem) : stS i t e sh env μ = q_st i t env (e sh env μ) := rfl
theorem v_st (i t : Nat) (env : Ev) (x : Int) (μ : Mem) : q_st i t env (some (x, μ)) = if i + t % 2 < env.length then some (0, 0, stE env i t x, μ) else none := rfl
theorem v_inc (i : Nat) (n : Int) (sh : Shp) (env : Ev) (μ : Mem) : incS i n sh env μ = match env[i]? with
  | some (t, v) => if t = 0 then some (0, 0, stE env i 0 (w32 (v + n)), μ) else none
  | none => none := rfl
def q_pt (ci j t : Nat) (ty : FieldType) (o : Option (Int × Mem)) (e : Ex) (sh : Shp) (env : Ev) : Option Rs := o.bind fun x => (e sh env x.2).bind fun y => match sh[x.1.toNat]? with
  | some q => if q.1 = ci ∧ okb ty t y.1 = true then some (0, 0, env, ud y.2 x.1.toNat j y.1) else none
  | none => none
def q_pt2 (ci j t : Nat) (ty : FieldType) (x : Int) (sh : Shp) (env : Ev) (o : Option (Int × Mem)) : Option Rs := o.bind fun y => match sh[x.toNat]? with
  | some q => if q.1 = ci ∧ okb ty t y.1 = true then some (0, 0, env, ud y.2 x.toNat j y.1) else none
  | none => none
theorem v_put (ci j t : Nat) (ty : FieldType) (a e : Ex) (sh : Shp) (env : Ev) (μ : Mem) : putS ci j t ty a e sh env μ = q_pt ci j t ty (a sh env μ) e sh env := rfl
theorem v_pt (ci j t : Nat) (ty : FieldType) (x : Int) (μ : Mem) (e : Ex) (sh : Shp) (env : Ev) : q_pt ci j t ty (some (x, μ)) e sh env = q_pt2 ci j t ty x sh env (e sh env μ) := rfl
theorem v_pt2 (ci j t : Nat) (ty : FieldType) (x : Int) (sh : Shp) (env : Ev) (y : Int) (μ : Mem) : q_pt2 ci j t ty x sh env (some (y, μ)) = if fst1 sh x.toNat = some ci ∧ okb ty t y = true then some (0, 0, env, ud μ x.toNat j y) else none := by
  unfold q_pt2 fst1
  simp only [Option.bind_some]
  cases h : sh[x.toNat]? with
  | none => simp
  | some q => simp
def q_fo (ci j : Nat) (op : Int → Int → Int) (o : Option (Int × Mem)) (e : Ex) (sh : Shp) (env : Ev) : Option Rs := o.bind fun x => (e sh env x.2).bind fun y => match sh[x.1.toNat]? with
  | some q => if q.1 = ci then some (0, 0, env, ud y.2 x.1.toNat j (op (x.2 x.1.toNat j) y.1)) else none
  | none => none
def q_fo2 (ci j : Nat) (op : Int → Int → Int) (x w : Int) (sh : Shp) (env : Ev) (o : Option (Int × Mem)) : Option Rs := o.bind fun y => match sh[x.toNat]? with
  | some q => if q.1 = ci then some (0, 0, env, ud y.2 x.toNat j (op w y.1)) else none
  | none => none
theorem v_fop (ci j : Nat) (op : Int → Int → Int) (a e : Ex) (sh : Shp) (env : Ev) (μ : Mem) : fopS ci j op a e sh env μ = q_fo ci j op (a sh env μ) e sh env := rfl
theorem v_fo (ci j : Nat) (op : Int → Int → Int) (x : Int) (μ : Mem) (e : Ex) (sh : Shp) (env : Ev) : q_fo ci j op (some (x, μ)) e sh env = q_fo2 ci j op x (μ x.toNat j) sh env (e sh env μ) := rfl
theorem v_fo2 (ci j : Nat) (op : Int → Int → Int) (x w : Int) (sh : Shp) (env : Ev) (y : Int) (μ : Mem) : q_fo2 ci j op x w sh env (some (y, μ)) = if fst1 sh x.toNat = some ci then some (0, 0, env, ud μ x.toNat j (op w y)) else none := by
  unfold q_fo2 fst1
  simp only [Option.bind_some]
  cases h : sh[x.toNat]? with
  | none => simp
  | some q => simp
def q_as (kd : Nat) (o : Option (Int × Mem)) (i e : Ex) (sh : Shp) (env : Ev) : Option Rs := o.bind fun x => (i sh env x.2).bind fun y => (e sh env y.2).bind fun z => match sh[x.1.toNat]? with
  | some q => if q.1 = kd ∧ 0 ≤ y.1 ∧ y.1 < q.2 then some (0, 0, env, ud z.2 x.1.toNat y.1.toNat (narV kd z.1)) else none
  | none => none
def q_as2 (kd : Nat) (x : Int) (o : Option (Int × Mem)) (e : Ex) (sh : Shp) (env : Ev) : Option Rs := o.bind fun y => (e sh env y.2).bind fun z => match sh[x.toNat]? with
  | some q => if q.1 = kd ∧ 0 ≤ y.1 ∧ y.1 < q.2 then some (0, 0, env, ud z.2 x.toNat y.1.toNat (narV kd z.1)) else none
  | none => none
def q_as3 (kd : Nat) (x y : Int) (sh : Shp) (env : Ev) (o : Option (Int × Mem)) : Option Rs := o.bind fun z => match sh[x.toNat]? with
  | some q => if q.1 = kd ∧ 0 ≤ y ∧ y < q.2 then some (0, 0, env, ud z.2 x.toNat y.toNat (narV kd z.1)) else none
  | none => none
theorem v_ast (kd : Nat) (a i e : Ex) (sh : Shp) (env : Ev) (μ : Mem) : astS kd a i e sh env μ = q_as kd (a sh env μ) i e sh env := rfl
theorem v_as (kd : Nat) (x : Int) (μ : Mem) (i e : Ex) (sh : Shp) (env : Ev) : q_as kd (some (x, μ)) i e sh env = q_as2 kd x (i sh env μ) e sh env := rfl
theorem v_as2 (kd : Nat) (x y : Int) (μ : Mem) (e : Ex) (sh : Shp) (env : Ev) : q_as2 kd x (some (y, μ)) e sh env = q_as3 kd x y sh env (e sh env μ) := rfl
theorem v_as3 (kd : Nat) (x y : Int) (sh : Shp) (env : Ev) (z : Int) (μ : Mem) : q_as3 kd x y sh env (some (z, μ)) = if fst1 sh x.toNat = some kd ∧ 0 ≤ y ∧ y < (snd1 sh x.toNat : Int) then some (0, 0, env, ud μ x.toNat y.toNat (narV kd z)) else none := by
  unfold q_as3 fst1 snd1
  simp only [Option.bind_some]
  cases h : sh[x.toNat]? with
  | none => simp
  | some q => simp
def q_ao (kd : Nat) (op : Int → Int → Int) (o : Option (Int × Mem)) (i e : Ex) (sh : Shp) (env : Ev) : Option Rs := o.bind fun x => (i sh env x.2).bind fun y => (e sh env y.2).bind fun z => match sh[x.1.toNat]? with
  | some q => if q.1 = kd ∧ 0 ≤ y.1 ∧ y.1 < q.2 then some (0, 0, env, ud z.2 x.1.toNat y.1.toNat (op (y.2 x.1.toNat y.1.toNat) z.1)) else none
  | none => none
def q_ao2 (kd : Nat) (op : Int → Int → Int) (x : Int) (o : Option (Int × Mem)) (e : Ex) (sh : Shp) (env : Ev) : Option Rs := o.bind fun y => (e sh env y.2).bind fun z => match sh[x.toNat]? with
  | some q => if q.1 = kd ∧ 0 ≤ y.1 ∧ y.1 < q.2 then some (0, 0, env, ud z.2 x.toNat y.1.toNat (op (y.2 x.toNat y.1.toNat) z.1)) else none
  | none => none
def q_ao3 (kd : Nat) (op : Int → Int → Int) (x y w : Int) (sh : Shp) (env : Ev) (o : Option (Int × Mem)) : Option Rs := o.bind fun z => match sh[x.toNat]? with
  | some q => if q.1 = kd ∧ 0 ≤ y ∧ y < q.2 then some (0, 0, env, ud z.2 x.toNat y.toNat (op w z.1)) else none
  | none => none
theorem v_aop (kd : Nat) (op : Int → Int → Int) (a i e : Ex) (sh : Shp) (env : Ev) (μ : Mem) : aopS kd op a i e sh env μ = q_ao kd op (a sh env μ) i e sh env := rfl
theorem v_ao (kd : Nat) (op : Int → Int → Int) (x : Int) (μ : Mem) (i e : Ex) (sh : Shp) (env : Ev) : q_ao kd op (some (x, μ)) i e sh env = q_ao2 kd op x (i sh env μ) e sh env := rfl
theorem v_ao2 (kd : Nat) (op : Int → Int → Int) (x y : Int) (μ : Mem) (e : Ex) (sh : Shp) (env : Ev) : q_ao2 kd op x (some (y, μ)) e sh env = q_ao3 kd op x y (μ x.toNat y.toNat) sh env (e sh env μ) := rfl
theorem v_ao3 (kd : Nat) (op : Int → Int → Int) (x y w : Int) (sh : Shp) (env : Ev) (z : Int) (μ : Mem) : q_ao3 kd op x y w sh env (some (z, μ)) = if fst1 sh x.toNat = some kd ∧ 0 ≤ y ∧ y < (snd1 sh x.toNat : Int) then some (0, 0, env, ud μ x.toNat y.toNat (op w z)) else none := by
  unfold q_ao3 fst1 snd1
  simp only [Option.bind_some]
  cases h : sh[x.toNat]? with
  | none => simp
  | some q => simp
def q_ex (env : Ev) (o : Option (Int × Mem)) : Option Rs := o.bind fun x => some (0, 0, env, x.2)
theorem v_exs (e : Ex) (sh : Shp) (env : Ev) (μ : Mem) : exS e sh env μ = q_ex env (e sh env μ) := rfl
theorem v_ex (env : Ev) (x : Int) (μ : Mem) : q_ex env (some (x, μ)) = some (0, 0, env, μ) := rfl
def q_if (o : Option (Bool × Mem)) (a b : Sx) (sh : Shp) (env : Ev) : Option Rs := o.bind fun x => if x.1 then a sh env x.2 else b sh env x.2
theorem v_ifs (c : Cn) (a b : Sx) (sh : Shp) (env : Ev) (μ : Mem) : ifS c a b sh env μ = q_if (c sh env μ) a b sh env := rfl
theorem v_if1 (μ : Mem) (a b : Sx) (sh : Shp) (env : Ev) : q_if (some (true, μ)) a b sh env = a sh env μ := rfl
theorem v_if0 (μ : Mem) (a b : Sx) (sh : Shp) (env : Ev) : q_if (some (false, μ)) a b sh env = b sh env μ := rfl
def q_rt (env : Ev) (o : Option (Int × Mem)) : Option Rs := o.bind fun x => some (1, x.1, env, x.2)
theorem v_ret (e : Ex) (sh : Shp) (env : Ev) (μ : Mem) : retS e sh env μ = q_rt env (e sh env μ) := rfl
theorem v_rt (env : Ev) (x : Int) (μ : Mem) : q_rt env (some (x, μ)) = some (1, x, env, μ) := rfl
def q_rz (env : Ev) (o : Option (Int × Mem)) : Option Rs := o.bind fun x => if x.1 = 0 ∨ x.1 = 1 then some (1, x.1, env, x.2) else none
theorem v_rez (e : Ex) (sh : Shp) (env : Ev) (μ : Mem) : retZ e sh env μ = q_rz env (e sh env μ) := rfl
theorem v_rz (env : Ev) (x : Int) (μ : Mem) : q_rz env (some (x, μ)) = if x = 0 ∨ x = 1 then some (1, x, env, μ) else none := rfl
theorem v_rev (sh : Shp) (env : Ev) (μ : Mem) : retV sh env μ = some (1, 0, env, μ) := rfl
theorem v_brk (k : Nat) (sh : Shp) (env : Ev) (μ : Mem) : brkS k sh env μ = some (k, 0, env, μ) := rfl
def q_sw (kb : Nat) (sel : Int → Nat) (cases : Nat → Sx) (sh : Shp) (env : Ev) (o : Option (Int × Mem)) : Option Rs := o.bind fun x => (cases (sel x.1) sh env x.2).bind fun r => if r.1 = kb then some (0, 0, r.2.2.1, r.2.2.2) else some r
def q_sw2 (kb : Nat) (o : Option Rs) : Option Rs := o.bind fun r => if r.1 = kb then some (0, 0, r.2.2.1, r.2.2.2) else some r
def q_sw1 (kb : Nat) (n : Nat) (cases : Nat → Sx) (sh : Shp) (env : Ev) (μ : Mem) : Option Rs := q_sw2 kb (cases n sh env μ)
theorem v_sws (kb : Nat) (e : Ex) (sel : Int → Nat) (cases : Nat → Sx) (sh : Shp) (env : Ev) (μ : Mem) : swS kb e sel cases sh env μ = q_sw kb sel cases sh env (e sh env μ) := rfl
theorem v_sw (kb : Nat) (sel : Int → Nat) (cases : Nat → Sx) (sh : Shp) (env : Ev) (x : Int) (μ : Mem) : q_sw kb sel cases sh env (some (x, μ)) = q_sw2 kb (cases (sel x) sh env μ) := rfl
theorem v_sw2 (kb k : Nat) (v : Int) (env : Ev) (μ : Mem) : q_sw2 kb (some (k, v, env, μ)) = if k = kb then some (0, 0, env, μ) else some (k, v, env, μ) := rfl
def q_rb (o : Option Rs) : Option (Int × Mem) := o.bind fun r => if r.1 = 1 then some (r.2.1, r.2.2.2) else none
theorem v_run (n : Nat) (b : Sx) (sh : Shp) (as : List Vl) (μ : Mem) : runB n b sh as μ = if (enA as).length ≤ n then q_rb (b sh (en n as) μ) else none := rfl
theorem v_rb (v : Int) (env : Ev) (μ : Mem) : q_rb (some (1, v, env, μ)) = some (v, μ) := rfl
/-! turns -/
def q_tu (kb kc : Nat) (o : Option (Bool × Mem)) (body upd : Sx) (sh : Shp) (env : Ev) : Option ((Ev × Mem) ⊕ Rs) := o.bind fun b => if b.1 then (body sh env b.2).bind fun r => if r.1 = 0 ∨ r.1 = kc then (upd sh r.2.2.1 r.2.2.2).bind fun q => if q.1 = 0 then some (.inl (q.2.2.1, q.2.2.2)) else none
      else if r.1 = kb then some (.inr (0, 0, r.2.2.1, r.2.2.2)) else some (.inr r)
    else some (.inr (0, 0, env, b.2))
def q_tu2 (kb kc : Nat) (o : Option Rs) (upd : Sx) (sh : Shp) : Option ((Ev × Mem) ⊕ Rs) := o.bind fun r => if r.1 = 0 ∨ r.1 = kc then (upd sh r.2.2.1 r.2.2.2).bind fun q => if q.1 = 0 then some (.inl (q.2.2.1, q.2.2.2)) else none
      else if r.1 = kb then some (.inr (0, 0, r.2.2.1, r.2.2.2)) else some (.inr r)
def q_tu3 (o : Option Rs) : Option ((Ev × Mem) ⊕ Rs) := o.bind fun q => if q.1 = 0 then some (.inl (q.2.2.1, q.2.2.2)) else none
theorem v_turn (kb kc : Nat) (c : Cn) (body upd : Sx) (sh : Shp) (env : Ev) (μ : Mem) : turnS kb kc c body upd sh env μ = q_tu kb kc (c sh env μ) body upd sh env := rfl
theorem v_tu1 (kb kc : Nat) (μ : Mem) (body upd : Sx) (sh : Shp) (env : Ev) : q_tu kb kc (some (true, μ)) body upd sh env = q_tu2 kb kc (body sh env μ) upd sh := rfl
theorem v_tu0 (kb kc : Nat) (μ : Mem) (body upd : Sx) (sh : Shp) (env : Ev) : q_tu kb kc (some (false, μ)) body upd sh env = some (.inr (0, 0, env, μ)) := rfl
theorem v_tu2 (kb kc k : Nat) (v : Int) (env : Ev) (μ : Mem) (upd : Sx) (sh : Shp) : q_tu2 kb kc (some (k, v, env, μ)) upd sh = if k = 0 ∨ k = kc then q_tu3 (upd sh env μ) else if k = kb then some (.inr (0, 0, env, μ)) else some (.inr (k, v, env, μ)) := rfl
theorem v_tu3 (v : Int) (env : Ev) (μ : Mem) : q_tu3 (some (0, v, env, μ)) = some (.inl (env, μ)) := rfl
