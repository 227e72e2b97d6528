/-! evaluation of copies -/
def q_c1 (o : Option (Int × Mem)) (sp b dp n : Ex) (sh : Shp) (env : Ev) : Option Rs := o.bind fun xa => (sp sh env xa.2).bind fun xs => (b sh env xs.2).bind fun xb => (dp sh env xb.2).bind fun xd => (n sh env xd.2).bind fun xn => match sh[xa.1.toNat]?, sh[xb.1.toNat]? with
  | some q0, some q1 => if q0.1 = 100 ∧ q1.1 = 100 ∧ 0 ≤ xs.1 ∧ 0 ≤ xd.1 ∧ 0 ≤ xn.1 ∧ xs.1 + xn.1 ≤ q0.2 ∧ xd.1 + xn.1 ≤ q1.2 then some (0, 0, env, cpyM xn.2 xa.1.toNat xs.1.toNat xb.1.toNat xd.1.toNat xn.1.toNat) else none
  | _, _ => none
def q_c2 (xa : Int) (o : Option (Int × Mem)) (b dp n : Ex) (sh : Shp) (env : Ev) : Option Rs := o.bind fun xs => (b sh env xs.2).bind fun xb => (dp sh env xb.2).bind fun xd => (n sh env xd.2).bind fun xn => match sh[xa.toNat]?, sh[xb.1.toNat]? with
  | some q0, some q1 => if q0.1 = 100 ∧ q1.1 = 100 ∧ 0 ≤ xs.1 ∧ 0 ≤ xd.1 ∧ 0 ≤ xn.1 ∧ xs.1 + xn.1 ≤ q0.2 ∧ xd.1 + xn.1 ≤ q1.2 then some (0, 0, env, cpyM xn.2 xa.toNat xs.1.toNat xb.1.toNat xd.1.toNat xn.1.toNat) else none
  | _, _ => none
def q_c3 (xa xs : Int) (o : Option (Int × Mem)) (dp n : Ex) (sh : Shp) (env : Ev) : Option Rs := o.bind fun xb => (dp sh env xb.2).bind fun xd => (n sh env xd.2).bind fun xn => match sh[xa.toNat]?, sh[xb.1.toNat]? with
  | some q0, some q1 => if q0.1 = 100 ∧ q1.1 = 100 ∧ 0 ≤ xs ∧ 0 ≤ xd.1 ∧ 0 ≤ xn.1 ∧ xs + xn.1 ≤ q0.2 ∧ xd.1 + xn.1 ≤ q1.2 then some (0, 0, env, cpyM xn.2 xa.toNat xs.toNat xb.1.toNat xd.1.toNat xn.1.toNat) else none
  | _, _ => none
def q_c4 (xa xs xb : Int) (o : Option (Int × Mem)) (n : Ex) (sh : Shp) (env : Ev) : Option Rs := o.bind fun xd => (n sh env xd.2).bind fun xn => match sh[xa.toNat]?, sh[xb.toNat]? with
  | some q0, some q1 => if q0.1 = 100 ∧ q1.1 = 100 ∧ 0 ≤ xs ∧ 0 ≤ xd.1 ∧ 0 ≤ xn.1 ∧ xs + xn.1 ≤ q0.2 ∧ xd.1 + xn.1 ≤ q1.2 then some (0, 0, env, cpyM xn.2 xa.toNat xs.toNat xb.toNat xd.1.toNat xn.1.toNat) else none
  | _, _ => none
def q_c5 (xa xs xb xd : Int) (o : Option (Int × Mem)) (sh : Shp) (env : Ev) : Option Rs := o.bind fun xn => match sh[xa.toNat]?, sh[xb.toNat]? with
  | some q0, some q1 => if q0.1 = 100 ∧ q1.1 = 100 ∧ 0 ≤ xs ∧ 0 ≤ xd ∧ 0 ≤ xn.1 ∧ xs + xn.1 ≤ q0.2 ∧ xd + xn.1 ≤ q1.2 then some (0, 0, env, cpyM xn.2 xa.toNat xs.toNat xb.toNat xd.toNat xn.1.toNat) else none
  | _, _ => none
theorem v_cop (a sp b dp n : Ex) (sh : Shp) (env : Ev) (μ : Mem) : copyS a sp b dp n sh env μ = q_c1 (a sh env μ) sp b dp n sh env := rfl
theorem v_c1 (x : Int) (μ : Mem) (sp b dp n : Ex) (sh : Shp) (env : Ev) : q_c1 (some (x, μ)) sp b dp n sh env = q_c2 x (sp sh env μ) b dp n sh env := rfl
theorem v_c2 (xa x : Int) (μ : Mem) (b dp n : Ex) (sh : Shp) (env : Ev) : q_c2 xa (some (x, μ)) b dp n sh env = q_c3 xa x (b sh env μ) dp n sh env := rfl
theorem v_c3 (xa xs x : Int) (μ : Mem) (dp n : Ex) (sh : Shp) (env : Ev) : q_c3 xa xs (some (x, μ)) dp n sh env = q_c4 xa xs x (dp sh env μ) n sh env := rfl
theorem v_c4 (xa xs xb x : Int) (μ : Mem) (n : Ex) (sh : Shp) (env : Ev) : q_c4 xa xs xb (some (x, μ)) n sh env = q_c5 xa xs xb x (n sh env μ) sh env := rfl
theorem v_c5 (xa xs xb xd x : Int) (μ : Mem) (sh : Shp) (env : Ev) : q_c5 xa xs xb xd (some (x, μ)) sh env = if fst1 sh xa.toNat = some 100 ∧ fst1 sh xb.toNat = some 100 ∧ 0 ≤ xs ∧ 0 ≤ xd ∧ 0 ≤ x ∧ xs + x ≤ (snd1 sh xa.toNat : Int) ∧ xd + x ≤ (snd1 sh xb.toNat : Int) then some (0, 0, env, cpyM μ xa.toNat xs.toNat xb.toNat xd.toNat x.toNat) else none := by
  unfold q_c5 fst1 snd1
  simp only [Option.bind_some]
  cases h : sh[xa.toNat]? with
  | none => simp
  | some q =>
    cases h2 : sh[xb.toNat]? with
    | none => simp
    | some q => simp
