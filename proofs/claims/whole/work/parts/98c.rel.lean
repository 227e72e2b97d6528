/-! the relation -/
def FB (fl : Nat → Int) (n P M : Nat) : Prop := fl 0 = (P : Int) ∧ 1 ≤ P ∧ P ≤ 16 ∧ fl 1 = (n : Int) ∧ n ≤ 12 ∧ n ≤ P ∧ fl 2 = (M : Int) ∧ M ≤ 6 ∧ (∀ b, b < n → 0 ≤ fl (3 + 2 * b) ∧ fl (3 + 2 * b) ≤ 5) ∧ (∀ b, b < n → 0 ≤ fl (3 + 2 * b + 1) ∧ fl (3 + 2 * b + 1) ≤ 9) ∧ (∀ a b, a < 12 → b < 12 → 0 ≤ fl (27 + 12 * a + b) ∧ fl (27 + 12 * a + b) ≤ 99) ∧ (∀ a b, a < 12 → b < 12 → fl (27 + 12 * a + b) = fl (27 + 12 * b + a)) ∧ (∀ m, m < M → 0 ≤ fl (171 + 2 * m) ∧ fl (171 + 2 * m) ≤ 99) ∧ (∀ m, m < M → 1 ≤ fl (171 + 2 * m + 1) ∧ fl (171 + 2 * m + 1) ≤ 99)
theorem FB.P0 {fl : Nat → Int} {n P M : Nat} (z_ : FB fl n P M) : fl 0 = (P : Int) := z_.1
theorem FB.P1 {fl : Nat → Int} {n P M : Nat} (z_ : FB fl n P M) : 1 ≤ P := z_.2.1
theorem FB.P2 {fl : Nat → Int} {n P M : Nat} (z_ : FB fl n P M) : P ≤ 16 := z_.2.2.1
theorem FB.n0 {fl : Nat → Int} {n P M : Nat} (z_ : FB fl n P M) : fl 1 = (n : Int) := z_.2.2.2.1
theorem FB.n1 {fl : Nat → Int} {n P M : Nat} (z_ : FB fl n P M) : n ≤ 12 := z_.2.2.2.2.1
theorem FB.n2 {fl : Nat → Int} {n P M : Nat} (z_ : FB fl n P M) : n ≤ P := z_.2.2.2.2.2.1
theorem FB.M0 {fl : Nat → Int} {n P M : Nat} (z_ : FB fl n P M) : fl 2 = (M : Int) := z_.2.2.2.2.2.2.1
theorem FB.M1 {fl : Nat → Int} {n P M : Nat} (z_ : FB fl n P M) : M ≤ 6 := z_.2.2.2.2.2.2.2.1
theorem FB.ki {fl : Nat → Int} {n P M : Nat} (z_ : FB fl n P M) : ∀ b, b < n → 0 ≤ fl (3 + 2 * b) ∧ fl (3 + 2 * b) ≤ 5 := z_.2.2.2.2.2.2.2.2.1
theorem FB.to {fl : Nat → Int} {n P M : Nat} (z_ : FB fl n P M) : ∀ b, b < n → 0 ≤ fl (3 + 2 * b + 1) ∧ fl (3 + 2 * b + 1) ≤ 9 := z_.2.2.2.2.2.2.2.2.2.1
theorem FB.li {fl : Nat → Int} {n P M : Nat} (z_ : FB fl n P M) : ∀ a b, a < 12 → b < 12 → 0 ≤ fl (27 + 12 * a + b) ∧ fl (27 + 12 * a + b) ≤ 99 := z_.2.2.2.2.2.2.2.2.2.2.1
theorem FB.sy {fl : Nat → Int} {n P M : Nat} (z_ : FB fl n P M) : ∀ a b, a < 12 → b < 12 → fl (27 + 12 * a + b) = fl (27 + 12 * b + a) := z_.2.2.2.2.2.2.2.2.2.2.2.1
theorem FB.gr {fl : Nat → Int} {n P M : Nat} (z_ : FB fl n P M) : ∀ m, m < M → 0 ≤ fl (171 + 2 * m) ∧ fl (171 + 2 * m) ≤ 99 := z_.2.2.2.2.2.2.2.2.2.2.2.2.1
theorem FB.fa {fl : Nat → Int} {n P M : Nat} (z_ : FB fl n P M) : ∀ m, m < M → 1 ≤ fl (171 + 2 * m + 1) ∧ fl (171 + 2 * m + 1) ≤ 99 := z_.2.2.2.2.2.2.2.2.2.2.2.2.2
noncomputable def prS (fl : Nat → Int) (n : Nat) : Int := sumN (fun a => sumN (fun b => if 0 < fl (27 + 12 * a + b) then 1 else 0) a) n
def FR (μ : Mem) (h : Nat) (fl : Nat → Int) (n M : Nat) : Prop := μ h 0 = fl 0 ∧ μ h 1 = fl 1 ∧ μ h 2 = prS fl n ∧ μ h 3 = fl 2 ∧ (∀ b, b < n → μ (h + 1) b = fl (3 + 2 * b)) ∧ (∀ b, b < n → μ (h + 2) b = fl (3 + 2 * b + 1)) ∧ (∀ i, i < 144 → μ (h + 3) i = fl (27 + i)) ∧ (∀ m, m < M → μ (h + 4) m = fl (171 + 2 * m)) ∧ (∀ m, m < M → μ (h + 5) m = fl (171 + 2 * m + 1))
theorem FR.pl {μ : Mem} {h : Nat} {fl : Nat → Int} {n M : Nat} (z_ : FR μ h fl n M) : μ h 0 = fl 0 := z_.1
theorem FR.be {μ : Mem} {h : Nat} {fl : Nat → Int} {n M : Nat} (z_ : FR μ h fl n M) : μ h 1 = fl 1 := z_.2.1
theorem FR.pa {μ : Mem} {h : Nat} {fl : Nat → Int} {n M : Nat} (z_ : FR μ h fl n M) : μ h 2 = prS fl n := z_.2.2.1
theorem FR.me {μ : Mem} {h : Nat} {fl : Nat → Int} {n M : Nat} (z_ : FR μ h fl n M) : μ h 3 = fl 2 := z_.2.2.2.1
theorem FR.ki {μ : Mem} {h : Nat} {fl : Nat → Int} {n M : Nat} (z_ : FR μ h fl n M) : ∀ b, b < n → μ (h + 1) b = fl (3 + 2 * b) := z_.2.2.2.2.1
theorem FR.to {μ : Mem} {h : Nat} {fl : Nat → Int} {n M : Nat} (z_ : FR μ h fl n M) : ∀ b, b < n → μ (h + 2) b = fl (3 + 2 * b + 1) := z_.2.2.2.2.2.1
theorem FR.li {μ : Mem} {h : Nat} {fl : Nat → Int} {n M : Nat} (z_ : FR μ h fl n M) : ∀ i, i < 144 → μ (h + 3) i = fl (27 + i) := z_.2.2.2.2.2.2.1
theorem FR.gr {μ : Mem} {h : Nat} {fl : Nat → Int} {n M : Nat} (z_ : FR μ h fl n M) : ∀ m, m < M → μ (h + 4) m = fl (171 + 2 * m) := z_.2.2.2.2.2.2.2.1
theorem FR.fa {μ : Mem} {h : Nat} {fl : Nat → Int} {n M : Nat} (z_ : FR μ h fl n M) : ∀ m, m < M → μ (h + 5) m = fl (171 + 2 * m + 1) := z_.2.2.2.2.2.2.2.2
def tkI (o : Int) : Int := if o = 3 then 15 else if o = 4 then 43 else if o = 5 then 45 else if o = 6 then 42 else if o = 7 then 60 else if o = 8 then 61 else if o = 9 then 16 else 17
def lieW : List Int := [2, 13, 12, 18, 19, 20, 21, 22]
def strW : List Int := [2, 13, 12, 6, 7, 23]
def enI (W : List Int) (o a : Int) : Int := if o = 1 then a else if o = 2 then -1 - W.getD a.toNat 0 else -1 - tkI o
def inOK (W : List Int) (o a : Int) : Prop := 1 ≤ o ∧ o ≤ 10 ∧ (o = 1 → 0 ≤ a ∧ a ≤ 9999) ∧ (o = 2 → 0 ≤ a ∧ a < W.length)
def dpt (op : Nat → Int) (t : Nat) : Nat → Int
  | 0 => 0
  | i + 1 => dpt op t i + (if op (t + i) = 1 ∨ op (t + i) = 2 then 1 else if op (t + i) = 3 then 0 else -1)
def PG (W : List Int) (op arg : Nat → Int) (t n : Nat) : Prop := t + n < 1100 ∧ n ≤ 1000 ∧ (∀ i, i < n → inOK W (op (t + i)) (arg (t + i))) ∧ op (t + n) = 0 ∧ (∀ i, i < n → 0 ≤ dpt op t i ∧ (op (t + i) = 1 ∨ op (t + i) = 2 → dpt op t i < 32) ∧ (op (t + i) = 3 → 1 ≤ dpt op t i) ∧ (¬ (op (t + i) = 1 ∨ op (t + i) = 2) → op (t + i) ≠ 3 → 2 ≤ dpt op t i)) ∧ 1 ≤ dpt op t n
theorem PG.le {W : List Int} {op arg : Nat → Int} {t n : Nat} (z_ : PG W op arg t n) : t + n < 1100 := z_.1
theorem PG.n0 {W : List Int} {op arg : Nat → Int} {t n : Nat} (z_ : PG W op arg t n) : n ≤ 1000 := z_.2.1
theorem PG.ok {W : List Int} {op arg : Nat → Int} {t n : Nat} (z_ : PG W op arg t n) : ∀ i, i < n → inOK W (op (t + i)) (arg (t + i)) := z_.2.2.1
theorem PG.e0 {W : List Int} {op arg : Nat → Int} {t n : Nat} (z_ : PG W op arg t n) : op (t + n) = 0 := z_.2.2.2.1
theorem PG.up {W : List Int} {op arg : Nat → Int} {t n : Nat} (z_ : PG W op arg t n) : ∀ i, i < n → 0 ≤ dpt op t i ∧ (op (t + i) = 1 ∨ op (t + i) = 2 → dpt op t i < 32) ∧ (op (t + i) = 3 → 1 ≤ dpt op t i) ∧ (¬ (op (t + i) = 1 ∨ op (t + i) = 2) → op (t + i) ≠ 3 → 2 ≤ dpt op t i) := z_.2.2.2.2.1
theorem PG.d1 {W : List Int} {op arg : Nat → Int} {t n : Nat} (z_ : PG W op arg t n) : 1 ≤ dpt op t n := z_.2.2.2.2.2
def LW_ (μ : Mem) (c : Nat) (W : List Int) (D : Int) (op arg : Nat → Int) (s : Int) : Prop := (s = -1 ∧ μ c 2 = 1 ∧ μ (c + 1) 0 = D) ∨ ∃ t n : Nat, s = (t : Int) ∧ PG W op arg t n ∧ μ c 2 = (n : Int) ∧ ∀ i, i < n → μ (c + 1) i = enI W (op (t + i)) (arg (t + i))
def LR (μ : Mem) (k : Nat) (st : Nat → Int) : Prop := μ k 0 = st 0 ∧ μ k 1 = st 1 ∧ (∀ b, b < 12 → μ (k + 1) b = st (2 + b)) ∧ (∀ b, b < 12 → μ (k + 2) b = st (14 + b)) ∧ (∀ b, b < 12 → μ (k + 3) b = st (26 + b)) ∧ (∀ i, i < 144 → μ (k + 4) i = st (38 + i))
theorem LR.aw {μ : Mem} {k : Nat} {st : Nat → Int} (z_ : LR μ k st) : μ k 0 = st 0 := z_.1
theorem LR.ev {μ : Mem} {k : Nat} {st : Nat → Int} (z_ : LR μ k st) : μ k 1 = st 1 := z_.2.1
theorem LR.no {μ : Mem} {k : Nat} {st : Nat → Int} (z_ : LR μ k st) : ∀ b, b < 12 → μ (k + 1) b = st (2 + b) := z_.2.2.1
theorem LR.la {μ : Mem} {k : Nat} {st : Nat → Int} (z_ : LR μ k st) : ∀ b, b < 12 → μ (k + 2) b = st (14 + b) := z_.2.2.2.1
theorem LR.ln {μ : Mem} {k : Nat} {st : Nat → Int} (z_ : LR μ k st) : ∀ b, b < 12 → μ (k + 3) b = st (26 + b) := z_.2.2.2.2.1
theorem LR.bs {μ : Mem} {k : Nat} {st : Nat → Int} (z_ : LR μ k st) : ∀ i, i < 144 → μ (k + 4) i = st (38 + i) := z_.2.2.2.2.2
def GR (μ : Mem) (k : Nat) (st : Nat → Int) : Prop := μ k 0 = st 182 ∧ (∀ i : Nat, (i : Int) < st 182 → μ (k + 1) i = st (183 + 4 * i)) ∧ (∀ i : Nat, (i : Int) < st 182 → μ (k + 2) i = st (183 + 4 * i + 1)) ∧ (∀ i : Nat, (i : Int) < st 182 → μ (k + 3) i = st (183 + 4 * i + 2))
theorem GR.ma {μ : Mem} {k : Nat} {st : Nat → Int} (z_ : GR μ k st) : μ k 0 = st 182 := z_.1
theorem GR.ki {μ : Mem} {k : Nat} {st : Nat → Int} (z_ : GR μ k st) : ∀ i : Nat, (i : Int) < st 182 → μ (k + 1) i = st (183 + 4 * i) := z_.2.1
theorem GR.wh {μ : Mem} {k : Nat} {st : Nat → Int} (z_ : GR μ k st) : ∀ i : Nat, (i : Int) < st 182 → μ (k + 2) i = st (183 + 4 * i + 1) := z_.2.2.1
theorem GR.nu {μ : Mem} {k : Nat} {st : Nat → Int} (z_ : GR μ k st) : ∀ i : Nat, (i : Int) < st 182 → μ (k + 3) i = st (183 + 4 * i + 2) := z_.2.2.2
def SL (st : Nat → Int) (n P : Nat) : Prop := (∃ w : Nat, st 0 = (w : Int) ∧ w < 2 ^ n) ∧ (∀ b, b < 12 → -1 ≤ st (2 + b) ∧ st (2 + b) < P) ∧ (∀ b, n ≤ b → b < 12 → st (2 + b) = -1) ∧ (∀ a b, a < 12 → b < 12 → st (2 + a) = st (2 + b) → 0 ≤ st (2 + a) → a = b) ∧ (∀ b, b < 12 → -1 ≤ st (14 + b) ∧ st (14 + b) < P) ∧ (∀ b, n ≤ b → b < 12 → st (14 + b) = -1) ∧ (∀ a b, a < 12 → b < 12 → st (14 + a) = st (14 + b) → 0 ≤ st (14 + a) → a = b) ∧ (∀ i, i < 182 → -2147483648 ≤ st i ∧ st i < 2147483648)
theorem SL.aw {st : Nat → Int} {n P : Nat} (z_ : SL st n P) : ∃ w : Nat, st 0 = (w : Int) ∧ w < 2 ^ n := z_.1
theorem SL.no {st : Nat → Int} {n P : Nat} (z_ : SL st n P) : ∀ b, b < 12 → -1 ≤ st (2 + b) ∧ st (2 + b) < P := z_.2.1
theorem SL.nn {st : Nat → Int} {n P : Nat} (z_ : SL st n P) : ∀ b, n ≤ b → b < 12 → st (2 + b) = -1 := z_.2.2.1
theorem SL.ni {st : Nat → Int} {n P : Nat} (z_ : SL st n P) : ∀ a b, a < 12 → b < 12 → st (2 + a) = st (2 + b) → 0 ≤ st (2 + a) → a = b := z_.2.2.2.1
theorem SL.la {st : Nat → Int} {n P : Nat} (z_ : SL st n P) : ∀ b, b < 12 → -1 ≤ st (14 + b) ∧ st (14 + b) < P := z_.2.2.2.2.1
theorem SL.ll {st : Nat → Int} {n P : Nat} (z_ : SL st n P) : ∀ b, n ≤ b → b < 12 → st (14 + b) = -1 := z_.2.2.2.2.2.1
theorem SL.li {st : Nat → Int} {n P : Nat} (z_ : SL st n P) : ∀ a b, a < 12 → b < 12 → st (14 + a) = st (14 + b) → 0 ≤ st (14 + a) → a = b := z_.2.2.2.2.2.2.1
theorem SL.rn {st : Nat → Int} {n P : Nat} (z_ : SL st n P) : ∀ i, i < 182 → -2147483648 ≤ st i ∧ st i < 2147483648 := z_.2.2.2.2.2.2.2
def SG (st : Nat → Int) (n P : Nat) : Prop := 0 ≤ st 182 ∧ st 182 ≤ 24 ∧ (∀ i : Nat, (i : Int) < st 182 → 0 ≤ st (183 + 4 * i) ∧ st (183 + 4 * i) ≤ 4) ∧ (∀ i : Nat, (i : Int) < st 182 → 0 ≤ st (183 + 4 * i + 1) ∧ st (183 + 4 * i + 1) < 16) ∧ (∀ i : Nat, (i : Int) < st 182 → 0 ≤ st (183 + 4 * i + 2) ∧ st (183 + 4 * i + 2) ≤ 99) ∧ (∀ i : Nat, (i : Int) < st 182 → 3 ≤ st (183 + 4 * i) → ∃ b : Nat, b < n ∧ st (183 + 4 * i + 1) = (b : Int) ∧ 0 ≤ st (14 + b))
theorem SG.f0 {st : Nat → Int} {n P : Nat} (z_ : SG st n P) : 0 ≤ st 182 := z_.1
theorem SG.f1 {st : Nat → Int} {n P : Nat} (z_ : SG st n P) : st 182 ≤ 24 := z_.2.1
theorem SG.ki {st : Nat → Int} {n P : Nat} (z_ : SG st n P) : ∀ i : Nat, (i : Int) < st 182 → 0 ≤ st (183 + 4 * i) ∧ st (183 + 4 * i) ≤ 4 := z_.2.2.1
theorem SG.wh {st : Nat → Int} {n P : Nat} (z_ : SG st n P) : ∀ i : Nat, (i : Int) < st 182 → 0 ≤ st (183 + 4 * i + 1) ∧ st (183 + 4 * i + 1) < 16 := z_.2.2.2.1
theorem SG.nu {st : Nat → Int} {n P : Nat} (z_ : SG st n P) : ∀ i : Nat, (i : Int) < st 182 → 0 ≤ st (183 + 4 * i + 2) ∧ st (183 + 4 * i + 2) ≤ 99 := z_.2.2.2.2.1
theorem SG.un {st : Nat → Int} {n P : Nat} (z_ : SG st n P) : ∀ i : Nat, (i : Int) < st 182 → 3 ≤ st (183 + 4 * i) → ∃ b : Nat, b < n ∧ st (183 + 4 * i + 1) = (b : Int) ∧ 0 ≤ st (14 + b) := z_.2.2.2.2.2
def slt (μ : Mem) (s : Nat) : Nat → Int := fun i => μ 15 (290 * s + i)
def TR (μC μM : Mem) : Prop := μC 1 1 = μM 0 2 ∧ 0 ≤ μM 0 2 ∧ μM 0 2 ≤ 1000 ∧ (∀ i : Nat, (i : Int) < μM 0 2 → μC 2 i = μM 1 i) ∧ (∀ i : Nat, (i : Int) < μM 0 2 → μM 1 i = 10 ∨ 32 ≤ μM 1 i ∧ μM 1 i ≤ 126)
theorem TR.le {μC μM : Mem} (z_ : TR μC μM) : μC 1 1 = μM 0 2 := z_.1
theorem TR.l0 {μC μM : Mem} (z_ : TR μC μM) : 0 ≤ μM 0 2 := z_.2.1
theorem TR.l1 {μC μM : Mem} (z_ : TR μC μM) : μM 0 2 ≤ 1000 := z_.2.2.1
theorem TR.si {μC μM : Mem} (z_ : TR μC μM) : ∀ i : Nat, (i : Int) < μM 0 2 → μC 2 i = μM 1 i := z_.2.2.2.1
theorem TR.rg {μC μM : Mem} (z_ : TR μC μM) : ∀ i : Nat, (i : Int) < μM 0 2 → μM 1 i = 10 ∨ 32 ≤ μM 1 i ∧ μM 1 i ≤ 126 := z_.2.2.2.2
def PR (μC μM : Mem) (n P : Nat) : Prop := μC 44 1 = μM 0 24 ∧ 0 ≤ μM 0 24 ∧ μM 0 24 ≤ 12 ∧ 0 ≤ μC 44 2 ∧ μC 44 2 < 12 ∧ (∀ j : Nat, (j : Int) < μM 0 24 → LR μC (46 + 5 * (((μC 44 2).toNat + 12 - j) % 12)) (slt μM (5 + ((μM 0 24).toNat - 1 - j))) ∧ SL (slt μM (5 + ((μM 0 24).toNat - 1 - j))) n P)
theorem PR.ma {μC μM : Mem} {n P : Nat} (z_ : PR μC μM n P) : μC 44 1 = μM 0 24 := z_.1
theorem PR.u0 {μC μM : Mem} {n P : Nat} (z_ : PR μC μM n P) : 0 ≤ μM 0 24 := z_.2.1
theorem PR.u1 {μC μM : Mem} {n P : Nat} (z_ : PR μC μM n P) : μM 0 24 ≤ 12 := z_.2.2.1
theorem PR.w0 {μC μM : Mem} {n P : Nat} (z_ : PR μC μM n P) : 0 ≤ μC 44 2 := z_.2.2.2.1
theorem PR.w1 {μC μM : Mem} {n P : Nat} (z_ : PR μC μM n P) : μC 44 2 < 12 := z_.2.2.2.2.1
theorem PR.ke {μC μM : Mem} {n P : Nat} (z_ : PR μC μM n P) : ∀ j : Nat, (j : Int) < μM 0 24 → LR μC (46 + 5 * (((μC 44 2).toNat + 12 - j) % 12)) (slt μM (5 + ((μM 0 24).toNat - 1 - j))) ∧ SL (slt μM (5 + ((μM 0 24).toNat - 1 - j))) n P := z_.2.2.2.2.2
def MR (μC μM : Mem) (n P : Nat) : Prop := (∃ L : Nat, L < 16 ∧ μC 0 14 = (L : Int) ∧ ∀ m, m < 4 → μM 16 m = if L.testBit m then 1 else 0) ∧ (∀ m, m < 4 → μM 16 m = 1 → LR μC (123 + 9 * m) (slt μM (1 + m)) ∧ GR μC (128 + 9 * m) (slt μM (1 + m)) ∧ SL (slt μM (1 + m)) n P ∧ SG (slt μM (1 + m)) n P)
theorem MR.la {μC μM : Mem} {n P : Nat} (z_ : MR μC μM n P) : ∃ L : Nat, L < 16 ∧ μC 0 14 = (L : Int) ∧ ∀ m, m < 4 → μM 16 m = if L.testBit m then 1 else 0 := z_.1
theorem MR.ke {μC μM : Mem} {n P : Nat} (z_ : MR μC μM n P) : ∀ m, m < 4 → μM 16 m = 1 → LR μC (123 + 9 * m) (slt μM (1 + m)) ∧ GR μC (128 + 9 * m) (slt μM (1 + m)) ∧ SL (slt μM (1 + m)) n P ∧ SG (slt μM (1 + m)) n P := z_.2
def R0 (μC μM : Mem) (h d n P M : Nat) : Prop := PC μC ∧ HD μC h d ∧ PM μM ∧ μM 0 0 = 0 ∧ FB (μM 6) n P M ∧ FR μC h (μM 6) n M ∧ LW_ μC (h + 6) lieW (-19) (μM 7) (μM 8) (μM 6 183) ∧ LW_ μC (h + 9) strW (-7) (μM 7) (μM 8) (μM 6 184) ∧ TR μC μM ∧ LR μC 30 (μM 15) ∧ GR μC 40 (μM 15) ∧ SL (μM 15) n P ∧ SG (μM 15) n P ∧ PR μC μM n P ∧ MR μC μM n P
theorem R0.pc {μC μM : Mem} {h d n P M : Nat} (z_ : R0 μC μM h d n P M) : PC μC := z_.1
theorem R0.hd {μC μM : Mem} {h d n P M : Nat} (z_ : R0 μC μM h d n P M) : HD μC h d := z_.2.1
theorem R0.pm {μC μM : Mem} {h d n P M : Nat} (z_ : R0 μC μM h d n P M) : PM μM := z_.2.2.1
theorem R0.th {μC μM : Mem} {h d n P M : Nat} (z_ : R0 μC μM h d n P M) : μM 0 0 = 0 := z_.2.2.2.1
theorem R0.fb {μC μM : Mem} {h d n P M : Nat} (z_ : R0 μC μM h d n P M) : FB (μM 6) n P M := z_.2.2.2.2.1
theorem R0.fr {μC μM : Mem} {h d n P M : Nat} (z_ : R0 μC μM h d n P M) : FR μC h (μM 6) n M := z_.2.2.2.2.2.1
theorem R0.lw {μC μM : Mem} {h d n P M : Nat} (z_ : R0 μC μM h d n P M) : LW_ μC (h + 6) lieW (-19) (μM 7) (μM 8) (μM 6 183) := z_.2.2.2.2.2.2.1
theorem R0.sw {μC μM : Mem} {h d n P M : Nat} (z_ : R0 μC μM h d n P M) : LW_ μC (h + 9) strW (-7) (μM 7) (μM 8) (μM 6 184) := z_.2.2.2.2.2.2.2.1
theorem R0.tr {μC μM : Mem} {h d n P M : Nat} (z_ : R0 μC μM h d n P M) : TR μC μM := z_.2.2.2.2.2.2.2.2.1
theorem R0.lr {μC μM : Mem} {h d n P M : Nat} (z_ : R0 μC μM h d n P M) : LR μC 30 (μM 15) := z_.2.2.2.2.2.2.2.2.2.1
theorem R0.gr {μC μM : Mem} {h d n P M : Nat} (z_ : R0 μC μM h d n P M) : GR μC 40 (μM 15) := z_.2.2.2.2.2.2.2.2.2.2.1
theorem R0.sl {μC μM : Mem} {h d n P M : Nat} (z_ : R0 μC μM h d n P M) : SL (μM 15) n P := z_.2.2.2.2.2.2.2.2.2.2.2.1
theorem R0.sg {μC μM : Mem} {h d n P M : Nat} (z_ : R0 μC μM h d n P M) : SG (μM 15) n P := z_.2.2.2.2.2.2.2.2.2.2.2.2.1
theorem R0.pr {μC μM : Mem} {h d n P M : Nat} (z_ : R0 μC μM h d n P M) : PR μC μM n P := z_.2.2.2.2.2.2.2.2.2.2.2.2.2.1
theorem R0.mr {μC μM : Mem} {h d n P M : Nat} (z_ : R0 μC μM h d n P M) : MR μC μM n P := z_.2.2.2.2.2.2.2.2.2.2.2.2.2.2
def RR (μC μM : Mem) : Prop := ∃ h d n P M : Nat, R0 μC μM h d n P M
