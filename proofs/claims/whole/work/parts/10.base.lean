/-! the pure picture: a memory of ints by cell and slot, a fixed list of shapes, addresses -/
def tbl : List Cond := lw_tbl.filter goodWord
theorem tb_in {ws : List Cond} (h : ∀ w ∈ ws, w ∈ tbl) : GoodIn tbl ws := fun w hw => ⟨h w hw, good_of_word (List.mem_filter.mp (h w hw)).2⟩
theorem tb_of {w : Cond} (h : w ∈ lw_tbl) (g : goodWord w = true) : w ∈ tbl := List.mem_filter.mpr ⟨h, g⟩
abbrev Mem : Type := Nat → Nat → Int
abbrev Shp : Type := List (Nat × Nat)
abbrev Adr : Type := List (Nat × ClassId)
abbrev Vl : Type := Nat × Int
abbrev Ev : Type := List (Nat × Int)
/-- types of the fields of the classes: 0 int (boolean), 1 long, 2 reference -/
def ftab : List (List Nat) := [[2,2,2], [0,0,0,0,2,2,2,2,2,2,2], [0,2,2,2], [0,0,0,0,0,2,2,2], [2,2,0,0], [0,2,2], [0,0,2,2,2,2], [2,0,0], [2,2,2,2,2,0,0], [2,2,2,0], [2,0,0,0,0,1,0], [2,2,2,2,2,2,2,2,2,2,2,2,2,2,0], [0,2,0,0,2,2,2,0,0,2,2,2,2,0,0,2,2,0,0,2,2,2,2,2,0,2,2,2,0,2,2,2,0]]
def ad1 (ad : Adr) (k : Nat) : Nat := (ad.getD k (0, 0)).1
def ad2 (ad : Adr) (k : Nat) : ClassId := (ad.getD k (0, 0)).2
def vv (ad : Adr) (t : Nat) (v : Int) : Value := match t with
  | 0 => .int (Int32.ofInt v)
  | 1 => .long (Int64.ofInt v)
  | _ => if v < 0 then .null else .ref (ad1 ad v.toNat)
/-- the kind of an array's elements, by the shape's number -/
def aty (k : Nat) : FieldType := match k with
  | 100 => .int
  | 101 => .long
  | 102 => .char
  | 103 => .byte
  | 104 => .boolean
  | n => .object ((vwCl.getD (n - 110) ("", TX0, 0)).1)
/-- the type of a slot -/
def sty (q : Nat × Nat) (j : Nat) : Nat := if q.1 < 100 then (ftab.getD q.1 []).getD j 0 else if q.1 = 101 then 1 else if q.1 < 110 then 0 else 2
def cE (ad : Adr) (k : Nat) (q : Nat × Nat) (f : Nat → Int) : va_E :=
  if q.1 < 100 then .inr (q.1, (ftab.getD q.1 []).mapIdx (fun j t => vv ad t (f j)))
  else if q.1 = 101 then .inl (ad2 ad k, q.2, .inr (.inl (fun j => Int64.ofInt (f j))))
  else if q.1 < 110 then .inl (ad2 ad k, q.2, .inl (fun j => Int32.ofInt (f j)))
  else .inl (ad2 ad k, q.2, .inr (.inr (.inr (.inr (fun j => if f j < 0 then none else some (ad1 ad (f j).toNat))))))
def wsO (ad : Adr) (sh : Shp) (μ : Mem) : va_W := sh.mapIdx (fun k q => (ad1 ad k, cE ad k q (μ k)))
def rg (n t : Nat) (v : Int) : Prop := match t with
  | 0 => -2147483648 ≤ v ∧ v < 2147483648
  | 1 => -9223372036854775808 ≤ v ∧ v < 9223372036854775808
  | _ => -1 ≤ v ∧ v < n
def mok (sh : Shp) (μ : Mem) : Prop := ∀ k q, sh[k]? = some q → ∀ j, rg sh.length (sty q j) (μ k j)
def ud (μ : Mem) (k j : Nat) (v : Int) : Mem := fun a b => if a = k ∧ b = j then v else μ a b
theorem wsO_at {ad : Adr} {sh : Shp} {μ : Mem} {k : Nat} {q : Nat × Nat} (h : sh[k]? = some q) : (wsO ad sh μ)[k]? = some (ad1 ad k, cE ad k q (μ k)) := by
  unfold wsO
  rw [List.getElem?_mapIdx, h]
  rfl
theorem wsO_set {ad : Adr} {sh : Shp} {μ : Mem} {k : Nat} {q : Nat × Nat} (h : sh[k]? = some q) (j : Nat) (v : Int) {E : va_E} (hE : E = cE ad k q (ud μ k j v k)) : (wsO ad sh μ).set k (ad1 ad k, E) = wsO ad sh (ud μ k j v) := by
  have hl := (List.getElem?_eq_some_iff.mp h).1
  apply List.ext_getElem?
  intro i
  by_cases hi : i = k
  · subst hi
    rw [List.getElem?_set_self (by unfold wsO; rw [List.length_mapIdx]; exact hl), wsO_at h, hE]
  · rw [List.getElem?_set_ne (Ne.symm hi)]
    unfold wsO
    rw [List.getElem?_mapIdx, List.getElem?_mapIdx]
    have : ud μ k j v i = μ i := by
      funext b
      unfold ud
      rw [if_neg (fun z => hi z.1)]
    rw [this]
theorem ud_k (μ : Mem) (k j : Nat) (v : Int) : ud μ k j v k = fun b => if b = j then v else μ k b := by
  funext b
  unfold ud
  simp
theorem mok_ud {sh : Shp} {μ : Mem} (h : mok sh μ) {k j : Nat} {v : Int} (hv : ∀ q, sh[k]? = some q → rg sh.length (sty q j) v) : mok sh (ud μ k j v) := by
  intro a q hq b
  unfold ud
  by_cases hab : a = k ∧ b = j
  · rw [if_pos hab]
    obtain ⟨rfl, rfl⟩ := hab
    exact hv q hq
  · rw [if_neg hab]
    exact h a q hq b
/-- a value that no computation opens -/
noncomputable def opq {α : Type} (x : α) : α := Classical.choose (⟨x, rfl⟩ : ∃ y, y = x)
theorem opq_eq {α : Type} (x : α) : opq x = x := Classical.choose_spec (⟨x, rfl⟩ : ∃ y, y = x)
noncomputable def w32 (v : Int) : Int := opq ((v + 2147483648) % 4294967296 - 2147483648)
noncomputable def w64 (v : Int) : Int := opq ((v + 9223372036854775808) % 18446744073709551616 - 9223372036854775808)
theorem w32_rg (v : Int) (n : Nat) : rg n 0 (w32 v) := by
  show -2147483648 ≤ w32 v ∧ w32 v < 2147483648
  unfold w32
  simp only [opq_eq]
  omega
theorem w64_rg (v : Int) (n : Nat) : rg n 1 (w64 v) := by
  show -9223372036854775808 ≤ w64 v ∧ w64 v < 9223372036854775808
  unfold w64
  simp only [opq_eq]
  omega
theorem w32_id {v : Int} (h : -2147483648 ≤ v ∧ v < 2147483648) : w32 v = v := by
  unfold w32
  rw [opq_eq]
  omega
theorem w64_id {v : Int} (h : -9223372036854775808 ≤ v ∧ v < 9223372036854775808) : w64 v = v := by
  unfold w64
  rw [opq_eq]
  omega
theorem bm32 (v : Int) : v.bmod (2 ^ 32) = w32 v := by
  unfold w32
  rw [opq_eq]
  rw [Int.bmod_def]
  omega
theorem bm64 (v : Int) : v.bmod (2 ^ 64) = w64 v := by
  unfold w64
  rw [opq_eq]
  rw [Int.bmod_def]
  omega
theorem i32_to (v : Int) : (Int32.ofInt v).toInt = w32 v := by
  rw [Int32.toInt_ofInt]
  exact bm32 v
theorem i64_to (v : Int) : (Int64.ofInt v).toInt = w64 v := by
  rw [Int64.toInt_ofInt]
  exact bm64 v
theorem i32_of {a : Int32} {v : Int} (h : a.toInt = v) : a = Int32.ofInt v := by rw [← h, Int32.ofInt_toInt]
theorem i64_of {a : Int64} {v : Int} (h : a.toInt = v) : a = Int64.ofInt v := by rw [← h, Int64.ofInt_toInt]
theorem i32_w (v : Int) : Int32.ofInt (w32 v) = Int32.ofInt v := (i32_of (i32_to v)).symm
theorem i64_w (v : Int) : Int64.ofInt (w64 v) = Int64.ofInt v := (i64_of (i64_to v)).symm
theorem i32_rgto {n : Nat} {v : Int} (h : rg n 0 v) : (Int32.ofInt v).toInt = v := by rw [i32_to]; exact w32_id h
theorem i64_rgto {n : Nat} {v : Int} (h : rg n 1 v) : (Int64.ofInt v).toInt = v := by rw [i64_to]; exact w64_id h
theorem i32_rg (a : Int32) (n : Nat) : rg n 0 a.toInt := by
  have h1 := Int32.le_toInt a
  have h2 := Int32.toInt_lt a
  exact ⟨h1, h2⟩
theorem i64_rg (a : Int64) (n : Nat) : rg n 1 a.toInt := by
  have h1 := Int64.le_toInt a
  have h2 := Int64.toInt_lt a
  exact ⟨h1, h2⟩
theorem rgo32 (a : Int32) (n : Nat) : rg n 0 (opq a.toInt) := by
  rw [opq_eq]
  exact i32_rg a n
theorem rgo64 (a : Int64) (n : Nat) : rg n 1 (opq a.toInt) := by
  rw [opq_eq]
  exact i64_rg a n
theorem i32_add (a b : Int) : Int32.ofInt a + Int32.ofInt b = Int32.ofInt (w32 (a + b)) := by rw [i32_w, Int32.ofInt_add]
theorem i32_sub (a b : Int) : Int32.ofInt a - Int32.ofInt b = Int32.ofInt (w32 (a - b)) := by rw [i32_w, Int32.ofInt_sub]
theorem i32_mul (a b : Int) : Int32.ofInt a * Int32.ofInt b = Int32.ofInt (w32 (a * b)) := by rw [i32_w, Int32.ofInt_mul]
theorem i64_add (a b : Int) : Int64.ofInt a + Int64.ofInt b = Int64.ofInt (w64 (a + b)) := by rw [i64_w, Int64.ofInt_add]
theorem i64_sub (a b : Int) : Int64.ofInt a - Int64.ofInt b = Int64.ofInt (w64 (a - b)) := by rw [i64_w, Int64.ofInt_sub]
theorem i64_mul (a b : Int) : Int64.ofInt a * Int64.ofInt b = Int64.ofInt (w64 (a * b)) := by rw [i64_w, Int64.ofInt_mul]
/-! the class's two String constants, and what of the JDK's statics their methods read -/
def skT0 : String := "field   beast   tone    like    lie     meadow  grass   far     stray   ewe     leader  twin    blind   lame    foreign not     and     or      liking  place   room    old     edge    friends "
def skT1 : String := "()<=+-*;"
def skL : List Nat := [192, 8]
def skB : List (List Int32) := [[102, 105, 101, 108, 100, 32, 32, 32, 98, 101, 97, 115, 116, 32, 32, 32, 116, 111, 110, 101, 32, 32, 32, 32, 108, 105, 107, 101, 32, 32, 32, 32, 108, 105, 101, 32, 32, 32, 32, 32, 109, 101, 97, 100, 111, 119, 32, 32, 103, 114, 97, 115, 115, 32, 32, 32, 102, 97, 114, 32, 32, 32, 32, 32, 115, 116, 114, 97, 121, 32, 32, 32, 101, 119, 101, 32, 32, 32, 32, 32, 108, 101, 97, 100, 101, 114, 32, 32, 116, 119, 105, 110, 32, 32, 32, 32, 98, 108, 105, 110, 100, 32, 32, 32, 108, 97, 109, 101, 32, 32, 32, 32, 102, 111, 114, 101, 105, 103, 110, 32, 110, 111, 116, 32, 32, 32, 32, 32, 97, 110, 100, 32, 32, 32, 32, 32, 111, 114, 32, 32, 32, 32, 32, 32, 108, 105, 107, 105, 110, 103, 32, 32, 112, 108, 97, 99, 101, 32, 32, 32, 114, 111, 111, 109, 32, 32, 32, 32, 111, 108, 100, 32, 32, 32, 32, 32, 101, 100, 103, 101, 32, 32, 32, 32, 102, 114, 105, 101, 110, 100, 115, 32], [40, 41, 60, 61, 43, 45, 42, 59]]
def SKx (A : Nat → Prop) (U : State) (H : Heap) : Prop := ∃ adK adV : Nat → Nat, vk_S 2 skL skB adK adV A U H ∧ vk_R RX10 53 skT0 (adK 0) U ∧ vk_R RX10 67 skT1 (adK 1) U ∧ va_Z "java/lang/String" "COMPACT_STRINGS" "Z" (.int 1) A U H ∧ va_Zq "jdk/internal/util/Preconditions" "SIOOBE_FORMATTER" "Ljava/util/function/BiFunction;" A U H
theorem SKx.to {A : Nat → Prop} {s U : State} {H H1 : Heap} (hW : s.WarmedH U.vm) (h : SKx A s H) (hq : ∀ a : Nat, a < H.size → ¬ A a → H1[a]? = H[a]?) : SKx A U H1 := by
  obtain ⟨adK, adV, h1, h2, h3, h4, h5⟩ := h
  exact ⟨adK, adV, (h1.moved hW.alike).kept hq, h2.warm hW, h3.warm hW, (h4.moved hW.alike).kept hq, (h5.moved hW.alike).kept hq⟩
theorem SKx.calling {A : Nat → Prop} {U : State} {H : Heap} {g : JFrame} {mk : MethodId} {a : Array Value} (h : SKx A U H) : SKx A (U.calling g mk a) H := by
  obtain ⟨adK, adV, h1, h2, h3, h4, h5⟩ := h
  have hv : U.vm.Alike (U.calling g mk a).vm := Vm.Alike.refl U.vm
  exact ⟨adK, adV, h1.moved hv, vk_R.same rfl h2, vk_R.same rfl h3, h4.moved hv, h5.moved hv⟩
theorem SKx.narrow {A B : Nat → Prop} {U : State} {H : Heap} (h : SKx A U H) (hAB : ∀ q, B q → A q) : SKx B U H := by
  obtain ⟨adK, adV, h1, h2, h3, h4, h5⟩ := h
  exact ⟨adK, adV, h1.narrow hAB, h2, h3, h4.narrow hAB, h5.narrow hAB⟩
