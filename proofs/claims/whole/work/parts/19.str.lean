/-! the String constants: length, charAt, indexOf -/
def strChE (k : Nat) (a : Ex) : Ex := fun sh env μ => (a sh env μ).bind fun x => if 0 ≤ x.1 ∧ x.1 < (skL.getD k 0 : Nat) then some (((skB.getD k []).getD x.1.toNat 0).toInt, x.2) else none
def ixOf (c : Int) : List Int32 → Int → Int
  | [], _ => -1
  | b :: r, i => if b.toInt = c then i else ixOf c r (i + 1)
def strIxE (k : Nat) (a : Ex) : Ex := fun sh env μ => (a sh env μ).bind fun x => if 0 ≤ x.1 ∧ x.1 < 128 then some (ixOf x.1 (skB.getD k []) 0, x.2) else none
section SG
variable {M : Md} {Γ : Cx} {pc p1 w : Nat}
theorem E_strlen0 (ho : M.2.1 = RX10) {i : Nat} (hd : decode M.1 pc = .ok (.ldc 60, 2)) (hd2 : decode M.1 (pc + 2) = .ok (.invokevirtual i, 3)) (hdep : 6 ≤ M.2.2.1) (hw8 : w ≤ 8) : EO M Γ w pc (pc + 5) 0 (numE 192) := sorry
theorem E_strch0 (ho : M.2.1 = RX10) {i : Nat} {a : Ex} (hd : decode M.1 pc = .ok (.ldc 60, 2)) (ha : EO M Γ (w + 1) (pc + 2) p1 0 a) (hd2 : decode M.1 p1 = .ok (.invokevirtual i, 3)) (hdep : 6 ≤ M.2.2.1) (hw8 : w ≤ 8) : EO M Γ w pc (p1 + 3) 0 (strChE 0 a) := sorry
theorem E_strix1 (ho : M.2.1 = RX10) {i : Nat} {a : Ex} (hd : decode M.1 pc = .ok (.ldc 70, 2)) (ha : EO M Γ (w + 1) (pc + 2) p1 0 a) (hd2 : decode M.1 p1 = .ok (.invokevirtual i, 3)) (hdep : 6 ≤ M.2.2.1) (hw8 : w ≤ 8) : EO M Γ w pc (p1 + 3) 0 (strIxE 1 a) := sorry
end SG
