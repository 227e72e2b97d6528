/-! default values -/
def vz (t : Nat) : Value := match t with
  | 0 => .int 0
  | 1 => .long 0
  | _ => .null
theorem dfs_of {ci N : Nat} {ty : Nat → FieldType} (hci : ci < 100) (hN : N ≤ (ftab.getD ci []).length) (h : ∀ j, j < N → defaultValue (ty j) = vz ((ftab.getD ci []).getD j 0)) : ∀ j, j < N → ∀ ad : Adr, defaultValue (ty j) = vp_V ((ftab.getD ci []).mapIdx (fun j t => vv ad t (dv (ci, 0) j))) j := by
  intro j hj ad
  rw [h j hj]
  have hl : j < (ftab.getD ci []).length := by omega
  obtain ⟨t, he⟩ : ∃ t, (ftab.getD ci [])[j]? = some t := ⟨_, List.getElem?_eq_getElem hl⟩
  have h5 : sty (ci, 0) j = t := sty_obj hci he
  have h4 := sty_lt (ci, 0) j
  have e1 : (ftab.getD ci []).getD j 0 = t := by
    generalize ftab.getD ci [] = L at he
    rw [List.getD_eq_getElem?_getD, he]
    rfl
  have e2 : vp_V ((ftab.getD ci []).mapIdx (fun j t => vv ad t (dv (ci, 0) j))) j = vv ad t (dv (ci, 0) j) := by
    unfold vp_V
    generalize ftab.getD ci [] = L at he
    rw [List.getD_eq_getElem?_getD, List.getElem?_mapIdx, he]
    rfl
  rw [e1, e2]
  unfold dv
  rw [h5] at h4 ⊢
  match t, h4 with
  | 0, _ => rfl
  | 1, _ => rfl
  | 2, _ => rfl
theorem dfs_0 : ∀ j, j < 3 → ∀ ad : Adr, defaultValue (tyX0 j) = vp_V ((ftab.getD 0 []).mapIdx (fun j t => vv ad t (dv (0, 0) j))) j := dfs_of (by decide) (by decide) (by decide +kernel)
theorem dfs_1 : ∀ j, j < 11 → ∀ ad : Adr, defaultValue (tyX1 j) = vp_V ((ftab.getD 1 []).mapIdx (fun j t => vv ad t (dv (1, 0) j))) j := dfs_of (by decide) (by decide) (by decide +kernel)
theorem dfs_2 : ∀ j, j < 4 → ∀ ad : Adr, defaultValue (tyX2 j) = vp_V ((ftab.getD 2 []).mapIdx (fun j t => vv ad t (dv (2, 0) j))) j := dfs_of (by decide) (by decide) (by decide +kernel)
theorem dfs_3 : ∀ j, j < 8 → ∀ ad : Adr, defaultValue (tyX3 j) = vp_V ((ftab.getD 3 []).mapIdx (fun j t => vv ad t (dv (3, 0) j))) j := dfs_of (by decide) (by decide) (by decide +kernel)
theorem dfs_4 : ∀ j, j < 4 → ∀ ad : Adr, defaultValue (tyX4 j) = vp_V ((ftab.getD 4 []).mapIdx (fun j t => vv ad t (dv (4, 0) j))) j := dfs_of (by decide) (by decide) (by decide +kernel)
theorem dfs_5 : ∀ j, j < 3 → ∀ ad : Adr, defaultValue (tyX5 j) = vp_V ((ftab.getD 5 []).mapIdx (fun j t => vv ad t (dv (5, 0) j))) j := dfs_of (by decide) (by decide) (by decide +kernel)
theorem dfs_6 : ∀ j, j < 6 → ∀ ad : Adr, defaultValue (tyX6 j) = vp_V ((ftab.getD 6 []).mapIdx (fun j t => vv ad t (dv (6, 0) j))) j := dfs_of (by decide) (by decide) (by decide +kernel)
theorem dfs_7 : ∀ j, j < 3 → ∀ ad : Adr, defaultValue (tyX7 j) = vp_V ((ftab.getD 7 []).mapIdx (fun j t => vv ad t (dv (7, 0) j))) j := dfs_of (by decide) (by decide) (by decide +kernel)
theorem dfs_8 : ∀ j, j < 7 → ∀ ad : Adr, defaultValue (tyX8 j) = vp_V ((ftab.getD 8 []).mapIdx (fun j t => vv ad t (dv (8, 0) j))) j := dfs_of (by decide) (by decide) (by decide +kernel)
theorem dfs_9 : ∀ j, j < 4 → ∀ ad : Adr, defaultValue (tyX9 j) = vp_V ((ftab.getD 9 []).mapIdx (fun j t => vv ad t (dv (9, 0) j))) j := dfs_of (by decide) (by decide) (by decide +kernel)
theorem dfs_10 : ∀ j, j < 7 → ∀ ad : Adr, defaultValue (tyX10 j) = vp_V ((ftab.getD 10 []).mapIdx (fun j t => vv ad t (dv (10, 0) j))) j := dfs_of (by decide) (by decide) (by decide +kernel)
theorem dfs_11 : ∀ j, j < 15 → ∀ ad : Adr, defaultValue (tyX11 j) = vp_V ((ftab.getD 11 []).mapIdx (fun j t => vv ad t (dv (11, 0) j))) j := dfs_of (by decide) (by decide) (by decide +kernel)
theorem dfs_12 : ∀ j, j < 33 → ∀ ad : Adr, defaultValue (tyX12 j) = vp_V ((ftab.getD 12 []).mapIdx (fun j t => vv ad t (dv (12, 0) j))) j := dfs_of (by decide) (by decide) (by decide +kernel)
