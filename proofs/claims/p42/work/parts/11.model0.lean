def vow (k : Nat) : Nat := if k = 0 then 0 else (if k = 1 then 4 else (if k = 2 then 8 else (if k = 3 then 14 else 20)))
theorem nv_in0 {P : Prop} [Decidable P] (h : ¬ P) : nI 0 = nI (bI P) := by rw [bI_f h]
theorem nv_in1 {P : Prop} [Decidable P] (h : P) : nI 1 = nI (bI P) := by rw [bI_t h]
/-- a cell's content may be told by another function that agrees where the array is -/
theorem arr_congr {cA : ClassId} {n : Nat} {f g : Nat → Int32} (h : ∀ k, k < n → f k = g k) : vp_cell cA (n, .inl f) = vp_cell cA (n, .inl g) := by
  rw [vp_cell_i, vp_cell_i]
  unfold arrV
  congr 1
  congr 1
  funext j
  show Value.int (f j.val) = Value.int (g j.val)
  rw [h j.val j.isLt]
theorem va_P_arr {D : va_G} {cl : List vw_C} {ws : va_W} {H : Heap} (hP : va_P D cl ws H) (q : Nat) {a : Nat} {cA : ClassId} {n : Nat} {f : Nat → Int32} (g : Nat → Int32) (ha : ws[q]? = some (a, .inl (cA, n, .inl f))) (h : ∀ k, k < n → f k = g k) : va_P D cl (ws.set q (a, .inl (cA, n, .inl g))) H := by
  have hl := (List.getElem?_eq_some_iff.mp ha).1
  intro k x hk
  by_cases hkq : k = q
  · subst hkq
    rw [List.getElem?_set_self hl] at hk
    cases hk
    have h1 := hP k _ ha
    show H[a]? = some (vp_cell cA (n, .inl g))
    rw [← arr_congr h]
    exact h1
  · rw [List.getElem?_set_ne (Ne.symm hkq)] at hk
    exact hP k x hk
theorem gN_cpy (F T : Nat → Nat) (sp dp n : Nat) : gN (va_cpy F T sp dp n) = va_cpy (gN F) (gN T) sp dp n := by
  funext j
  unfold gN va_cpy
  split <;> rfl
