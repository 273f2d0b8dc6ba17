theorem cpy_zero (F T : Nat → Nat) (sp dp : Nat) : va_cpy F T sp dp 0 = T := by
  funext j
  unfold va_cpy
  rw [if_neg (by omega)]
theorem cpy_succ (F T : Nat → Nat) (sp dp k : Nat) : va_cpy F T sp dp (k + 1) = va_up (va_cpy F T sp dp k) (dp + k) (F (sp + k)) := by
  funext j
  unfold va_cpy va_up
  by_cases h1 : j = dp + k
  · subst h1
    rw [if_pos (by omega), if_pos rfl, show sp + (dp + k - dp) = sp + k by omega]
  · rw [if_neg h1]
    by_cases h2 : dp ≤ j ∧ j < dp + k
    · rw [if_pos (by omega)]; exact (if_pos h2).symm
    · rw [if_neg (by omega)]; exact (if_neg h2).symm
theorem lst_set_self {α : Type} {ws : List α} {q : Nat} {x : α} (h : ws[q]? = some x) : ws.set q x = ws := by
  apply List.ext_getElem?
  intro i
  by_cases e : i = q
  · subst e; rw [List.getElem?_set_self (List.getElem?_eq_some_iff.mp h).1, h]
  · rw [List.getElem?_set_ne (Ne.symm e)]

/-- the history with one more: the oldest of eight goes -/
def hPush (F B : Nat → Nat) (n : Nat) : Nat → Nat := if n = 8 then va_cpy B (fun k => if k < 896 then F (k + 128) else F k) 0 ((8 - 1) * 128) 128 else va_cpy B F 0 (n * 128) 128
def shF (F : Nat → Nat) (n : Nat) : Nat → Nat := fun k => if k < n then F (k + 128) else F k
theorem shF_up (F : Nat → Nat) (n : Nat) : va_up (shF F n) n (shF F n (n + 128)) = shF F (n + 1) := by
  funext j
  unfold va_up shF
  by_cases h : j = n
  · subst h; rw [if_pos rfl, if_neg (by omega), if_pos (by omega)]
  · rw [if_neg h]
    by_cases h2 : j < n
    · rw [if_pos h2, if_pos (by omega)]
    · rw [if_neg h2, if_neg (by omega)]
