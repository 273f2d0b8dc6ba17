/-- a new house -/
def gNew : Nat → Nat := fun j => if 8 ≤ j ∧ j < 32 then vow (((j - 8) / 8 + 2 * ((j - 8) % 8 / 2) + (j - 8) % 2) % 5) else 0
/-- a house in the making: the endings up to the place n told -/
def gPart (n : Nat) : Nat → Nat := fun j => if 8 ≤ j ∧ j < 8 + n then gNew j else 0
theorem gPart_0 (j : Nat) : gPart 0 j = 0 := if_neg (by omega)
theorem gPart_24 (j : Nat) : gPart 24 j = gNew j := by
  unfold gPart
  by_cases h : 8 ≤ j ∧ j < 8 + 24
  · rw [if_pos h]
  · rw [if_neg h]; unfold gNew; rw [if_neg (by omega)]
theorem gPart_step {Z : Nat → Nat} {d c : Nat} (hd : d < 3) (hc : c < 4) (h : ∀ j, j < 128 → Z j = gPart (8 * d + 2 * c) j) : ∀ j, j < 128 →
    va_up (va_up Z (gEndAt d c 0) (vow ((d + 2 * c) % 5))) (gEndAt d c 1) (vow ((d + 2 * c + 1) % 5)) j = gPart (8 * d + 2 * (c + 1)) j := by
  intro j hj
  have e := h j hj
  unfold va_up gEndAt
  unfold gPart at e ⊢
  by_cases h1 : j = 8 + 2 * (4 * d + c) + 1
  · rw [if_pos h1, if_pos (by omega)]
    unfold gNew
    rw [if_pos (by omega)]
    congr 1
    rw [show (j - 8) / 8 = d by omega, show (j - 8) % 8 / 2 = c by omega, show (j - 8) % 2 = 1 by omega]
  · rw [if_neg h1]
    by_cases h2 : j = 8 + 2 * (4 * d + c) + 0
    · rw [if_pos h2, if_pos (by omega)]
      unfold gNew
      rw [if_pos (by omega)]
      congr 1
      rw [show (j - 8) / 8 = d by omega, show (j - 8) % 8 / 2 = c by omega, show (j - 8) % 2 = 0 by omega, Nat.add_zero]
    · rw [if_neg h2, e]
      by_cases h3 : 8 ≤ j ∧ j < 8 + (8 * d + 2 * c)
      · rw [if_pos h3, if_pos (by omega)]
      · rw [if_neg h3, if_neg (by omega)]

/-- the house at the place n of the history -/
def hAt (F : Nat → Nat) (n : Nat) : Nat → Nat := fun j => F (n * 128 + j)
