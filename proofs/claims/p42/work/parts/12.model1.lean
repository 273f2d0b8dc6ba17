theorem nv_pos01 (a : Nat) : nI (if a = 0 then 0 else 1) = nI (bI (0 < a)) := by
  by_cases h : a = 0
  · rw [if_pos h, bI_f (by omega)]
  · rw [if_neg h, bI_t (by omega)]
def qDoor (G : Nat → Nat) (d : Nat) (j : Nat) : Int32 := match j with
  | 0 => nI (G (32 + d))
  | 1 => nI (G (40 + d))
  | 2 => nI (G (48 + d))
  | 3 => nI (G (56 + d)) - nI 1
  | 4 => nI (gCase G d)
  | 5 => nI (G (64 + d))
  | 6 => nI (G (72 + d))
  | 7 => nI (G (80 + d))
  | 8 => nI (G (88 + d))
  | 9 => nI (G (96 + d))
  | _ => nI (G (104 + d))
def qAcc (G : Nat → Nat) (ty ch : Nat) (j : Nat) : Nat := match j with
  | 0 => G 0
  | 1 => G 1
  | 2 => G 2
  | 3 => gMany G 80
  | 4 => gMany G 72
  | 5 => G 3
  | 6 => G 4
  | 7 => G 5
  | 8 => G 6
  | 9 => G 7
  | 10 => gUnlike G
  | 11 => ty
  | _ => ch
theorem nv_bset {P : Nat → Prop} [DecidablePred P] {k : Nat} (h : P k) (hk : k < 31) : nI (bs P k) ||| nI (1 <<< k) = nI (bs P (k + 1)) := by
  rw [nb_or]
  rw [show bs P (k + 1) = bs P k ||| (if P k then 1 <<< k else 0) from rfl, if_pos h]
theorem nv_bnot {P : Nat → Prop} [DecidablePred P] {k : Nat} (h : ¬ P k) : nI (bs P k) ||| nI 0 = nI (bs P (k + 1)) := by
  rw [nb_or]
  rw [show bs P (k + 1) = bs P k ||| (if P k then 1 <<< k else 0) from rfl, if_neg h]
theorem nv_bor {P : Nat → Prop} [DecidablePred P] {k r : Nat} (hr : r = if P k then 1 <<< k else 0) : nI (bs P k) ||| nI r = nI (bs P (k + 1)) := by
  rw [nb_or, hr]; rfl
theorem nv_1shl {k : Nat} (hk : k < 31) : nI 1 <<< (nI k &&& 31) = nI (1 <<< k) := nb_shl (by omega) (by rw [Nat.one_mul]; exact Nat.lt_of_lt_of_le (Nat.pow_lt_pow_right (by decide) hk) (by decide))
