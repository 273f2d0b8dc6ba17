theorem nv_b1shl {a k : Nat} (h : k ≤ 5) : nI (a &&& 1) <<< (nI k &&& 31) = nI ((a &&& 1) <<< k) := by
  refine nb_shl (by omega) ?_
  have h1 : a &&& 1 ≤ 1 := by rw [Nat.and_one_is_mod]; omega
  have h2 : 2 ^ k ≤ 2 ^ 5 := Nat.pow_le_pow_right (by decide) h
  exact Nat.lt_of_le_of_lt (Nat.mul_le_mul h1 h2) (by decide)
theorem b1shl_lt {a k : Nat} (h : k ≤ 5) : (a &&& 1) <<< k < 2 ^ 6 := by
  rw [Nat.shiftLeft_eq]
  have h1 : a &&& 1 ≤ 1 := by rw [Nat.and_one_is_mod]; omega
  have h2 : 2 ^ k ≤ 2 ^ 5 := Nat.pow_le_pow_right (by decide) h
  exact Nat.lt_of_le_of_lt (Nat.mul_le_mul h1 h2) (by decide)
theorem gNx_lt {b : Nat} {G : Nat → Nat} (hG : gWf b G) {z : Nat} (hz : z < 2 ^ 6) (x : Int32) : ∀ d, d ≤ 8 → gNx G z x d < 2 ^ 6
  | 0, _ => hz
  | d + 1, h => by
    have h1 := gNx_lt hG hz x d (by omega)
    have h2 := hG.door (d := d) (by omega)
    unfold gNx
    split
    · exact Nat.or_lt_two_pow (Nat.or_lt_two_pow h1 (b1shl_lt h2.2.2.2.2.2.2.2.2.1)) (b1shl_lt h2.2.2.2.2.2.2.2.1)
    · exact h1
theorem gIt_lt {b : Nat} {G : Nat → Nat} (hG : gWf b G) {z : Nat} (hz : z < 2 ^ 6) (x : Int32) : ∀ n, gIt G x z n < 2 ^ 6
  | 0 => hz
  | n + 1 => gNx_lt hG (gIt_lt hG hz x n) x _ hG.2.2.1
theorem shl1_lt {r : Nat} (h : r < 6) : 1 <<< r < 2 ^ 6 := by
  rw [Nat.shiftLeft_eq, Nat.one_mul]; exact Nat.pow_lt_pow_right (by decide) h
theorem gRw_lt {b : Nat} {G : Nat → Nat} (hG : gWf b G) {r : Nat} (h : r < 6) (x : Int32) : gRw G r x < 2 ^ 6 := gIt_lt hG (shl1_lt h) x 6
theorem gBits_le (z : Nat) : gBits z ≤ 6 := by
  have h := sm_le (f := fun k => z >>> k &&& 1) (b := 1) (n := 6) (fun k _ => by show z >>> k &&& 1 ≤ 1; rw [Nat.and_one_is_mod]; omega)
  unfold gBits; omega
theorem gBm_le (G : Nat → Nat) (r : Nat) : ∀ d, gBm G r d ≤ 6
  | 0 => gBits_le _
  | d + 1 => by
    unfold gBm
    split
    · exact gBm_le G r d
    · exact gBits_le _
theorem nv_rank {a b o d : Nat} (ha : a < 2 ^ 20) (hb : b < 2 ^ 20) : (if 0 < nI b - nI a then 1 else (if nI b - nI a = 0 then (if d ≤ o then 0 else 1) else 0)) = bI (a < b ∨ (b = a ∧ o < d)) := by
  have h := pk_sub_toInt (a := b) (b := a) (by omega) (by omega)
  have e1 : (0 < nI b - nI a) ↔ a < b := by
    rw [Int32.lt_iff_toInt_lt, h, Int32.toInt_zero]; omega
  have e2 : (nI b - nI a = 0) ↔ b = a := by
    rw [← Int32.toInt_inj, h, Int32.toInt_zero]; omega
  by_cases c1 : a < b
  · rw [if_pos (e1.mpr c1), bI_t (Or.inl c1)]
  · rw [if_neg (fun q => c1 (e1.mp q))]
    by_cases c2 : b = a
    · rw [if_pos (e2.mpr c2)]
      by_cases c3 : d ≤ o
      · rw [if_pos c3, bI_f (by omega)]
      · rw [if_neg c3, bI_t (Or.inr ⟨c2, by omega⟩)]
    · rw [if_neg (fun q => c2 (e2.mp q)), bI_f (by omega)]
