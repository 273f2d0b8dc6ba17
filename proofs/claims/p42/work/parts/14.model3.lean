theorem nv_z01 {z : Nat} (h : z ≤ 1) : nI (if z = 0 then 0 else 1) = nI z := by
  rcases (show z = 0 ∨ z = 1 by omega) with rfl | rfl <;> rfl
theorem nv_z10 {z : Nat} (h : z ≤ 1) : nI (if z = 0 then 0 else 1) = nI z := nv_z01 h
theorem gWay_hit {G : Nat → Nat} {a b n : Nat} (hn : ∀ j, j < n → ¬ gIt G (-1) (1 <<< a) j >>> b &&& 1 = 1) (h : ¬ gIt G (-1) (1 <<< a) n >>> b &&& 1 = 0) (h6 : n < 6) : gWay G a b = n :=
  fd_some hn (by have := Nat.and_one_is_mod (gIt G (-1) (1 <<< a) n >>> b); omega) h6
theorem gWay_none {G : Nat → Nat} {a b : Nat} (hn : ∀ j, j < 6 → ¬ gIt G (-1) (1 <<< a) j >>> b &&& 1 = 1) : gWay G a b = 6 := fd_none hn
theorem gBb_ne {G : Nat → Nat} {r : Nat} : ∀ d, d ≤ 8 → (gBb G r d = -1 ∨ ∃ k, k < d ∧ gBb G r d = nI k)
  | 0, _ => Or.inl rfl
  | d + 1, h => by
    unfold gBb
    split
    · rcases gBb_ne d (by omega) with h1 | ⟨k, h1, h2⟩
      · exact Or.inl h1
      · exact Or.inr ⟨k, by omega, h2⟩
    · exact Or.inr ⟨d, by omega, rfl⟩
def gRk (G : Nat → Nat) (k : Nat) (x : Int32) : Nat := fd (fun d => nI (gRank G k d) = x) (G 0)

theorem nv_a1lt (a : Nat) : a &&& 1 < 2 ^ 31 := by rw [Nat.and_one_is_mod]; omega

theorem nv_a1ne {a : Nat} (h : a &&& 1 = 0) : ¬ a &&& 1 = 1 := by omega
