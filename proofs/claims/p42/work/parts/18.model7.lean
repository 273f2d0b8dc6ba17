theorem nv_same_none {a n : Nat} (h : (if a < n then nI a else -1) = -1) (ha : a < 2 ^ 31 := by omega) : ¬ a < n := by
  intro q
  rw [if_pos q] at h
  have h1 := congrArg Int32.toInt h
  rw [nI_toInt ha] at h1
  have h2 : (-1 : Int32).toInt = -1 := by decide
  omega
theorem nv_same_some {a n : Nat} (h : ¬ (if a < n then nI a else -1) = -1) : a < n := by
  by_cases q : a < n
  · exact q
  · rw [if_neg q] at h; exact absurd rfl h
theorem gSame_le (G : Nat → Nat) (a g : Nat) : gSame G a g ≤ G 2 := fd_le _ _
theorem va_same (G : Nat → Nat) (i v : Nat) : va_up G i v i = v := if_pos rfl
theorem va_ne (G : Nat → Nat) {i j : Nat} (v : Nat) (h : j ≠ i) : va_up G i v j = G j := if_neg h

theorem gAgree_le (G : Nat → Nat) (d g n c : Nat) : gAgree G d g n c ≤ 3 := by
  unfold gAgree
  have := bI_le (G (40 + d) = g)
  have := bI_le (G (48 + d) = n)
  have := bI_le (gCase G d = c)
  omega
theorem gAgree_lt (G : Nat → Nat) (d g n c : Nat) : gAgree G d g n c < 2 ^ 31 := Nat.lt_of_le_of_lt (gAgree_le G d g n c) (by decide)
theorem gHeard_lt {b : Nat} {G : Nat → Nat} (hG : gWf b G) {d : Nat} (hd : d < 8) : ∀ k, k < 128 → gHeard G d k < 2 ^ 30 := by
  intro k hk
  have h1 := hG.lt hk
  have h2 := hG.lt (k := 3) (by omega)
  have h3 := hG.lt (k := 104 + d) (by omega)
  unfold gHeard
  show (if k = 104 + d then _ else (if k = 3 then _ else _)) < _
  have h4 : va_up G 3 (G 3 + 1) (104 + d) = G (104 + d) := va_ne G _ (by omega)
  rw [h4]
  split
  · omega
  · split <;> omega

theorem nI_succ1 {k : Nat} : nI k + nI 1 = nI (k + 1) := nI_add k 1
theorem neg1_1 : (-1 : Int32) + nI 1 = nI 0 := by decide
theorem iR_m1 {n : Nat} : ¬ iR (-1 : Int32) n := by
  unfold iR
  rw [show (-1 : Int32).toInt = -1 from by decide]
  omega
