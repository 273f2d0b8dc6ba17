/-! what a state of the house is: a function of places to naturals, in the reference's layout; what each call answers of it -/
def sm (f : Nat → Nat) : Nat → Nat
  | 0 => 0
  | n + 1 => sm f n + f n
theorem sm_le {f : Nat → Nat} {b : Nat} : ∀ {n : Nat}, (∀ k, k < n → f k ≤ b) → sm f n ≤ n * b
  | 0, _ => by simp [sm]
  | n + 1, h => by
    have h1 := sm_le (n := n) (fun k hk => h k (by omega))
    have h2 := h n (by omega)
    rw [sm, Nat.succ_mul]
    omega
theorem sm_congr {f g : Nat → Nat} : ∀ {n : Nat}, (∀ k, k < n → f k = g k) → sm f n = sm g n
  | 0, _ => rfl
  | n + 1, h => by rw [sm, sm, sm_congr (n := n) (fun k hk => h k (by omega)), h n (by omega)]
def gWd (G : Nat → Nat) (d : Nat) : Prop :=
  G (32 + d) ≤ 2 ∧ G (40 + d) ≤ 2 ∧ G (48 + d) ≤ 1 ∧ G (56 + d) ≤ G 1 ∧ G (64 + d) ≤ 3 ∧ G (72 + d) ≤ 1 ∧ G (80 + d) ≤ 1 ∧ G (88 + d) ≤ 5 ∧ G (96 + d) ≤ 5 ∧
  (G (80 + d) = 1 → G (72 + d) = 0 ∧ G (64 + d) = 0) ∧ (G (72 + d) = 0 → G (64 + d) ≤ 2) ∧ (G (72 + d) = 1 → G (64 + d) = 3) ∧
  (G 0 ≤ d → G (56 + d) = 0 ∧ G (64 + d) = 0 ∧ G (72 + d) = 0 ∧ G (80 + d) = 0 ∧ G (104 + d) = 0)
/-- a house that can be: b bounds all its numbers -/
def gWf (b : Nat) (G : Nat → Nat) : Prop :=
  b < 2 ^ 20 ∧ (∀ k, k < 128 → G k ≤ b) ∧ G 0 ≤ 8 ∧ G 1 ≤ 6 ∧ G 2 ≤ 5 ∧ (∀ k, k < 24 → G (8 + k) ≤ 25) ∧ (∀ d, d < 8 → gWd G d) ∧
  (∀ t, t < 6 → G (112 + t) ≤ 3) ∧ (∀ k, k < 5 → G (118 + k) ≤ 2 ∧ G (123 + k) ≤ 2) ∧ G 3 = G 4 + G 5 ∧ G 3 = sm (fun d => G (104 + d)) 8
theorem gWf.lt {b : Nat} {G : Nat → Nat} (h : gWf b G) {k : Nat} (hk : k < 128) : G k < 2 ^ 20 := Nat.lt_of_le_of_lt (h.2.1 k hk) h.1
theorem gWf.door {b : Nat} {G : Nat → Nat} (h : gWf b G) {d : Nat} (hd : d < 8) : gWd G d := h.2.2.2.2.2.2.1 d hd
def gCase (G : Nat → Nat) (d : Nat) : Nat := if G (56 + d) = 0 then 0 else G (112 + G (56 + d) - 1)
def gEndAt (a c n : Nat) : Nat := 8 + 2 * (4 * a + c) + n
def gEnd (G : Nat → Nat) (d : Nat) : Nat := G (gEndAt (G (32 + d)) (gCase G d) (G (48 + d)))
def gMany (G : Nat → Nat) (k : Nat) : Nat := sm (fun d => G (k + d)) (G 0)
theorem gWf_case {b : Nat} {G : Nat → Nat} (h : gWf b G) {d : Nat} (hd : d < 8) : gCase G d ≤ 3 := by
  obtain ⟨_, _, _, h4, h5, h6, hw, ht, _⟩ := id h
  unfold gCase
  split
  · omega
  · have h1 := (h.door hd).2.2.2.1
    have h2 := ht (G (56 + d) - 1) (by omega)
    rw [show 112 + G (56 + d) - 1 = 112 + (G (56 + d) - 1) by omega]
    exact h2
/-! ints by naturals: bits -/
theorem nb_or (a b : Nat) : nI a ||| nI b = nI (a ||| b) := by
  apply Int32.toBitVec_inj.mp
  show BitVec.ofNat 32 a ||| BitVec.ofNat 32 b = BitVec.ofNat 32 (a ||| b)
  rw [BitVec.ofNat_or]
theorem nb_s31 : ∀ k, k < 32 → ((nI k &&& 31).toBitVec.smod 32).toNat = k := by decide +kernel
theorem nb_shl {a k : Nat} (hk : k < 32) (h : a * 2 ^ k < 2 ^ 32) : nI a <<< (nI k &&& 31) = nI (a <<< k) := by
  rw [pk_shlN _ k (nb_s31 k hk) h, Nat.shiftLeft_eq]
theorem nb_shr {a k : Nat} (hk : k < 32) (h : a < 2 ^ 31) : nI a >>> (nI k &&& 31) = nI (a >>> k) := by
  rw [pk_shrN h _ k (nb_s31 k hk), Nat.shiftRight_eq_div_pow]
theorem nb_and1 {a : Nat} (h : a < 2 ^ 32) : nI a &&& nI 1 = nI (a &&& 1) := by
  rw [pk_andN (m := nI 1) h 1 (by decide)]
  congr 1
  rw [Nat.and_one_is_mod]
/-- an int among the first n naturals -/
abbrev iR (x : Int32) (n : Nat) : Prop := 0 ≤ x.toInt ∧ x.toInt < n
theorem iR_of {x : Int32} {n : Nat} (h : iR x n) (hn : n < 2 ^ 31) : ∃ j : Nat, j < n ∧ x = nI j := vp_in_of (vp_in_iff.mpr h) hn
theorem iR_nI {k n : Nat} (h : k < n) (hn : n < 2 ^ 31) : iR (nI k) n := by
  unfold iR; rw [nI_toInt (by omega)]; omega
abbrev tN (x : Int32) : Nat := x.toNatClampNeg
theorem tN_nI {k : Nat} (h : k < 2 ^ 31) : tN (nI k) = k := nI_clamp h
theorem iR_in {x : Int32} {n : Nat} (hn : n < 2 ^ 31) : (nI 0 ≤ x ∧ x ≤ nI n - nI 1) ↔ iR x n := by
  unfold iR
  by_cases h0 : n = 0
  · subst h0
    constructor
    · intro ⟨h1, h2⟩
      rw [Int32.le_iff_toInt_le] at h1 h2
      have e1 : (nI 0).toInt = 0 := by decide
      have e2 : (nI 0 - nI 1).toInt = -1 := by decide
      omega
    · intro ⟨h1, h2⟩; omega
  · rw [pk_sub (by omega), Int32.le_iff_toInt_le, Int32.le_iff_toInt_le, nI_toInt (by omega), nI_toInt (by omega)]
    omega
theorem iR_in2 {x : Int32} {n : Nat} (hn : n + 1 < 2 ^ 31) : (nI 0 ≤ x ∧ x ≤ nI n) ↔ iR x (n + 1) := by
  unfold iR
  rw [Int32.le_iff_toInt_le, Int32.le_iff_toInt_le, nI_toInt (by omega), nI_toInt (by omega)]
  omega
/-- the first k below n with P k, else n -/
def fd (P : Nat → Prop) [DecidablePred P] : Nat → Nat
  | 0 => 0
  | n + 1 => if fd P n < n then fd P n else if P n then n else n + 1
theorem fd_le (P : Nat → Prop) [DecidablePred P] : ∀ n, fd P n ≤ n
  | 0 => Nat.le_refl 0
  | n + 1 => by
    have h := fd_le P n
    unfold fd; split
    · omega
    · split <;> omega
theorem fd_none {P : Nat → Prop} [DecidablePred P] : ∀ {n}, (∀ j, j < n → ¬ P j) → fd P n = n
  | 0, _ => rfl
  | n + 1, h => by
    have h1 := fd_none (n := n) (fun j hj => h j (by omega))
    unfold fd
    rw [if_neg (by omega), if_neg (h n (by omega))]
theorem fd_some {P : Nat → Prop} [DecidablePred P] {k : Nat} : ∀ {n}, (∀ j, j < k → ¬ P j) → P k → k < n → fd P n = k
  | 0, _, _, h => absurd h (by omega)
  | n + 1, h1, h2, h3 => by
    unfold fd
    by_cases hk : k < n
    · rw [fd_some (n := n) h1 h2 hk, if_pos hk]
    · have e : k = n := by omega
      subst e
      rw [fd_none h1, if_neg (by omega), if_pos h2]
theorem fd_at {P : Nat → Prop} [DecidablePred P] : ∀ {n}, fd P n < n → P (fd P n)
  | 0, h => absurd h (by simp [fd])
  | n + 1, h => by
    unfold fd at h ⊢
    split
    · rename_i h1; exact fd_at h1
    · rename_i h1
      split
      · assumption
      · rename_i h2; rw [if_neg h1, if_neg h2] at h; omega
theorem fd_lt {P : Nat → Prop} [DecidablePred P] : ∀ {n j}, j < fd P n → ¬ P j
  | 0, j, h => absurd h (by simp [fd])
  | n + 1, j, h => by
    unfold fd at h
    split at h
    · exact fd_lt h
    · rename_i h1
      have h2 := fd_le P n
      split at h
      · rename_i h3; exact fd_lt (n := n) (by omega)
      · rename_i h3
        by_cases hj : j = n
        · subst hj; exact h3
        · exact fd_lt (n := n) (by omega)
theorem fd_congr {P P' : Nat → Prop} [DecidablePred P] [DecidablePred P'] : ∀ {n}, (∀ j, j < n → (P j ↔ P' j)) → fd P n = fd P' n
  | 0, _ => rfl
  | n + 1, h => by
    unfold fd
    rw [fd_congr (n := n) (fun j hj => h j (by omega))]
    by_cases hp : P n
    · rw [if_pos hp, if_pos ((h n (by omega)).mp hp)]
    · rw [if_neg hp, if_neg (fun q => hp ((h n (by omega)).mpr q))]
/-- a set of naturals below n by its bits -/
def bs (P : Nat → Prop) [DecidablePred P] : Nat → Nat
  | 0 => 0
  | n + 1 => bs P n ||| (if P n then 1 <<< n else 0)
theorem bs_lt (P : Nat → Prop) [DecidablePred P] : ∀ n, bs P n < 2 ^ n
  | 0 => by simp [bs]
  | n + 1 => by
    unfold bs
    have h := bs_lt P n
    refine Nat.or_lt_two_pow (Nat.lt_of_lt_of_le h (Nat.pow_le_pow_right (by decide) (by omega))) ?_
    split
    · rw [Nat.shiftLeft_eq, Nat.one_mul]; exact Nat.pow_lt_pow_right (by decide) (by omega)
    · exact Nat.two_pow_pos _
theorem bs_congr {P P' : Nat → Prop} [DecidablePred P] [DecidablePred P'] : ∀ {n}, (∀ j, j < n → (P j ↔ P' j)) → bs P n = bs P' n
  | 0, _ => rfl
  | n + 1, h => by
    unfold bs
    rw [bs_congr (n := n) (fun j hj => h j (by omega))]
    by_cases hp : P n
    · rw [if_pos hp, if_pos ((h n (by omega)).mp hp)]
    · rw [if_neg hp, if_neg (fun q => hp ((h n (by omega)).mpr q))]
/-! queries -/
def gStand (G : Nat → Nat) (t : Nat) : Nat := sm (fun d => bI (G (56 + d) = t + 1)) (G 0)
def gFit (G : Nat → Nat) (k a g : Nat) : Nat := bI (G (118 + k) = a) + bI (G (123 + k) = g)
def gSame (G : Nat → Nat) (a g : Nat) : Nat := fd (fun k => gFit G k a g = 2) (G 2)
abbrev gAlike (G : Nat → Nat) (a b : Nat) : Prop := G (40 + a) = G (40 + b) ∧ G (48 + a) = G (48 + b) ∧ gEnd G a = gEnd G b
def gCould (G : Nat → Nat) (d : Nat) : Nat := bs (fun c => G (gEndAt (G (32 + d)) c (G (48 + d))) = gEnd G d) 4
def gTwins (G : Nat → Nat) (d : Nat) : Nat := bs (fun k => gAlike G d k) (G 0)
def gSyn1 (G : Nat → Nat) (a i : Nat) : Nat → Nat
  | 0 => 0
  | j + 1 => gSyn1 G a i j + bI (G (gEndAt a i 0) = G (gEndAt a j 0)) + bI (G (gEndAt a i 1) = G (gEndAt a j 1))
def gSyn (G : Nat → Nat) (a : Nat) : Nat := sm (fun i => gSyn1 G a i i) 4
def gOften (G : Nat → Nat) (x : Int32) : Nat := sm (fun k => bI (nI (G (8 + k)) = x)) 24
def gAgree (G : Nat → Nat) (d g b c : Nat) : Nat := bI (G (40 + d) = g) + bI (G (48 + d) = b) + bI (gCase G d = c)
def gKeys (G : Nat → Nat) (d : Nat) : Nat := bs (fun k => gFit G k (G (32 + d)) (G (40 + d)) = 2) (G 2)
def gNx (G : Nat → Nat) (s : Nat) (x : Int32) : Nat → Nat
  | 0 => s
  | d + 1 => if G (80 + d) = 1 ∨ nI d = x then (gNx G s x d ||| (s >>> G (88 + d) &&& 1) <<< G (96 + d)) ||| (s >>> G (96 + d) &&& 1) <<< G (88 + d) else gNx G s x d
def gIt (G : Nat → Nat) (x : Int32) (s : Nat) : Nat → Nat
  | 0 => s
  | n + 1 => gNx G (gIt G x s n) x (G 0)
def gRw (G : Nat → Nat) (r : Nat) (x : Int32) : Nat := gIt G x (1 <<< r) 6
def gWay (G : Nat → Nat) (a b : Nat) : Nat := fd (fun n => gIt G (-1) (1 <<< a) n >>> b &&& 1 = 1) 6
def gBits (s : Nat) : Nat := sm (fun k => s >>> k &&& 1) 6
def gBm (G : Nat → Nat) (r : Nat) : Nat → Nat
  | 0 => gBits (gRw G r (-1))
  | d + 1 => if gBits (gRw G r (nI d)) ≤ gBm G r d then gBm G r d else gBits (gRw G r (nI d))
def gBb (G : Nat → Nat) (r : Nat) : Nat → Int32
  | 0 => -1
  | d + 1 => if gBits (gRw G r (nI d)) ≤ gBm G r d then gBb G r d else nI d
def gRank (G : Nat → Nat) (k d : Nat) : Nat := sm (fun o => bI (G (k + d) < G (k + o) ∨ (G (k + o) = G (k + d) ∧ o < d))) (G 0)
def gUnlike (G : Nat → Nat) : Nat := sm (fun x => bI (0 < gOften G (nI x))) 26
/-! changes: (the number of what is thrown, the reason or 0, its detail, the answer, the house then) -/
abbrev V : Type := Nat × Nat × Int32 × Int32 × (Nat → Nat)
def vErr (n : Nat) (G : Nat → Nat) : V := (n, 0, 0, 0, G)
def vRef (n w : Nat) (x : Int32) (G : Nat → Nat) : V := (n, w, x, 0, G)
def vOk (r : Int32) (G : Nat → Nat) : V := (0, 0, 0, r, G)
def gDoor (G : Nat → Nat) (a g b x y : Nat) : Nat → Nat :=
  let d := G 0
  let G5 := va_up (va_up (va_up (va_up (va_up G (32 + d) a) (40 + d) g) (48 + d) b) (88 + d) x) (96 + d) y
  va_up G5 0 (G5 0 + 1)
def vDoor (G : Nat → Nat) (a g : Int32) (b : Nat) (x y : Int32) : V :=
  if ¬ iR a 3 ∨ ¬ iR g 3 ∨ x = y then vErr 1 G else if ¬ iR x 6 ∨ ¬ iR y 6 then vErr 2 G else if G 0 = 8 then vRef 3 1 (nI 8) G else vOk (nI (G 0)) (gDoor G (tN a) (tN g) b (tN x) (tN y))
def gSill (G : Nat → Nat) (c : Nat) : Nat → Nat :=
  let G1 := va_up G (112 + G 1) c
  va_up G1 1 (G1 1 + 1)
def vSill (G : Nat → Nat) (c : Int32) : V := if ¬ iR c 4 then vErr 1 G else if G 1 = 6 then vRef 2 1 (nI 6) G else vOk (nI (G 1)) (gSill G (tN c))
def vGovern (G : Nat → Nat) (t c : Int32) : V :=
  if ¬ iR t (G 1) then vErr 1 G else if ¬ iR c 4 then vErr 2 G else if nI (G (112 + tN t)) = c then vRef 3 2 c G else vOk (nI (G (112 + tN t))) (va_up G (112 + tN t) (tN c))
def vSet (G : Nat → Nat) (d t : Int32) : V :=
  if ¬ iR d (G 0) ∨ (¬ t = -1 ∧ ¬ iR t (G 1)) then vErr 1 G else if nI (G (56 + tN d)) = t + nI 1 then vRef 2 2 t G
  else vOk (nI (gCase (va_up G (56 + tN d) (tN (t + nI 1))) (tN d))) (va_up G (56 + tN d) (tN (t + nI 1)))
def vTell (G : Nat → Nat) (a c : Int32) (n : Nat) (x : Int32) : V :=
  if ¬ iR a 3 ∨ ¬ iR c 4 ∨ ¬ iR x 26 then vErr 1 G else if nI (G (gEndAt (tN a) (tN c) n)) = x then vRef 2 2 x G
  else vOk (nI (G (gEndAt (tN a) (tN c) n))) (va_up G (gEndAt (tN a) (tN c) n) (tN x))
def gKey (G : Nat → Nat) (a g : Nat) : Nat → Nat :=
  let k := G 2
  let G2 := va_up (va_up G (118 + k) a) (123 + k) g
  va_up G2 2 (G2 2 + 1)
def vKey (G : Nat → Nat) (a g : Int32) : V :=
  if ¬ iR a 3 ∨ ¬ iR g 3 then vErr 1 G else if gSame G (tN a) (tN g) < G 2 then vRef 2 2 (nI (gSame G (tN a) (tN g))) G else if G 2 = 5 then vRef 2 1 (nI 5) G else vOk (nI (G 2)) (gKey G (tN a) (tN g))
def gHeard (G : Nat → Nat) (d : Nat) : Nat → Nat :=
  let G1 := va_up G 3 (G 3 + 1)
  va_up G1 (104 + d) (G1 (104 + d) + 1)
def gRight (G : Nat → Nat) (d : Nat) : Nat → Nat := va_up (va_up (va_up G 4 (G 4 + 1)) (80 + d) 1) (64 + d) 0
def gWrong1 (G : Nat → Nat) (d : Nat) : Nat → Nat :=
  let G1 := va_up G 5 (G 5 + 1)
  va_up G1 (64 + d) (G1 (64 + d) + 1)
def gFell (G : Nat → Nat) (d : Nat) : Nat → Nat :=
  let G1 := va_up G (72 + d) 1
  va_up G1 6 (G1 6 + 1)
def gWrong (G : Nat → Nat) (d : Nat) : Nat → Nat := if gWrong1 G d (64 + d) = 3 then gFell (gWrong1 G d) d else gWrong1 G d
def vKnock (G : Nat → Nat) (d g : Int32) (b : Nat) (c : Int32) : V :=
  if ¬ iR d (G 0) then vErr 1 G else if ¬ iR g 3 ∨ ¬ iR c 4 then vErr 2 G else if G (80 + tN d) = 1 then vRef 3 4 (nI (gMany G 80)) G else if G (72 + tN d) = 1 then vRef 3 3 (nI (gMany G 72)) G
  else vOk (nI (gAgree G (tN d) (tN g) b (tN c))) (if gAgree G (tN d) (tN g) b (tN c) = 3 then gRight (gHeard G (tN d)) (tN d) else gWrong (gHeard G (tN d)) (tN d))
def vShut (G : Nat → Nat) (d : Int32) : V :=
  if ¬ iR d (G 0) then vErr 1 G else if G (80 + tN d) = 0 then vRef 2 5 (nI (gMany G 80)) G else vOk (nI (gMany (va_up G (80 + tN d) 0) 80)) (va_up G (80 + tN d) 0)
def gFree (G : Nat → Nat) (d : Nat) : Nat → Nat :=
  let G2 := va_up (va_up G (72 + d) 0) (64 + d) 0
  va_up G2 7 (G2 7 + 1)
def vFree (G : Nat → Nat) (k d : Int32) : V :=
  if ¬ iR k (G 2) ∨ ¬ iR d (G 0) then vErr 1 G else if G (72 + tN d) = 0 then vRef 2 6 (nI (G (64 + tN d))) G
  else if gFit G (tN k) (G (32 + tN d)) (G (40 + tN d)) < 2 then vRef 2 7 (nI (gFit G (tN k) (G (32 + tN d)) (G (40 + tN d)))) G else vOk (nI (gMany (gFree G (tN d)) 72)) (gFree G (tN d))
theorem gEnd_le {b : Nat} {G : Nat → Nat} (h : gWf b G) {d : Nat} (hd : d < 8) : gEnd G d ≤ 25 := by
  obtain ⟨_, _, _, _, _, h6, _⟩ := id h
  have h1 := h.door hd
  have h2 := gWf_case h hd
  have h3 := h6 (2 * (4 * G (32 + d) + gCase G d) + G (48 + d)) (by have := h1.1; have := h1.2.2.1; omega)
  unfold gEnd gEndAt
  rw [show 8 + 2 * (4 * G (32 + d) + gCase G d) + G (48 + d) = 8 + (2 * (4 * G (32 + d) + gCase G d) + G (48 + d)) by omega]
  exact h3
theorem gEnd_lt {b : Nat} {G : Nat → Nat} (h : gWf b G) {d : Nat} (hd : d < 8) : gEnd G d < 2 ^ 31 := Nat.lt_of_le_of_lt (gEnd_le h hd) (by decide)
theorem sm_bI_le (P : Nat → Prop) [DecidablePred P] (n : Nat) : sm (fun k => bI (P k)) n ≤ n := by
  have h := sm_le (f := fun k => bI (P k)) (b := 1) (n := n) (fun k _ => bI_le (P k))
  omega
theorem gOften_lt (G : Nat → Nat) (x : Int32) : gOften G x < 2 ^ 31 := Nat.lt_of_le_of_lt (sm_bI_le (fun k => nI (G (8 + k)) = x) 24) (by decide)
theorem nv_shlt {z k : Nat} (h : z < 2 ^ 31) : z >>> k < 2 ^ 32 := by
  rw [Nat.shiftRight_eq_div_pow]
  exact Nat.lt_of_le_of_lt (Nat.div_le_self _ _) (by omega)
theorem gFit_le (G : Nat → Nat) (k a g : Nat) : gFit G k a g ≤ 2 := by
  unfold gFit
  have := bI_le (G (118 + k) = a)
  have := bI_le (G (123 + k) = g)
  omega
theorem gFit_lt (G : Nat → Nat) (k a g : Nat) : gFit G k a g < 2 ^ 31 := Nat.lt_of_le_of_lt (gFit_le G k a g) (by decide)
theorem gEnds_le {b : Nat} {G : Nat → Nat} (h : gWf b G) {a z : Nat} (ha : a < 3) (hz : z ≤ 1) (c : Nat) (hc : c < 4) : G (gEndAt a c z) ≤ 25 := by
  obtain ⟨_, _, _, _, _, h6, _⟩ := id h
  have h3 := h6 (2 * (4 * a + c) + z) (by omega)
  unfold gEndAt
  rw [show 8 + 2 * (4 * a + c) + z = 8 + (2 * (4 * a + c) + z) by omega]
  exact h3
