def gl (x : Nat) : Nat := if x = 0 then 111 else (if x = 1 then 105 else 103)
def wrL : List Nat → (Nat → Nat) → Nat → (Nat → Nat)
  | [], F, _ => F
  | c :: l, F, n => wrL l (va_up F n c) (n + 1)
def lnD (G : Nat → Nat) (d : Nat) : List Nat :=
  gl (G (40 + d)) :: (if G (48 + d) = 1 then 100 else 115) :: (97 + gEnd G d) :: (48 + G (88 + d)) :: 45 :: (48 + G (96 + d)) ::
  ((if G (56 + d) = 0 then [] else [64, 48 + (G (56 + d) - 1)]) ++ (if G (80 + d) = 1 then [43] else (if G (64 + d) = 0 then [] else [33, 48 + G (64 + d)])))
def enH (G : Nat → Nat) (a z : Nat) : List Nat := [97 + G (gEndAt a 0 z), 97 + G (gEndAt a 1 z), 97 + G (gEndAt a 2 z), 97 + G (gEndAt a 3 z)]
def enD (G : Nat → Nat) (a : Nat) : List Nat := enH G a 0 ++ (47 :: enH G a 1)
/-- a byte of an int, the most significant one first -/
def bO (p : Int32) (k : Nat) : Nat := p.toBitVec.toNat / 2 ^ (24 - 8 * k) % 2 ^ 8
def bC (p : Int32) (k : Nat) : Nat := if bO p k = 0 then 0 else (if 32 ≤ bO p k ∧ bO p k ≤ 126 then 1 else 100)
def apI (F : Nat → Nat) (n : Nat) (p : Int32) : Nat → (Nat → Nat) × Nat
  | 0 => (F, n)
  | k + 1 => if bO p k = 0 then apI F n p k else (va_up (apI F n p k).1 (apI F n p k).2 (bO p k), (apI F n p k).2 + 1)
theorem bO_lt (p : Int32) (k : Nat) : bO p k < 256 := Nat.mod_lt _ (by decide)
theorem bO_eq (p : Int32) : ∀ k, k < 4 → (p.toUInt32 >>> ((nI 24 - nI (8 * k)).toUInt32 &&& Int32.toUInt32 31)).toInt32 &&& nI 255 = nI (bO p k) := by
  intro k hk
  rw [pk_and _ 8 (by decide), pk_ushr p _ (24 - 8 * k) (by rcases (show k = 0 ∨ k = 1 ∨ k = 2 ∨ k = 3 by omega) with rfl | rfl | rfl | rfl <;> decide)]
  rfl
theorem nv_bC (p : Int32) (k : Nat) : (if bO p k = 0 then 0 else (if nI 32 ≤ nI (bO p k) ∧ nI (bO p k) ≤ nI 126 then 1 else 100)) = bC p k := by
  have h := bO_lt p k
  unfold bC
  by_cases h0 : bO p k = 0
  · rw [if_pos h0, if_pos h0]
  · rw [if_neg h0, if_neg h0]
    by_cases h1 : 32 ≤ bO p k ∧ bO p k ≤ 126
    · rw [if_pos h1, if_pos ⟨(nI_leI (by omega) (by omega)).mpr h1.1, (nI_leI (by omega) (by omega)).mpr h1.2⟩]
    · rw [if_neg h1, if_neg (fun q => h1 ⟨(nI_leI (by omega) (by omega)).mp q.1, (nI_leI (by omega) (by omega)).mp q.2⟩)]
theorem bC_le (p : Int32) (k : Nat) : bC p k ≤ 100 := by
  unfold bC; split
  · omega
  · split <;> omega
theorem sm_mono {f : Nat → Nat} : ∀ {a b : Nat}, a ≤ b → sm f a ≤ sm f b
  | a, 0, h => by rw [show a = 0 by omega]; exact Nat.le_refl _
  | a, b + 1, h => by
    by_cases e : a = b + 1
    · rw [e]; exact Nat.le_refl _
    · have := sm_mono (f := f) (a := a) (b := b) (by omega)
      rw [sm]; omega
theorem apI_n {F : Nat → Nat} {n : Nat} {p : Int32} (h : sm (bC p) 4 ≤ 4) : ∀ k, k ≤ 4 → (apI F n p k).2 = n + sm (bC p) k
  | 0, _ => rfl
  | k + 1, hk => by
    have h1 := apI_n (F := F) (n := n) h k (by omega)
    have h2 := sm_mono (f := bC p) (show k + 1 ≤ 4 by omega)
    rw [sm] at h2
    rw [sm]
    unfold apI
    by_cases h0 : bO p k = 0
    · rw [if_pos h0, h1]; unfold bC; rw [if_pos h0]; rfl
    · rw [if_neg h0]
      show (apI F n p k).2 + 1 = _
      have h3 : bC p k = 1 := by
        by_cases h4 : 32 ≤ bO p k ∧ bO p k ≤ 126
        · unfold bC; rw [if_neg h0, if_pos h4]
        · have h5 : bC p k = 100 := by unfold bC; rw [if_neg h0, if_neg h4]
          omega
      rw [h1, h3]; omega
theorem apI_lt {F : Nat → Nat} {n k : Nat} {p : Int32} (h : sm (bC p) 4 ≤ 4) (h60 : n + sm (bC p) 4 ≤ 60) (hk : k < 4) (h0 : ¬ bO p k = 0) : (apI F n p k).2 < 60 := by
  have h1 := apI_n (F := F) (n := n) h k (by omega)
  have h2 := sm_mono (f := bC p) (show k + 1 ≤ 4 by omega)
  rw [sm] at h2
  have h3 : 0 < bC p k := by
    unfold bC; rw [if_neg h0]; split <;> omega
  omega
theorem apI_le {F : Nat → Nat} {n k : Nat} {p : Int32} (h : sm (bC p) 4 ≤ 4) (h60 : n + sm (bC p) 4 ≤ 60) (hk : k ≤ 4) : (apI F n p k).2 ≤ 60 := by
  have h1 := apI_n (F := F) (n := n) h k hk
  have h2 := sm_mono (f := bC p) hk
  omega

def qSill (G : Nat → Nat) (t j : Nat) : Nat := match j with
  | 0 => G (112 + t)
  | _ => gStand G t
