theorem up_eq {G : Nat → Nat} {i j v : Nat} (h : j = i) : va_up G i v j = v := if_pos h
theorem up_ne {G : Nat → Nat} {i j v : Nat} (h : ¬ j = i) : va_up G i v j = G j := if_neg h
/-- where the reference keeps a door's number of the kind k, a count of the kind k -/
def dG (k : Nat) : Nat := match k with | 0 => 32 | 1 => 40 | 2 => 48 | 3 => 88 | 4 => 96 | 5 => 56 | 6 => 64 | 7 => 104 | 8 => 72 | _ => 80
def cG (k : Nat) : Nat := match k with | 0 => 0 | 1 => 1 | 2 => 2 | 3 => 4 | 4 => 5 | 5 => 6 | _ => 7
theorem ten {k : Nat} (h : k < 10) : k = 0 ∨ k = 1 ∨ k = 2 ∨ k = 3 ∨ k = 4 ∨ k = 5 ∨ k = 6 ∨ k = 7 ∨ k = 8 ∨ k = 9 := by omega
theorem hRel_iff {u : hS} {G : Nat → Nat} : hRel u G ↔ (∀ k, k < 7 → hs_c u k = G (cG k)) ∧ (∀ k, k < 24 → hs_e u k = G (8 + k)) ∧ (∀ t, t < G 1 → hs_g u t = G (112 + t)) ∧ (∀ k, k < G 2 → hs_kd u k = G (118 + k) ∧ hs_kg u k = G (123 + k)) ∧ (∀ d, d < G 0 → ∀ i, i < 10 → hs_d u d i = G (dG i + d)) := by
  constructor
  · rintro ⟨h1, h2, h3, h4, h5⟩
    refine ⟨fun k hk => ?_, h2, h3, h4, fun d hd i hi => ?_⟩
    · rcases (show k = 0 ∨ k = 1 ∨ k = 2 ∨ k = 3 ∨ k = 4 ∨ k = 5 ∨ k = 6 by omega) with rfl | rfl | rfl | rfl | rfl | rfl | rfl
      · exact h1.1
      · exact h1.2.1
      · exact h1.2.2.1
      · exact h1.2.2.2.1
      · exact h1.2.2.2.2.1
      · exact h1.2.2.2.2.2.1
      · exact h1.2.2.2.2.2.2
    · obtain ⟨q0, q1, q2, q3, q4, q5, q6, q7, q8, q9⟩ := h5 d hd
      rcases ten hi with rfl | rfl | rfl | rfl | rfl | rfl | rfl | rfl | rfl | rfl <;> assumption
  · rintro ⟨h1, h2, h3, h4, h5⟩
    exact ⟨⟨h1 0 (by decide), h1 1 (by decide), h1 2 (by decide), h1 3 (by decide), h1 4 (by decide), h1 5 (by decide), h1 6 (by decide)⟩, h2, h3, h4, fun d hd => ⟨h5 d hd 0 (by decide), h5 d hd 1 (by decide), h5 d hd 2 (by decide), h5 d hd 3 (by decide), h5 d hd 4 (by decide), h5 d hd 5 (by decide), h5 d hd 6 (by decide), h5 d hd 7 (by decide), h5 d hd 8 (by decide), h5 d hd 9 (by decide)⟩⟩
theorem dG_f : ∀ i, i < 10 → 32 ≤ dG i ∧ dG i ≤ 104 ∧ dG i % 8 = 0 := by decide
theorem dG_i : ∀ i, i < 10 → ∀ k, k < 10 → dG i = dG k → i = k := by decide
theorem cG_f : ∀ k, k < 7 → cG k < 8 ∧ cG k ≠ 3 := by decide
theorem cG_i : ∀ i, i < 7 → ∀ k, k < 7 → cG i = cG k → i = k := by decide
section HM
variable {u : hS} {G : Nat → Nat}
theorem hR_d (hR : hRel u G) {d v : Nat} (k : Nat) (hd : d < 8) (h0 : G 0 ≤ 8) (h1 : G 1 ≤ 6) (h2 : G 2 ≤ 5) (hk : k < 10) : hRel (hu_d u d (va_up (hs_d u d) k v)) (va_up G (dG k + d) v) := by
  rw [hRel_iff] at hR ⊢
  obtain ⟨a1, a2, a3, a4, a5⟩ := hR
  have f := dG_f k hk
  refine ⟨fun j hj => ?_, fun j hj => ?_, fun t ht => ?_, fun j hj => ?_, fun e he i hi => ?_⟩
  · have := cG_f j hj
    rw [up_ne (by omega)]; exact a1 j hj
  · rw [up_ne (by omega)]; exact a2 j hj
  · rw [up_ne (by omega)] at ht ⊢; exact a3 t ht
  · rw [up_ne (by omega)] at hj
    rw [up_ne (by omega), up_ne (by omega)]; exact a4 j hj
  · rw [up_ne (by omega)] at he
    have g := dG_f i hi
    show hu_f u.2.2.2.2.2 d (va_up (hs_d u d) k v) e i = _
    unfold hu_f
    by_cases q : e = d
    · subst q
      rw [if_pos rfl]
      by_cases z : i = k
      · subst z; rw [up_eq rfl, up_eq rfl]
      · rw [up_ne z, up_ne (fun y => z (dG_i i hi k hk (by omega)))]; exact a5 e he i hi
    · rw [if_neg q, up_ne (by omega)]; exact a5 e he i hi
theorem hR_c (hR : hRel u G) {v : Nat} (k : Nat) (hk : k < 7) (h3 : 3 ≤ k) : hRel (hu_c u k v) (va_up G (cG k) v) := by
  rw [hRel_iff] at hR ⊢
  obtain ⟨a1, a2, a3, a4, a5⟩ := hR
  have f := cG_f k hk
  have f3 : 4 ≤ cG k := by
    have : ∀ k, k < 7 → 3 ≤ k → 4 ≤ cG k := by decide
    exact this k hk h3
  refine ⟨fun j hj => ?_, fun j hj => ?_, fun t ht => ?_, fun j hj => ?_, fun e he i hi => ?_⟩
  · show va_up u.1 k v j = _
    by_cases q : j = k
    · subst q; rw [up_eq rfl, up_eq rfl]
    · rw [up_ne q, up_ne (fun y => q (cG_i j hj k hk y))]; exact a1 j hj
  · rw [up_ne (by omega)]; exact a2 j hj
  · rw [up_ne (by omega)] at ht ⊢; exact a3 t ht
  · rw [up_ne (by omega)] at hj
    rw [up_ne (by omega), up_ne (by omega)]; exact a4 j hj
  · rw [up_ne (by omega)] at he
    have g := dG_f i hi
    rw [up_ne (by omega)]; exact a5 e he i hi
theorem hR_3 (hR : hRel u G) {v : Nat} : hRel u (va_up G 3 v) := by
  rw [hRel_iff] at hR ⊢
  obtain ⟨a1, a2, a3, a4, a5⟩ := hR
  refine ⟨fun j hj => ?_, fun j hj => ?_, fun t ht => ?_, fun j hj => ?_, fun e he i hi => ?_⟩
  · have := cG_f j hj
    rw [up_ne (by omega)]; exact a1 j hj
  · rw [up_ne (by omega)]; exact a2 j hj
  · rw [up_ne (by omega)] at ht ⊢; exact a3 t ht
  · rw [up_ne (by omega)] at hj
    rw [up_ne (by omega), up_ne (by omega)]; exact a4 j hj
  · rw [up_ne (by omega)] at he
    have g := dG_f i hi
    rw [up_ne (by omega)]; exact a5 e he i hi
theorem hR_g (hR : hRel u G) {t v : Nat} (ht : t < 6) (h0 : G 0 ≤ 8) (h1 : G 1 ≤ 6) : hRel (hu_g u t v) (va_up G (112 + t) v) := by
  rw [hRel_iff] at hR ⊢
  obtain ⟨a1, a2, a3, a4, a5⟩ := hR
  refine ⟨fun j hj => ?_, fun j hj => ?_, fun e he => ?_, fun j hj => ?_, fun e he i hi => ?_⟩
  · have := cG_f j hj
    rw [up_ne (by omega)]; exact a1 j hj
  · rw [up_ne (by omega)]; exact a2 j hj
  · rw [up_ne (by omega)] at he
    show va_up u.2.1 t v e = _
    by_cases q : e = t
    · subst q; rw [up_eq rfl, up_eq rfl]
    · rw [up_ne q, up_ne (by omega)]; exact a3 e he
  · rw [up_ne (by omega)] at hj
    rw [up_ne (by omega), up_ne (by omega)]; exact a4 j hj
  · rw [up_ne (by omega)] at he
    have g := dG_f i hi
    rw [up_ne (by omega)]; exact a5 e he i hi
theorem hR_e (hR : hRel u G) {p v : Nat} (hp : p < 24) (h0 : G 0 ≤ 8) : hRel (hu_e u p v) (va_up G (8 + p) v) := by
  rw [hRel_iff] at hR ⊢
  obtain ⟨a1, a2, a3, a4, a5⟩ := hR
  refine ⟨fun j hj => ?_, fun j hj => ?_, fun e he => ?_, fun j hj => ?_, fun e he i hi => ?_⟩
  · have := cG_f j hj
    rw [up_ne (by omega)]; exact a1 j hj
  · show va_up u.2.2.2.2.1 p v j = _
    by_cases q : j = p
    · subst q; rw [up_eq rfl, up_eq rfl]
    · rw [up_ne q, up_ne (by omega)]; exact a2 j hj
  · rw [up_ne (by omega)] at he ⊢; exact a3 e he
  · rw [up_ne (by omega)] at hj
    rw [up_ne (by omega), up_ne (by omega)]; exact a4 j hj
  · rw [up_ne (by omega)] at he
    have g := dG_f i hi
    rw [up_ne (by omega)]; exact a5 e he i hi
/-- a door more, told by f -/
theorem hR_door (hR : hRel u G) {b : Nat} (hG : gWf b G) (h8 : G 0 < 8) {f : Nat → Nat} (h5 : f 5 = 0) (h6 : f 6 = 0) (h7 : f 7 = 0) (h88 : f 8 = 0) (h9 : f 9 = 0) : hRel (hu_c (hu_d u (G 0) f) 0 (G 0 + 1)) (gDoor G (f 0) (f 1) (f 2) (f 3) (f 4)) := by
  obtain ⟨-, -, -, g1, g2, -⟩ := id hG
  obtain ⟨-, -, -, -, -, -, -, -, -, -, -, -, w4⟩ := hG.door h8
  obtain ⟨z5, z6, z8, z9, z7⟩ := w4 (Nat.le_refl _)
  rw [hRel_iff] at hR ⊢
  obtain ⟨a1, a2, a3, a4, a5⟩ := hR
  unfold gDoor
  refine ⟨fun j hj => ?_, fun j hj => ?_, fun e he => ?_, fun j hj => ?_, fun e he i hi => ?_⟩
  · have f1 := cG_f j hj
    show va_up u.1 0 (G 0 + 1) j = _
    by_cases q : j = 0
    · subst q
      show va_up u.1 0 (G 0 + 1) 0 = va_up _ 0 _ 0
      rw [up_eq rfl, up_eq rfl, up_ne (by omega), up_ne (by omega), up_ne (by omega), up_ne (by omega), up_ne (by omega)]
    · have q2 : ¬ cG j = 0 := fun y => q (cG_i j hj 0 (by decide) y)
      rw [up_ne q, up_ne q2, up_ne (by omega), up_ne (by omega), up_ne (by omega), up_ne (by omega), up_ne (by omega)]; exact a1 j hj
  · rw [up_ne (by omega), up_ne (by omega), up_ne (by omega), up_ne (by omega), up_ne (by omega), up_ne (by omega)]; exact a2 j hj
  · rw [up_ne (by omega), up_ne (by omega), up_ne (by omega), up_ne (by omega), up_ne (by omega), up_ne (by omega)] at he ⊢; exact a3 e he
  · rw [up_ne (by omega), up_ne (by omega), up_ne (by omega), up_ne (by omega), up_ne (by omega), up_ne (by omega)] at hj
    refine ⟨?_, ?_⟩
    · rw [up_ne (by omega), up_ne (by omega), up_ne (by omega), up_ne (by omega), up_ne (by omega), up_ne (by omega)]; exact (a4 j hj).1
    · rw [up_ne (by omega), up_ne (by omega), up_ne (by omega), up_ne (by omega), up_ne (by omega), up_ne (by omega)]; exact (a4 j hj).2
  · rw [up_eq rfl, up_ne (by omega), up_ne (by omega), up_ne (by omega), up_ne (by omega), up_ne (by omega)] at he
    have g := dG_f i hi
    show hu_f u.2.2.2.2.2 (G 0) f e i = _
    unfold hu_f
    by_cases q : e = G 0
    · subst q
      rw [if_pos rfl]
      rcases ten hi with rfl | rfl | rfl | rfl | rfl | rfl | rfl | rfl | rfl | rfl
      · show f 0 = va_up _ _ _ (32 + G 0); rw [up_ne (by omega), up_ne (by omega), up_ne (by omega), up_ne (by omega), up_ne (by omega), up_eq rfl]
      · show f 1 = va_up _ _ _ (40 + G 0); rw [up_ne (by omega), up_ne (by omega), up_ne (by omega), up_ne (by omega), up_eq rfl]
      · show f 2 = va_up _ _ _ (48 + G 0); rw [up_ne (by omega), up_ne (by omega), up_ne (by omega), up_eq rfl]
      · show f 3 = va_up _ _ _ (88 + G 0); rw [up_ne (by omega), up_ne (by omega), up_eq rfl]
      · show f 4 = va_up _ _ _ (96 + G 0); rw [up_ne (by omega), up_eq rfl]
      · show f 5 = va_up _ _ _ (56 + G 0); rw [up_ne (by omega), up_ne (by omega), up_ne (by omega), up_ne (by omega), up_ne (by omega), up_ne (by omega), z5, h5]
      · show f 6 = va_up _ _ _ (64 + G 0); rw [up_ne (by omega), up_ne (by omega), up_ne (by omega), up_ne (by omega), up_ne (by omega), up_ne (by omega), z6, h6]
      · show f 7 = va_up _ _ _ (104 + G 0); rw [up_ne (by omega), up_ne (by omega), up_ne (by omega), up_ne (by omega), up_ne (by omega), up_ne (by omega), z7, h7]
      · show f 8 = va_up _ _ _ (72 + G 0); rw [up_ne (by omega), up_ne (by omega), up_ne (by omega), up_ne (by omega), up_ne (by omega), up_ne (by omega), z8, h88]
      · show f 9 = va_up _ _ _ (80 + G 0); rw [up_ne (by omega), up_ne (by omega), up_ne (by omega), up_ne (by omega), up_ne (by omega), up_ne (by omega), z9, h9]
    · rw [if_neg q, up_ne (by omega), up_ne (by omega), up_ne (by omega), up_ne (by omega), up_ne (by omega), up_ne (by omega)]; exact a5 e (by omega) i hi
theorem hR_sill (hR : hRel u G) {c : Nat} (h0 : G 0 ≤ 8) (h1 : G 1 < 6) : hRel (hu_c (hu_g u (G 1) c) 1 (G 1 + 1)) (gSill G c) := by
  rw [hRel_iff] at hR ⊢
  obtain ⟨a1, a2, a3, a4, a5⟩ := hR
  unfold gSill
  refine ⟨fun j hj => ?_, fun j hj => ?_, fun e he => ?_, fun j hj => ?_, fun e he i hi => ?_⟩
  · have f1 := cG_f j hj
    show va_up u.1 1 (G 1 + 1) j = _
    by_cases q : j = 1
    · subst q
      show va_up u.1 1 (G 1 + 1) 1 = va_up _ 1 _ 1
      rw [up_eq rfl, up_eq rfl, up_ne (by omega)]
    · have q2 : ¬ cG j = 1 := fun y => q (cG_i j hj 1 (by decide) y)
      rw [up_ne q, up_ne q2, up_ne (by omega)]; exact a1 j hj
  · rw [up_ne (by omega), up_ne (by omega)]; exact a2 j hj
  · rw [up_eq rfl, up_ne (by omega)] at he
    show va_up u.2.1 (G 1) c e = _
    rw [up_ne (i := 1) (j := 112 + e) (by omega)]
    by_cases q : e = G 1
    · subst q; rw [up_eq rfl, up_eq rfl]
    · rw [up_ne q, up_ne (by omega)]; exact a3 e (by omega)
  · rw [up_ne (by omega), up_ne (by omega)] at hj
    rw [up_ne (by omega), up_ne (by omega), up_ne (by omega), up_ne (by omega)]; exact a4 j hj
  · rw [up_ne (by omega), up_ne (by omega)] at he
    have g := dG_f i hi
    rw [up_ne (by omega), up_ne (by omega)]; exact a5 e he i hi
theorem hR_key (hR : hRel u G) {a g : Nat} (h0 : G 0 ≤ 8) (h1 : G 1 ≤ 6) (h2 : G 2 < 5) : hRel (hu_c (hu_kg (hu_kd u (G 2) a) (G 2) g) 2 (G 2 + 1)) (gKey G a g) := by
  rw [hRel_iff] at hR ⊢
  obtain ⟨a1, a2, a3, a4, a5⟩ := hR
  unfold gKey
  refine ⟨fun j hj => ?_, fun j hj => ?_, fun e he => ?_, fun j hj => ?_, fun e he i hi => ?_⟩
  · have f1 := cG_f j hj
    show va_up u.1 2 (G 2 + 1) j = _
    by_cases q : j = 2
    · subst q
      show va_up u.1 2 (G 2 + 1) 2 = va_up _ 2 _ 2
      rw [up_eq rfl, up_eq rfl, up_ne (by omega), up_ne (by omega)]
    · have q2 : ¬ cG j = 2 := fun y => q (cG_i j hj 2 (by decide) y)
      rw [up_ne q, up_ne q2, up_ne (by omega), up_ne (by omega)]; exact a1 j hj
  · rw [up_ne (by omega), up_ne (by omega), up_ne (by omega)]; exact a2 j hj
  · rw [up_ne (by omega), up_ne (by omega), up_ne (by omega)] at he
    rw [up_ne (by omega), up_ne (by omega), up_ne (by omega)]; exact a3 e he
  · rw [up_eq rfl, up_ne (by omega), up_ne (by omega)] at hj
    show va_up u.2.2.1 (G 2) a j = _ ∧ va_up u.2.2.2.1 (G 2) g j = _
    rw [up_ne (i := 2) (j := 118 + j) (by omega), up_ne (i := 2) (j := 123 + j) (by omega)]
    by_cases q : j = G 2
    · subst q
      refine ⟨?_, ?_⟩
      · rw [up_eq rfl, up_ne (by omega), up_eq rfl]
      · rw [up_eq rfl, up_eq rfl]
    · refine ⟨?_, ?_⟩
      · rw [up_ne q, up_ne (by omega), up_ne (by omega)]; exact (a4 j (by omega)).1
      · rw [up_ne q, up_ne (i := 123 + G 2) (j := 123 + j) (by omega), up_ne (by omega)]; exact (a4 j (by omega)).2
  · rw [up_ne (by omega), up_ne (by omega), up_ne (by omega)] at he
    have g := dG_f i hi
    rw [up_ne (by omega), up_ne (by omega), up_ne (by omega)]; exact a5 e he i hi
/-- two houses' cells that are alike, where a house can be told by them -/
def hEq (u v : hS) : Prop := (∀ k, k < 7 → hs_c u k = hs_c v k) ∧ (∀ k, k < 24 → hs_e u k = hs_e v k) ∧ (∀ t, t < 6 → hs_g u t = hs_g v t) ∧ (∀ k, k < 5 → hs_kd u k = hs_kd v k ∧ hs_kg u k = hs_kg v k) ∧ (∀ d, d < 8 → ∀ i, i < 10 → hs_d u d i = hs_d v d i)
theorem hEq.ok {v : hS} (h : hEq v u) (hk : ∀ d, d < 8 → hs_d u d 8 ≤ 1 ∧ hs_d u d 9 ≤ 1) : ∀ d, d < 8 → hs_d v d 8 ≤ 1 ∧ hs_d v d 9 ≤ 1 := fun d hd => ⟨(h.2.2.2.2 d hd 8 (by decide)) ▸ (hk d hd).1, (h.2.2.2.2 d hd 9 (by decide)) ▸ (hk d hd).2⟩
theorem hEq.rel {v : hS} (h : hEq v u) (hR : hRel u G) (h0 : G 0 ≤ 8) (h1 : G 1 ≤ 6) (h2 : G 2 ≤ 5) : hRel v G := by
  rw [hRel_iff] at hR ⊢
  obtain ⟨a1, a2, a3, a4, a5⟩ := hR
  obtain ⟨b1, b2, b3, b4, b5⟩ := h
  exact ⟨fun k hk => (b1 k hk).trans (a1 k hk), fun k hk => (b2 k hk).trans (a2 k hk), fun t ht => (b3 t (by omega)).trans (a3 t ht), fun k hk => ⟨(b4 k (by omega)).1.trans (a4 k hk).1, (b4 k (by omega)).2.trans (a4 k hk).2⟩, fun d hd i hi => (b5 d (by omega) i hi).trans (a5 d hd i hi)⟩
/-- the same house told by another function -/
theorem hRel.congr {G' : Nat → Nat} (hR : hRel u G) (h0 : G 0 ≤ 8) (h1 : G 1 ≤ 6) (h2 : G 2 ≤ 5) (e : ∀ k, k < 128 → G' k = G k) : hRel u G' := by
  rw [hRel_iff] at hR ⊢
  obtain ⟨a1, a2, a3, a4, a5⟩ := hR
  have e0 := e 0 (by decide)
  have e1 := e 1 (by decide)
  have e2 := e 2 (by decide)
  refine ⟨fun k hk => ?_, fun k hk => ?_, fun t ht => ?_, fun k hk => ?_, fun d hd i hi => ?_⟩
  · have := cG_f k hk
    rw [e _ (by omega)]; exact a1 k hk
  · rw [e _ (by omega)]; exact a2 k hk
  · rw [e _ (by omega)]; exact a3 t (by omega)
  · rw [e _ (by omega), e _ (by omega)]; exact a4 k (by omega)
  · have := dG_f i hi
    rw [e _ (by omega)]; exact a5 d (by omega) i hi
/-- a new house: whatever stands beyond its counts -/
theorem hR_new (hc : ∀ k, k < 7 → hs_c u k = 0) (he : ∀ k, k < 24 → hs_e u k = gNew (8 + k)) : hRel u gNew := by
  rw [hRel_iff]
  have g : ∀ j, j < 8 → gNew j = 0 := fun j hj => if_neg (by omega)
  refine ⟨fun k hk => ?_, he, fun t ht => ?_, fun k hk => ?_, fun d hd => ?_⟩
  · have := cG_f k hk
    rw [hc k hk, g _ (by omega)]
  · rw [g 1 (by decide)] at ht; exact absurd ht (Nat.not_lt_zero _)
  · rw [g 2 (by decide)] at hk; exact absurd hk (Nat.not_lt_zero _)
  · rw [g 0 (by decide)] at hd; exact absurd hd (Nat.not_lt_zero _)
end HM
/-- the truth values of doors are such, also beyond the count -/
def hOk (u : hS) : Prop := ∀ d, d < 8 → hs_d u d 8 ≤ 1 ∧ hs_d u d 9 ≤ 1
theorem hOk_d {u : hS} (h : hOk u) {d k v : Nat} (hv : (k = 8 ∨ k = 9) → v ≤ 1) : hOk (hu_d u d (va_up (hs_d u d) k v)) := by
  intro e he
  show hu_f u.2.2.2.2.2 d (va_up (hs_d u d) k v) e 8 ≤ 1 ∧ hu_f u.2.2.2.2.2 d (va_up (hs_d u d) k v) e 9 ≤ 1
  unfold hu_f
  by_cases q : e = d
  · subst q
    rw [if_pos rfl]
    refine ⟨?_, ?_⟩
    · by_cases z : 8 = k
      · rw [up_eq z]; exact hv (Or.inl z.symm)
      · rw [up_ne z]; exact (h e he).1
    · by_cases z : 9 = k
      · rw [up_eq z]; exact hv (Or.inr z.symm)
      · rw [up_ne z]; exact (h e he).2
  · rw [if_neg q]; exact h e he
theorem hOk_f {u : hS} (h : hOk u) {d : Nat} {f : Nat → Nat} (h8 : f 8 ≤ 1) (h9 : f 9 ≤ 1) : hOk (hu_d u d f) := by
  intro e he
  show hu_f u.2.2.2.2.2 d f e 8 ≤ 1 ∧ hu_f u.2.2.2.2.2 d f e 9 ≤ 1
  unfold hu_f
  by_cases q : e = d
  · rw [if_pos q]; exact ⟨h8, h9⟩
  · rw [if_neg q]; exact h e he
/-- a house's cells at ad hold the house G -/
def hO (D : va_G) (cI cD : ClassId) (ad : Nat → Nat) (G : Nat → Nat) (H : Heap) : Prop := ∃ u, hRel u G ∧ hOk u ∧ va_P D vwCl (hw cI cD ad u) H
/-- a contract's end: what holds of the heap, the answer v, nothing outside A changed -/
def gQ (v : Int32) (P1 : Heap → Prop) (A : Nat → Prop) : Array Value → State → Outcome → State → Prop := va_Qi (fun (r : Int32) (_ : Unit) => r = v) (fun _ t => P1 t.heap) A
def gQv (P1 : Heap → Prop) (A : Nat → Prop) : Array Value → State → Outcome → State → Prop := va_Qv (fun (_ : Unit) => True) (fun _ t => P1 t.heap) A
def gQr (v : Nat) (P1 : Heap → Prop) (A : Nat → Prop) : Array Value → State → Outcome → State → Prop := va_Qr (fun (_ : Unit) => True) (fun _ r t => r = v ∧ P1 t.heap) A
section GQ
variable {p : Program} {l : Launch} {e : Env} {R : Room} {s : State} {m : MethodId} {args : Array Value} {below : List Frame} {meth : Method} {c : Code} {H : Heap} {locs : List Loc} {cells slots : Nat} {Q : State → Prop}
variable {cc : ByteArray} {pc mc ms : Nat} {ls : Array Slot} {rest st0 : List Value} {D : va_G} {tys : List (ClassId × FieldType)} {P1 : Heap → Prop} {v : Int32} {A A1 : Nat → Prop} {H0 : Heap}
theorem nv_retG {x : Int32} {ty : FieldType} (hq : ∀ t, MQ below (gQ v P1 A) args s cells slots A t → Q t) (hx : p.tables.exec = Jvm.exec) (hb : c.code = cc) (hr : meth.sig.returnType = some ty) (hlocks : meth.locks = false) (hn : narrow ty (.int x) = .int x) (he : x = v) (hS : va_S A s.heap H locs) (hP : P1 H) (hdg : decode cc pc = .ok (.ireturn, 1)) : W p l e R s m args below meth c H locs cells slots Q (F0 m pc ls [.int x]) :=
  W.mono hq (W.zret hx hb hr hn (fun t ht _ => ⟨⟨x, (), rfl, he, by subst ht; exact hP⟩, hS.F ht⟩) hS.2.2 hdg hlocks)
theorem nv_retGv (hq : ∀ t, MQ below (gQv P1 A) args s cells slots A t → Q t) (hx : p.tables.exec = Jvm.exec) (hb : c.code = cc) (hr : meth.sig.returnType = none) (hlocks : meth.locks = false) (hS : va_S A s.heap H locs) (hP : P1 H) (hdg : decode cc pc = .ok (.return_, 1)) : W p l e R s m args below meth c H locs cells slots Q (F0 m pc ls []) :=
  W.mono hq (W.vret hx hb hr (fun t ht _ => ⟨⟨(), rfl, trivial, by subst ht; exact hP⟩, hS.F ht⟩) hS.2.2 hdg hlocks)
theorem nv_kG {a : Array Value} (hr : va_Run p l e R s m args below meth c H locs cells slots mc ms (F0 m pc ls st0) rest (gQ v P1 A1 a) A1) (hS : va_S A H0 H locs) (hA : ∀ q, A1 q → A q) (k : ∀ (H1 : Heap) (locs1 : List Loc), P1 H1 → (∀ q : Nat, q < H.size → ¬ A1 q → H1[q]? = H[q]?) → va_S A H0 H1 locs1 → W p l e R s m args below meth c H1 locs1 (cells + mc) (slots + ms) Q (F0 m (pc + 3) ls (.int v :: rest))) : W p l e R s m args below meth c H locs cells slots Q (F0 m pc ls st0) :=
  va_calli hr hS (fun q _ h => hA q h) (fun q h => hA q h) (fun r _ t H1 locs1 ht _ hv hB _ hk hS1 => by rw [hv]; exact k H1 locs1 (by rw [← ht]; exact hB) hk hS1)
theorem nv_kGv {a : Array Value} (hr : va_Run p l e R s m args below meth c H locs cells slots mc ms (F0 m pc ls st0) rest (gQv P1 A1 a) A1) (hS : va_S A H0 H locs) (hA : ∀ q, A1 q → A q) (k : ∀ (H1 : Heap) (locs1 : List Loc), P1 H1 → (∀ q : Nat, q < H.size → ¬ A1 q → H1[q]? = H[q]?) → va_S A H0 H1 locs1 → W p l e R s m args below meth c H1 locs1 (cells + mc) (slots + ms) Q (F0 m (pc + 3) ls rest)) : W p l e R s m args below meth c H locs cells slots Q (F0 m pc ls st0) :=
  va_callv hr hS (fun q _ h => hA q h) (fun q h => hA q h) (fun _ t H1 locs1 ht _ _ hB _ hk hS1 => k H1 locs1 (by rw [← ht]; exact hB) hk hS1)
theorem nv_kGr {v : Nat} {a : Array Value} (hr : va_Run p l e R s m args below meth c H locs cells slots mc ms (F0 m pc ls st0) rest (gQr v P1 A1 a) A1) (hS : va_S A H0 H locs) (hA : ∀ q, A1 q → A q) (k : ∀ (H1 : Heap) (locs1 : List Loc), P1 H1 → (∀ q : Nat, q < H.size → ¬ A1 q → H1[q]? = H[q]?) → va_S A H0 H1 locs1 → W p l e R s m args below meth c H1 locs1 (cells + mc) (slots + ms) Q (F0 m (pc + 3) ls (.ref v :: rest))) : W p l e R s m args below meth c H locs cells slots Q (F0 m pc ls st0) :=
  va_callr hr hS (fun q _ h => hA q h) (fun q h => hA q h) (fun _ ra t H1 locs1 ht _ _ hB _ hk hS1 => by obtain ⟨e1, hB⟩ := hB; subst e1; exact k H1 locs1 (by rw [← ht]; exact hB) hk hS1)
/-- System.arraycopy of ints, from the first place to the first place -/
theorem nv_copy0 {cl : List vw_C} {ws : va_W} {a : Nat} (hx : p.tables.exec = Jvm.exec) (hb : c.code = cc) (hml : c.maxLocals = ls.size) {own : String} {index : Nat} (hown : s.vm.findClass own = some m.cls) (hlink : (Cond.methodLink own index arraycopyName).before args s = true) (hnat : (Cond.native arraycopyName).before args s = true) (hstat : (Cond.static arraycopyName).before args s = true) (hini : (Cond.initialized "java/lang/System").before args s = true)
    (hK : va_K D cl tys s) (hP : va_P D cl ws H) (hD : va_D A ws) (hS : va_S A H0 H locs) (q0 q1 t0 : Nat) {a0 : Nat} {c0 : ClassId} {n : Nat} {F G : Nat → Nat} (ha0 : ws[q0]? = some (a0, .inl (c0, n, .inl (gN F)))) (ha1 : ws[q1]? = some (a, .inl (c0, n, .inl (gN G)))) (ht0 : tys[t0]? = some (c0, .int)) (hn : n < 2 ^ 31)
    (hframes : 1 ≤ R.frames) (hlocals : (rest.map fun v => v.category).sum + (nativeFrameWords "java/lang/System" "arraycopy" 5 + 11) ≤ R.locals) (hdg : decode cc pc = .ok (.invokestatic index, 3))
    (kk : ∀ (H1 : Heap) (locs1 : List Loc), va_P D cl (ws.set q1 (a, .inl (c0, n, .inl (gN (va_cpy F G 0 0 n))))) H1 → va_S A H0 H1 locs1 → W p l e R s m args below meth c H1 locs1 cells slots Q (F0 m (pc + 3) ls rest)) : W p l e R s m args below meth c H locs cells slots Q (F0 m pc ls (.int (nI n) :: .int (nI 0) :: .ref a :: .int (nI 0) :: .ref a0 :: rest)) := by
  have e0 : (nI 0).toNatClampNeg = 0 := by decide
  have en : (nI n).toNatClampNeg = n := nI_clamp hn
  refine va_copyi hx hb hml hown hlink hnat hstat hini hK hP hD hS q0 q1 t0 t0 ha0 ha1 ht0 ht0 rfl (by decide) (by decide) (fun q => ?_) (by rw [e0, en]; omega) (by rw [e0, en]; omega) (fun i _ => rfl) hframes hlocals hdg (fun H1 locs1 h1 _ h3 => ?_)
  · have q1 := Int32.lt_iff_toInt_lt.mp q
    rw [nI_toInt hn, Int32.toInt_zero] at q1
    omega
  · rw [e0, en, ← gN_cpy] at h1
    exact kk H1 locs1 h1 h3
end GQ
/-! two houses, one behind the other -/
section HW2
variable {D : va_G} {cl : List vw_C} {H : Heap} {cI cD : ClassId} {ad ad2 : Nat → Nat} {u v : hS} {w : va_W} {f : Nat → Nat}
theorem hwa_at (i : Nat) (h : i < 8) : (hw cI cD ad u ++ w)[6 + i]? = some (ad (6 + i), dc (hs_d u i)) := by
  rw [List.getElem?_append_left (show 6 + i < 14 by omega)]; exact hw_at i h
theorem hwb_at (i : Nat) (h : i < 8) : (hw cI cD ad u ++ hw cI cD ad2 v)[20 + i]? = some (ad2 (6 + i), dc (hs_d v i)) := by
  rw [List.getElem?_append_right (show 14 ≤ 20 + i by omega), show 20 + i - (hw cI cD ad u).length = 6 + i from by show 20 + i - 14 = _; omega]; exact hw_at i h
theorem hwa_put (i : Nat) (h : i < 8) (hP : va_P D cl ((hw cI cD ad u ++ w).set (6 + i) (ad (6 + i), dc f)) H) : va_P D cl (hw cI cD ad (hu_d u i f) ++ w) H := by
  have e : (hw cI cD ad u ++ w).set (6 + i) (ad (6 + i), dc f) = hw cI cD ad (hu_d u i f) ++ w := by
    rcases (show i = 0 ∨ i = 1 ∨ i = 2 ∨ i = 3 ∨ i = 4 ∨ i = 5 ∨ i = 6 ∨ i = 7 by omega) with rfl | rfl | rfl | rfl | rfl | rfl | rfl | rfl <;> rfl
  rw [← e]; exact hP
theorem va_P.left {a b : va_W} (h : va_P D cl (a ++ b) H) : va_P D cl a H := fun k q hk => h k q (by rw [List.getElem?_append_left (List.getElem?_eq_some_iff.mp hk).1]; exact hk)
theorem va_P.right {a b : va_W} (h : va_P D cl (a ++ b) H) : va_P D cl b H := fun k q hk => h (a.length + k) q (by rw [List.getElem?_append_right (by omega), Nat.add_sub_cancel_left]; exact hk)
end HW2
