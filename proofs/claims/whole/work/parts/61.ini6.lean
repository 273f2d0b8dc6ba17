/-- the addresses of a list of cells -/
def lAD (w : va_W) : Nat → Nat := fun i => (w.map Prod.fst).getD i 0
theorem lAD_at {w : va_W} {i : Nat} {q : Nat × va_E} (h : w[i]? = some q) : lAD w i = q.1 := by
  unfold lAD
  rw [List.getD_eq_getElem?_getD, List.getElem?_map, h]
  rfl
theorem lAD_inj {A : Nat → Prop} {w : va_W} (hD : va_D A w) (hl : w.length = 165) : cInj (lAD w) ∧ ∀ i, i < 165 → A (lAD w i) := by
  have key : ∀ i, i < 165 → ∃ q, w[i]? = some q := fun i hi => ⟨w[i]'(by omega), List.getElem?_eq_getElem (by omega)⟩
  refine ⟨fun i j hi hj e => ?_, fun i hi => ?_⟩
  · obtain ⟨p, hp⟩ := key i hi
    obtain ⟨q, hq⟩ := key j hj
    rw [lAD_at hp, lAD_at hq] at e
    exact hD.1 i j p q hp hq e
  · obtain ⟨p, hp⟩ := key i hi
    rw [lAD_at hp]
    exact hD.2 i p hp
theorem hw_ad {D : va_G} {H : Heap} {cI cD : ClassId} {a b : Nat → Nat} {u : hS} (h : ∀ j, j < 14 → a j = b j) (hP : va_P D vwCl (hw cI cD a u) H) : va_P D vwCl (hw cI cD b u) H := by
  have h1 := va_P_arq hP 1 (fun i => some (b (6 + i))) rfl (fun k hk => by rw [h (6 + k) (by omega)])
  have e : (hw cI cD a u).set 1 (a 1, .inl (cD, 8, .inr (.inr (.inr (.inr (fun i => some (b (6 + i)))))))) = hw cI cD b u := by
    unfold hw
    rw [h 0 (by decide), h 1 (by decide), h 2 (by decide), h 3 (by decide), h 4 (by decide), h 5 (by decide), h 6 (by decide), h 7 (by decide), h 8 (by decide), h 9 (by decide), h 10 (by decide), h 11 (by decide), h 12 (by decide), h 13 (by decide)]
    rfl
  rw [← e]; exact h1

section X6N
variable {D : va_G} {H : Heap} {cI cC cD cR : ClassId} {AD b0 b1 x3 x4 x5 Sv Hi Le : Nat → Nat} {h p9 : Nat} {v0 v1 : hS} {w2 : Nat × (Nat → Nat → Nat) × (Nat → hS)}
/-- a new object's world -/
theorem x6_new (hAD : AD = lAD ([(h, .inr (8, [.ref (b0 0), .ref (b1 0), .ref p9, .ref (x3 0), .ref (x4 0), .ref (x5 0), .int (nI 0), .int (nI 0), .int (nI 0), .int (-1), .int (-1)]))] ++ hw cI cD b0 v0 ++ hw cI cD b1 v1 ++ paL cI cD cR p9 w2.1 w2.2.1 w2.2.2 ++ wk cI x3 (fun _ => 0) (fun _ => 0) ++ tw cC x4 (fun _ => 0) 0 ++ iw cI cC x5 (fun _ => 0) (fun _ => 0) 0 0 0 0)) (hPo : va_P D vwCl [(h, .inr (8, [.ref (b0 0), .ref (b1 0), .ref p9, .ref (x3 0), .ref (x4 0), .ref (x5 0), .int (nI 0), .int (nI 0), .int (nI 0), .int (-1), .int (-1)]))] H) (hP0 : va_P D vwCl (hw cI cD b0 v0) H) (hP1 : va_P D vwCl (hw cI cD b1 v1) H) (hP2 : va_P D vwCl (paL cI cD cR p9 w2.1 w2.2.1 w2.2.2) H) (hP3 : va_P D vwCl (wk cI x3 (fun _ => 0) (fun _ => 0)) H) (hP4 : va_P D vwCl (tw cC x4 (fun _ => 0) 0) H) (hP5 : va_P D vwCl (iw cI cC x5 (fun _ => 0) (fun _ => 0) 0 0 0 0) H)
    (hR0 : hRel v0 gNew) (hk0 : hOk v0) (hk1 : hOk v1) (hall : ∀ k, k < 9 → hRel (w2.2.2 k) gNew ∧ hOk (w2.2.2 k)) : cW D cI cC cD cR AD gNew Sv Hi (fun _ => 0) Le 0 0 0 0 0 (-1) (-1) (nI 0) H := by
  subst hAD
  have hq : ∀ k, k < 9 → va_P D vwCl (hw cI cD (cAd (lAD ([(h, .inr (8, [.ref (b0 0), .ref (b1 0), .ref p9, .ref (x3 0), .ref (x4 0), .ref (x5 0), .int (nI 0), .int (nI 0), .int (nI 0), .int (-1), .int (-1)]))] ++ hw cI cD b0 v0 ++ hw cI cD b1 v1 ++ paL cI cD cR p9 w2.1 w2.2.1 w2.2.2 ++ wk cI x3 (fun _ => 0) (fun _ => 0) ++ tw cC x4 (fun _ => 0) 0 ++ iw cI cC x5 (fun _ => 0) (fun _ => 0) 0 0 0 0)) (31 + 14 * k)) (w2.2.2 k)) H := by
    have hQ := hP2
    unfold paL at hQ
    have h8 := va_P.right hQ
    have hQ := va_P.left hQ
    have h7 := va_P.right hQ
    have hQ := va_P.left hQ
    have h6 := va_P.right hQ
    have hQ := va_P.left hQ
    have h5 := va_P.right hQ
    have hQ := va_P.left hQ
    have h4 := va_P.right hQ
    have hQ := va_P.left hQ
    have h3 := va_P.right hQ
    have hQ := va_P.left hQ
    have h2 := va_P.right hQ
    have hQ := va_P.left hQ
    have h1 := va_P.right hQ
    have hQ := va_P.left hQ
    have h0 := va_P.right hQ
    intro k hk
    rcases (show k = 0 ∨ k = 1 ∨ k = 2 ∨ k = 3 ∨ k = 4 ∨ k = 5 ∨ k = 6 ∨ k = 7 ∨ k = 8 by omega) with rfl | rfl | rfl | rfl | rfl | rfl | rfl | rfl | rfl
    · exact hw_ad (fun j hj => by rcases (show j = 0 ∨ j = 1 ∨ j = 2 ∨ j = 3 ∨ j = 4 ∨ j = 5 ∨ j = 6 ∨ j = 7 ∨ j = 8 ∨ j = 9 ∨ j = 10 ∨ j = 11 ∨ j = 12 ∨ j = 13 by omega) with rfl | rfl | rfl | rfl | rfl | rfl | rfl | rfl | rfl | rfl | rfl | rfl | rfl | rfl <;> rfl) h0
    · exact hw_ad (fun j hj => by rcases (show j = 0 ∨ j = 1 ∨ j = 2 ∨ j = 3 ∨ j = 4 ∨ j = 5 ∨ j = 6 ∨ j = 7 ∨ j = 8 ∨ j = 9 ∨ j = 10 ∨ j = 11 ∨ j = 12 ∨ j = 13 by omega) with rfl | rfl | rfl | rfl | rfl | rfl | rfl | rfl | rfl | rfl | rfl | rfl | rfl | rfl <;> rfl) h1
    · exact hw_ad (fun j hj => by rcases (show j = 0 ∨ j = 1 ∨ j = 2 ∨ j = 3 ∨ j = 4 ∨ j = 5 ∨ j = 6 ∨ j = 7 ∨ j = 8 ∨ j = 9 ∨ j = 10 ∨ j = 11 ∨ j = 12 ∨ j = 13 by omega) with rfl | rfl | rfl | rfl | rfl | rfl | rfl | rfl | rfl | rfl | rfl | rfl | rfl | rfl <;> rfl) h2
    · exact hw_ad (fun j hj => by rcases (show j = 0 ∨ j = 1 ∨ j = 2 ∨ j = 3 ∨ j = 4 ∨ j = 5 ∨ j = 6 ∨ j = 7 ∨ j = 8 ∨ j = 9 ∨ j = 10 ∨ j = 11 ∨ j = 12 ∨ j = 13 by omega) with rfl | rfl | rfl | rfl | rfl | rfl | rfl | rfl | rfl | rfl | rfl | rfl | rfl | rfl <;> rfl) h3
    · exact hw_ad (fun j hj => by rcases (show j = 0 ∨ j = 1 ∨ j = 2 ∨ j = 3 ∨ j = 4 ∨ j = 5 ∨ j = 6 ∨ j = 7 ∨ j = 8 ∨ j = 9 ∨ j = 10 ∨ j = 11 ∨ j = 12 ∨ j = 13 by omega) with rfl | rfl | rfl | rfl | rfl | rfl | rfl | rfl | rfl | rfl | rfl | rfl | rfl | rfl <;> rfl) h4
    · exact hw_ad (fun j hj => by rcases (show j = 0 ∨ j = 1 ∨ j = 2 ∨ j = 3 ∨ j = 4 ∨ j = 5 ∨ j = 6 ∨ j = 7 ∨ j = 8 ∨ j = 9 ∨ j = 10 ∨ j = 11 ∨ j = 12 ∨ j = 13 by omega) with rfl | rfl | rfl | rfl | rfl | rfl | rfl | rfl | rfl | rfl | rfl | rfl | rfl | rfl <;> rfl) h5
    · exact hw_ad (fun j hj => by rcases (show j = 0 ∨ j = 1 ∨ j = 2 ∨ j = 3 ∨ j = 4 ∨ j = 5 ∨ j = 6 ∨ j = 7 ∨ j = 8 ∨ j = 9 ∨ j = 10 ∨ j = 11 ∨ j = 12 ∨ j = 13 by omega) with rfl | rfl | rfl | rfl | rfl | rfl | rfl | rfl | rfl | rfl | rfl | rfl | rfl | rfl <;> rfl) h6
    · exact hw_ad (fun j hj => by rcases (show j = 0 ∨ j = 1 ∨ j = 2 ∨ j = 3 ∨ j = 4 ∨ j = 5 ∨ j = 6 ∨ j = 7 ∨ j = 8 ∨ j = 9 ∨ j = 10 ∨ j = 11 ∨ j = 12 ∨ j = 13 by omega) with rfl | rfl | rfl | rfl | rfl | rfl | rfl | rfl | rfl | rfl | rfl | rfl | rfl | rfl <;> rfl) h7
    · exact hw_ad (fun j hj => by rcases (show j = 0 ∨ j = 1 ∨ j = 2 ∨ j = 3 ∨ j = 4 ∨ j = 5 ∨ j = 6 ∨ j = 7 ∨ j = 8 ∨ j = 9 ∨ j = 10 ∨ j = 11 ∨ j = 12 ∨ j = 13 by omega) with rfl | rfl | rfl | rfl | rfl | rfl | rfl | rfl | rfl | rfl | rfl | rfl | rfl | rfl <;> rfl) h8
  have hp : va_P D vwCl (pw9 cR (lAD ([(h, .inr (8, [.ref (b0 0), .ref (b1 0), .ref p9, .ref (x3 0), .ref (x4 0), .ref (x5 0), .int (nI 0), .int (nI 0), .int (nI 0), .int (-1), .int (-1)]))] ++ hw cI cD b0 v0 ++ hw cI cD b1 v1 ++ paL cI cD cR p9 w2.1 w2.2.1 w2.2.2 ++ wk cI x3 (fun _ => 0) (fun _ => 0) ++ tw cC x4 (fun _ => 0) 0 ++ iw cI cC x5 (fun _ => 0) (fun _ => 0) 0 0 0 0)) 0 0) H := by
    have hQ : va_P D vwCl [(p9, .inr (5, [.ref w2.1, .int (nI 0), .int (nI 0)])), (w2.1, .inl (cR, 9, .inr (.inr (.inr (.inr (fun i => some (w2.2.1 i 0)))))))] H := hP2.sub [0, 1] rfl
    exact va_P_arq hQ 1 (fun i => some (cAd (lAD ([(h, .inr (8, [.ref (b0 0), .ref (b1 0), .ref p9, .ref (x3 0), .ref (x4 0), .ref (x5 0), .int (nI 0), .int (nI 0), .int (nI 0), .int (-1), .int (-1)]))] ++ hw cI cD b0 v0 ++ hw cI cD b1 v1 ++ paL cI cD cR p9 w2.1 w2.2.1 w2.2.2 ++ wk cI x3 (fun _ => 0) (fun _ => 0) ++ tw cC x4 (fun _ => 0) 0 ++ iw cI cC x5 (fun _ => 0) (fun _ => 0) 0 0 0 0)) (31 + 14 * i) 0)) rfl (fun k hk => by rcases (show k = 0 ∨ k = 1 ∨ k = 2 ∨ k = 3 ∨ k = 4 ∨ k = 5 ∨ k = 6 ∨ k = 7 ∨ k = 8 by omega) with rfl | rfl | rfl | rfl | rfl | rfl | rfl | rfl | rfl <;> rfl)
  refine ⟨hPo, ⟨v0, hR0, hk0, hw_ad (fun j hj => by rcases (show j = 0 ∨ j = 1 ∨ j = 2 ∨ j = 3 ∨ j = 4 ∨ j = 5 ∨ j = 6 ∨ j = 7 ∨ j = 8 ∨ j = 9 ∨ j = 10 ∨ j = 11 ∨ j = 12 ∨ j = 13 by omega) with rfl | rfl | rfl | rfl | rfl | rfl | rfl | rfl | rfl | rfl | rfl | rfl | rfl | rfl <;> rfl) hP0⟩, ⟨_, _, 0, 0, 0, rfl, hP5⟩, ⟨v1, fun q => absurd q (by decide), hk1, hw_ad (fun j hj => by rcases (show j = 0 ∨ j = 1 ∨ j = 2 ∨ j = 3 ∨ j = 4 ∨ j = 5 ∨ j = 6 ∨ j = 7 ∨ j = 8 ∨ j = 9 ∨ j = 10 ∨ j = 11 ∨ j = 12 ∨ j = 13 by omega) with rfl | rfl | rfl | rfl | rfl | rfl | rfl | rfl | rfl | rfl | rfl | rfl | rfl | rfl <;> rfl) hP1⟩, ⟨0, by decide, hp, fun k hk => ⟨_, (hall k hk).2, hq k hk, fun j hj => absurd hj (Nat.not_lt_zero j)⟩⟩, ⟨_, _, hP3⟩, ⟨_, fun i hi => absurd hi (Nat.not_lt_zero i), Nat.zero_le _, hP4⟩⟩
end X6N
