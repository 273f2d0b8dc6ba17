/-- the addresses of a list of cells -/
def lAD (w : va_W) : Nat → Nat := fun i => (w.map Prod.fst).getD i 0
theorem lAD_at {w : va_W} {i : Nat} {q : Nat × va_E} (h : w[i]? = some q) : lAD w i = q.1 := by
  unfold lAD
  rw [List.getD_eq_getElem?_getD, List.getElem?_map, h]
  rfl
theorem lAD_inj {A : Nat → Prop} {w : va_W} (hD : va_D A w) (hl : w.length = 165) : cInj (lAD w) ∧ ∀ i, i < 165 → A (lAD w i) := by
  have key : ∀ i, i < 165 → ∃ q, w[i]? = some q := fun i hi => ⟨w[i]'(by omega), List.getElem?_eq_getElem (by omega)⟩
  refine ⟨fun i j hi hj e => ?_, fun i hi => ?_⟩
  · obtain ⟨p, hp⟩ := key i hi
    obtain ⟨q, hq⟩ := key j hj
    rw [lAD_at hp, lAD_at hq] at e
    exact hD.1 i j p q hp hq e
  · obtain ⟨p, hp⟩ := key i hi
    rw [lAD_at hp]
    exact hD.2 i p hp
theorem hw_ad {D : va_G} {H : Heap} {cI cD : ClassId} {a b : Nat → Nat} {u : hS} (h : ∀ j, j < 14 → a j = b j) (hP : va_P D vwCl (hw cI cD a u) H) : va_P D vwCl (hw cI cD b u) H := by
  have h1 := va_P_arq hP 1 (fun i => some (b (6 + i))) rfl (fun k hk => by rw [h (6 + k) (by omega)])
  have e : (hw cI cD a u).set 1 (a 1, .inl (cD, 8, .inr (.inr (.inr (.inr (fun i => some (b (6 + i)))))))) = hw cI cD b u := by
    unfold hw
    rw [h 0 (by decide), h 1 (by decide), h 2 (by decide), h 3 (by decide), h 4 (by decide), h 5 (by decide), h 6 (by decide), h 7 (by decide), h 8 (by decide), h 9 (by decide), h 10 (by decide), h 11 (by decide), h 12 (by decide), h 13 (by decide)]
    rfl
  rw [← e]; exact h1

theorem lAD_l {a b : va_W} {i : Nat} (h : i < a.length) : lAD (a ++ b) i = lAD a i := by
  unfold lAD
  rw [List.getD_eq_getElem?_getD, List.getD_eq_getElem?_getD, List.getElem?_map, List.getElem?_map, List.getElem?_append_left h]
theorem lAD_r {a b : va_W} {n i : Nat} (h : a.length = n) : lAD (a ++ b) (n + i) = lAD b i := by
  subst h
  unfold lAD
  rw [List.getD_eq_getElem?_getD, List.getD_eq_getElem?_getD, List.getElem?_map, List.getElem?_map, List.getElem?_append_right (Nat.le_add_right _ _), Nat.add_sub_cancel_left]
theorem lAD_hw {cI cD : ClassId} {a : Nat → Nat} {u : hS} : ∀ j, j < 14 → lAD (hw cI cD a u) j = a j := by
  intro j hj
  rcases (show j = 0 ∨ j = 1 ∨ j = 2 ∨ j = 3 ∨ j = 4 ∨ j = 5 ∨ j = 6 ∨ j = 7 ∨ j = 8 ∨ j = 9 ∨ j = 10 ∨ j = 11 ∨ j = 12 ∨ j = 13 by omega) with rfl | rfl | rfl | rfl | rfl | rfl | rfl | rfl | rfl | rfl | rfl | rfl | rfl | rfl <;> rfl

set_option maxHeartbeats 4000000 in
set_option maxRecDepth 100000 in
theorem paL_ad {cI cD cR : ClassId} {p r : Nat} {b : Nat → Nat → Nat} {v : Nat → hS} : ∀ k, k < 9 → ∀ j, j < 14 → lAD (paL cI cD cR p r b v) (2 + 14 * k + j) = b k j := by
  intro k hk j hj
  unfold paL
  rcases (show k = 0 ∨ k = 1 ∨ k = 2 ∨ k = 3 ∨ k = 4 ∨ k = 5 ∨ k = 6 ∨ k = 7 ∨ k = 8 by omega) with rfl | rfl | rfl | rfl | rfl | rfl | rfl | rfl | rfl
  · rw [show 2 + 14 * 0 + j = 2 + j by omega, lAD_l (by show _ < 114; omega), lAD_l (by show _ < 100; omega), lAD_l (by show _ < 86; omega), lAD_l (by show _ < 72; omega), lAD_l (by show _ < 58; omega), lAD_l (by show _ < 44; omega), lAD_l (by show _ < 30; omega), lAD_l (by show _ < 16; omega), lAD_r (n := 2) (by rfl)]; exact lAD_hw j hj
  · rw [show 2 + 14 * 1 + j = 16 + j by omega, lAD_l (by show _ < 114; omega), lAD_l (by show _ < 100; omega), lAD_l (by show _ < 86; omega), lAD_l (by show _ < 72; omega), lAD_l (by show _ < 58; omega), lAD_l (by show _ < 44; omega), lAD_l (by show _ < 30; omega), lAD_r (n := 16) (by rfl)]; exact lAD_hw j hj
  · rw [show 2 + 14 * 2 + j = 30 + j by omega, lAD_l (by show _ < 114; omega), lAD_l (by show _ < 100; omega), lAD_l (by show _ < 86; omega), lAD_l (by show _ < 72; omega), lAD_l (by show _ < 58; omega), lAD_l (by show _ < 44; omega), lAD_r (n := 30) (by rfl)]; exact lAD_hw j hj
  · rw [show 2 + 14 * 3 + j = 44 + j by omega, lAD_l (by show _ < 114; omega), lAD_l (by show _ < 100; omega), lAD_l (by show _ < 86; omega), lAD_l (by show _ < 72; omega), lAD_l (by show _ < 58; omega), lAD_r (n := 44) (by rfl)]; exact lAD_hw j hj
  · rw [show 2 + 14 * 4 + j = 58 + j by omega, lAD_l (by show _ < 114; omega), lAD_l (by show _ < 100; omega), lAD_l (by show _ < 86; omega), lAD_l (by show _ < 72; omega), lAD_r (n := 58) (by rfl)]; exact lAD_hw j hj
  · rw [show 2 + 14 * 5 + j = 72 + j by omega, lAD_l (by show _ < 114; omega), lAD_l (by show _ < 100; omega), lAD_l (by show _ < 86; omega), lAD_r (n := 72) (by rfl)]; exact lAD_hw j hj
  · rw [show 2 + 14 * 6 + j = 86 + j by omega, lAD_l (by show _ < 114; omega), lAD_l (by show _ < 100; omega), lAD_r (n := 86) (by rfl)]; exact lAD_hw j hj
  · rw [show 2 + 14 * 7 + j = 100 + j by omega, lAD_l (by show _ < 114; omega), lAD_r (n := 100) (by rfl)]; exact lAD_hw j hj
  · rw [show 2 + 14 * 8 + j = 114 + j by omega, lAD_r (n := 114) (by rfl)]; exact lAD_hw j hj

set_option maxHeartbeats 4000000 in
set_option maxRecDepth 100000 in
theorem x6_h0 {cI cC cD cR : ClassId} {AD b0 b1 x3 x4 x5 : Nat → Nat} {h p9 : Nat} {v0 v1 : hS} {w2 : Nat × (Nat → Nat → Nat) × (Nat → hS)} (hAD : AD = lAD ([(h, .inr (8, [.ref (b0 0), .ref (b1 0), .ref p9, .ref (x3 0), .ref (x4 0), .ref (x5 0), .int (nI 0), .int (nI 0), .int (nI 0), .int (-1), .int (-1)]))] ++ hw cI cD b0 v0 ++ hw cI cD b1 v1 ++ paL cI cD cR p9 w2.1 w2.2.1 w2.2.2 ++ wk cI x3 (fun _ => 0) (fun _ => 0) ++ tw cC x4 (fun _ => 0) 0 ++ iw cI cC x5 (fun _ => 0) (fun _ => 0) 0 0 0 0)) : ∀ j, j < 14 → AD (1 + j) = b0 j := by
  subst hAD
  intro j hj; rw [lAD_l (by show _ < 162; omega), lAD_l (by show _ < 160; omega), lAD_l (by show _ < 157; omega), lAD_l (by show _ < 29; omega), lAD_l (by show _ < 15; omega), lAD_r (n := 1) (by rfl)]; exact lAD_hw j hj

set_option maxHeartbeats 4000000 in
set_option maxRecDepth 100000 in
theorem x6_h1 {cI cC cD cR : ClassId} {AD b0 b1 x3 x4 x5 : Nat → Nat} {h p9 : Nat} {v0 v1 : hS} {w2 : Nat × (Nat → Nat → Nat) × (Nat → hS)} (hAD : AD = lAD ([(h, .inr (8, [.ref (b0 0), .ref (b1 0), .ref p9, .ref (x3 0), .ref (x4 0), .ref (x5 0), .int (nI 0), .int (nI 0), .int (nI 0), .int (-1), .int (-1)]))] ++ hw cI cD b0 v0 ++ hw cI cD b1 v1 ++ paL cI cD cR p9 w2.1 w2.2.1 w2.2.2 ++ wk cI x3 (fun _ => 0) (fun _ => 0) ++ tw cC x4 (fun _ => 0) 0 ++ iw cI cC x5 (fun _ => 0) (fun _ => 0) 0 0 0 0)) : ∀ j, j < 14 → AD (15 + j) = b1 j := by
  subst hAD
  intro j hj; rw [lAD_l (by show _ < 162; omega), lAD_l (by show _ < 160; omega), lAD_l (by show _ < 157; omega), lAD_l (by show _ < 29; omega), lAD_r (n := 15) (by rfl)]; exact lAD_hw j hj

set_option maxHeartbeats 4000000 in
set_option maxRecDepth 100000 in
theorem x6_pa {cI cC cD cR : ClassId} {AD b0 b1 x3 x4 x5 : Nat → Nat} {h p9 : Nat} {v0 v1 : hS} {w2 : Nat × (Nat → Nat → Nat) × (Nat → hS)} (hAD : AD = lAD ([(h, .inr (8, [.ref (b0 0), .ref (b1 0), .ref p9, .ref (x3 0), .ref (x4 0), .ref (x5 0), .int (nI 0), .int (nI 0), .int (nI 0), .int (-1), .int (-1)]))] ++ hw cI cD b0 v0 ++ hw cI cD b1 v1 ++ paL cI cD cR p9 w2.1 w2.2.1 w2.2.2 ++ wk cI x3 (fun _ => 0) (fun _ => 0) ++ tw cC x4 (fun _ => 0) 0 ++ iw cI cC x5 (fun _ => 0) (fun _ => 0) 0 0 0 0)) : ∀ i, i < 128 → AD (29 + i) = lAD (paL cI cD cR p9 w2.1 w2.2.1 w2.2.2) i := by
  subst hAD
  intro i hi; rw [lAD_l (by show _ < 162; omega), lAD_l (by show _ < 160; omega), lAD_l (by show _ < 157; omega), lAD_r (n := 29) (by rfl)]

set_option maxHeartbeats 4000000 in
set_option maxRecDepth 100000 in
theorem x6_wk {cI cC cD cR : ClassId} {AD b0 b1 x3 x4 x5 : Nat → Nat} {h p9 : Nat} {v0 v1 : hS} {w2 : Nat × (Nat → Nat → Nat) × (Nat → hS)} (hAD : AD = lAD ([(h, .inr (8, [.ref (b0 0), .ref (b1 0), .ref p9, .ref (x3 0), .ref (x4 0), .ref (x5 0), .int (nI 0), .int (nI 0), .int (nI 0), .int (-1), .int (-1)]))] ++ hw cI cD b0 v0 ++ hw cI cD b1 v1 ++ paL cI cD cR p9 w2.1 w2.2.1 w2.2.2 ++ wk cI x3 (fun _ => 0) (fun _ => 0) ++ tw cC x4 (fun _ => 0) 0 ++ iw cI cC x5 (fun _ => 0) (fun _ => 0) 0 0 0 0)) : AD 157 = x3 0 ∧ AD 158 = x3 1 ∧ AD 159 = x3 2 := by
  subst hAD
  refine ⟨?_, ?_, ?_⟩
  · rw [show 157 = 157 + 0 from rfl, lAD_l (by show _ < 162; omega), lAD_l (by show _ < 160; omega), lAD_r (n := 157) (by rfl)] <;> rfl
  · rw [show 158 = 157 + 1 from rfl, lAD_l (by show _ < 162; omega), lAD_l (by show _ < 160; omega), lAD_r (n := 157) (by rfl)] <;> rfl
  · rw [show 159 = 157 + 2 from rfl, lAD_l (by show _ < 162; omega), lAD_l (by show _ < 160; omega), lAD_r (n := 157) (by rfl)] <;> rfl

set_option maxHeartbeats 4000000 in
set_option maxRecDepth 100000 in
theorem x6_tx {cI cC cD cR : ClassId} {AD b0 b1 x3 x4 x5 : Nat → Nat} {h p9 : Nat} {v0 v1 : hS} {w2 : Nat × (Nat → Nat → Nat) × (Nat → hS)} (hAD : AD = lAD ([(h, .inr (8, [.ref (b0 0), .ref (b1 0), .ref p9, .ref (x3 0), .ref (x4 0), .ref (x5 0), .int (nI 0), .int (nI 0), .int (nI 0), .int (-1), .int (-1)]))] ++ hw cI cD b0 v0 ++ hw cI cD b1 v1 ++ paL cI cD cR p9 w2.1 w2.2.1 w2.2.2 ++ wk cI x3 (fun _ => 0) (fun _ => 0) ++ tw cC x4 (fun _ => 0) 0 ++ iw cI cC x5 (fun _ => 0) (fun _ => 0) 0 0 0 0)) : AD 160 = x4 0 ∧ AD 161 = x4 1 := by
  subst hAD
  refine ⟨?_, ?_⟩
  · rw [show 160 = 160 + 0 from rfl, lAD_l (by show _ < 162; omega), lAD_r (n := 160) (by rfl)] <;> rfl
  · rw [show 161 = 160 + 1 from rfl, lAD_l (by show _ < 162; omega), lAD_r (n := 160) (by rfl)] <;> rfl

set_option maxHeartbeats 4000000 in
set_option maxRecDepth 100000 in
theorem x6_in {cI cC cD cR : ClassId} {AD b0 b1 x3 x4 x5 : Nat → Nat} {h p9 : Nat} {v0 v1 : hS} {w2 : Nat × (Nat → Nat → Nat) × (Nat → hS)} (hAD : AD = lAD ([(h, .inr (8, [.ref (b0 0), .ref (b1 0), .ref p9, .ref (x3 0), .ref (x4 0), .ref (x5 0), .int (nI 0), .int (nI 0), .int (nI 0), .int (-1), .int (-1)]))] ++ hw cI cD b0 v0 ++ hw cI cD b1 v1 ++ paL cI cD cR p9 w2.1 w2.2.1 w2.2.2 ++ wk cI x3 (fun _ => 0) (fun _ => 0) ++ tw cC x4 (fun _ => 0) 0 ++ iw cI cC x5 (fun _ => 0) (fun _ => 0) 0 0 0 0)) : AD 162 = x5 0 ∧ AD 163 = x5 1 ∧ AD 164 = x5 2 := by
  subst hAD
  refine ⟨?_, ?_, ?_⟩
  · rw [show 162 = 162 + 0 from rfl, lAD_r (n := 162) (by rfl)] <;> rfl
  · rw [show 163 = 162 + 1 from rfl, lAD_r (n := 162) (by rfl)] <;> rfl
  · rw [show 164 = 162 + 2 from rfl, lAD_r (n := 162) (by rfl)] <;> rfl

set_option maxHeartbeats 4000000 in
set_option maxRecDepth 100000 in
theorem x6_ob {cI cC cD cR : ClassId} {AD b0 b1 x3 x4 x5 : Nat → Nat} {h p9 : Nat} {v0 v1 : hS} {w2 : Nat × (Nat → Nat → Nat) × (Nat → hS)} (hAD : AD = lAD ([(h, .inr (8, [.ref (b0 0), .ref (b1 0), .ref p9, .ref (x3 0), .ref (x4 0), .ref (x5 0), .int (nI 0), .int (nI 0), .int (nI 0), .int (-1), .int (-1)]))] ++ hw cI cD b0 v0 ++ hw cI cD b1 v1 ++ paL cI cD cR p9 w2.1 w2.2.1 w2.2.2 ++ wk cI x3 (fun _ => 0) (fun _ => 0) ++ tw cC x4 (fun _ => 0) 0 ++ iw cI cC x5 (fun _ => 0) (fun _ => 0) 0 0 0 0)) : AD 0 = h := by
  subst hAD
  rw [lAD_l (by show _ < 162; omega), lAD_l (by show _ < 160; omega), lAD_l (by show _ < 157; omega), lAD_l (by show _ < 29; omega), lAD_l (by show _ < 15; omega), lAD_l (by show _ < 1; omega)] <;> rfl

set_option maxHeartbeats 4000000 in
set_option maxRecDepth 100000 in
/-- a new object's world -/
theorem x6_new {D : va_G} {H : Heap} {cI cC cD cR : ClassId} {AD b0 b1 x3 x4 x5 Sv Hi Le : Nat → Nat} {h p9 : Nat} {v0 v1 : hS} {w2 : Nat × (Nat → Nat → Nat) × (Nat → hS)} (hAD : AD = lAD ([(h, .inr (8, [.ref (b0 0), .ref (b1 0), .ref p9, .ref (x3 0), .ref (x4 0), .ref (x5 0), .int (nI 0), .int (nI 0), .int (nI 0), .int (-1), .int (-1)]))] ++ hw cI cD b0 v0 ++ hw cI cD b1 v1 ++ paL cI cD cR p9 w2.1 w2.2.1 w2.2.2 ++ wk cI x3 (fun _ => 0) (fun _ => 0) ++ tw cC x4 (fun _ => 0) 0 ++ iw cI cC x5 (fun _ => 0) (fun _ => 0) 0 0 0 0)) (hPo : va_P D vwCl [(h, .inr (8, [.ref (b0 0), .ref (b1 0), .ref p9, .ref (x3 0), .ref (x4 0), .ref (x5 0), .int (nI 0), .int (nI 0), .int (nI 0), .int (-1), .int (-1)]))] H) (hP0 : va_P D vwCl (hw cI cD b0 v0) H) (hP1 : va_P D vwCl (hw cI cD b1 v1) H) (hP2 : va_P D vwCl (paL cI cD cR p9 w2.1 w2.2.1 w2.2.2) H) (hP3 : va_P D vwCl (wk cI x3 (fun _ => 0) (fun _ => 0)) H) (hP4 : va_P D vwCl (tw cC x4 (fun _ => 0) 0) H) (hP5 : va_P D vwCl (iw cI cC x5 (fun _ => 0) (fun _ => 0) 0 0 0 0) H)
    (hR0 : hRel v0 gNew) (hk0 : hOk v0) (hk1 : hOk v1) (hall : ∀ k, k < 9 → hRel (w2.2.2 k) gNew ∧ hOk (w2.2.2 k)) : cW D cI cC cD cR AD gNew Sv Hi (fun _ => 0) Le 0 0 0 0 0 (-1) (-1) (nI 0) H := by
  have e0 := x6_ob hAD
  have g0 := x6_h0 hAD
  have g1 := x6_h1 hAD
  have g2 := x6_pa hAD
  obtain ⟨e157, e158, e159⟩ := x6_wk hAD
  obtain ⟨e160, e161⟩ := x6_tx hAD
  obtain ⟨e162, e163, e164⟩ := x6_in hAD
  clear hAD
  have hrg : ∀ k, k < 9 → ∀ j, j < 14 → w2.2.1 k j = cAd AD (31 + 14 * k) j := fun k hk j hj => by
    show _ = AD (31 + 14 * k + j)
    rw [show 31 + 14 * k + j = 29 + (2 + 14 * k + j) by omega, g2 _ (by omega), paL_ad k hk j hj]
  have hq : ∀ k, k < 9 → va_P D vwCl (hw cI cD (cAd AD (31 + 14 * k)) (w2.2.2 k)) H := by
    have hQ := hP2
    unfold paL at hQ
    have h8 := va_P.right hQ
    have hQ := va_P.left hQ
    have h7 := va_P.right hQ
    have hQ := va_P.left hQ
    have h6 := va_P.right hQ
    have hQ := va_P.left hQ
    have h5 := va_P.right hQ
    have hQ := va_P.left hQ
    have h4 := va_P.right hQ
    have hQ := va_P.left hQ
    have h3 := va_P.right hQ
    have hQ := va_P.left hQ
    have h2 := va_P.right hQ
    have hQ := va_P.left hQ
    have h1 := va_P.right hQ
    have hQ := va_P.left hQ
    have h0 := va_P.right hQ
    intro k hk
    refine hw_ad (hrg k hk) ?_
    rcases (show k = 0 ∨ k = 1 ∨ k = 2 ∨ k = 3 ∨ k = 4 ∨ k = 5 ∨ k = 6 ∨ k = 7 ∨ k = 8 by omega) with rfl | rfl | rfl | rfl | rfl | rfl | rfl | rfl | rfl
    · exact h0
    · exact h1
    · exact h2
    · exact h3
    · exact h4
    · exact h5
    · exact h6
    · exact h7
    · exact h8
  have a29 : AD 29 = p9 := g2 0 (by decide)
  have a30 : AD 30 = w2.1 := g2 1 (by decide)
  have a1 : AD 1 = b0 0 := g0 0 (by decide)
  have a15 : AD 15 = b1 0 := g1 0 (by decide)
  have hp : va_P D vwCl (pw9 cR AD 0 0) H := by
    have hQ : va_P D vwCl [(p9, .inr (5, [.ref w2.1, .int (nI 0), .int (nI 0)])), (w2.1, .inl (cR, 9, .inr (.inr (.inr (.inr (fun i => some (w2.2.1 i 0)))))))] H := hP2.sub [0, 1] rfl
    have hQ := va_P_arq hQ 1 (fun i => some (cAd AD (31 + 14 * i) 0)) rfl (fun k hk => by rw [hrg k hk 0 (by decide)])
    show va_P D vwCl [(AD 29, .inr (5, [.ref (AD 30), .int (nI 0), .int (nI 0)])), (AD 30, .inl (cR, 9, .inr (.inr (.inr (.inr (fun i => some (cAd AD (31 + 14 * i) 0)))))))] H
    rw [a29, a30]; exact hQ
  refine ⟨?_, ⟨v0, hR0, hk0, hw_ad (fun j hj => (g0 j hj).symm) hP0⟩, ⟨(fun _ => 0), _, 0, 0, 0, rfl, ?_⟩, ⟨v1, fun q => absurd q (by decide), hk1, hw_ad (fun j hj => (g1 j hj).symm) hP1⟩, ⟨0, by decide, hp, fun k hk => ⟨_, (hall k hk).2, hq k hk, fun j hj => absurd hj (Nat.not_lt_zero j)⟩⟩, ⟨(fun _ => 0), (fun _ => 0), ?_⟩, ⟨(fun _ => 0), fun i hi => absurd hi (Nat.not_lt_zero i), Nat.zero_le _, ?_⟩⟩
  · show va_P D vwCl [(AD 0, .inr (8, [.ref (AD 1), .ref (AD 15), .ref (AD 29), .ref (AD 157), .ref (AD 160), .ref (AD 162), .int (nI 0), .int (nI 0), .int (nI 0), .int (-1), .int (-1)]))] H
    rw [e0, a1, a15, a29, e157, e160, e162]; exact hPo
  · show va_P D vwCl [(AD 162, .inr (4, [.ref (AD 163), .int (nI 0), .int (nI 0), .int (nI 0), .ref (AD 164), .int (nI 0)])), (AD 163, .inl (cI, 5, .inl (fun _ => 0))), (AD 164, .inl (cC, 60, .inl (gN (fun _ => 0))))] H
    rw [e162, e163, e164]; exact hP5
  · show va_P D vwCl [(AD 157, .inr (7, [.ref (AD 158), .ref (AD 159)])), (AD 158, .inl (cI, 6, .inl (fun _ => 0))), (AD 159, .inl (cI, 6, .inl (gN (fun _ => 0))))] H
    rw [e157, e158, e159]; exact hP3
  · show va_P D vwCl [(AD 160, .inr (6, [.ref (AD 161), .int (nI 0)])), (AD 161, .inl (cC, 16, .inl (gN (fun _ => 0))))] H
    rw [e160, e161]; exact hP4
