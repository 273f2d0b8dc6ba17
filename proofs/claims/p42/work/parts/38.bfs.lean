/-! ways: the rooms reached by sets, and by a queue -/
theorem tb_iff (z k : Nat) : z >>> k &&& 1 = 1 ↔ z.testBit k = true := by
  unfold Nat.testBit
  generalize z >>> k = w
  rw [Nat.and_comm 1 w, Nat.and_one_is_mod]
  have h2 := Nat.mod_lt w (show 0 < 2 by decide)
  by_cases h : w % 2 = 0
  · rw [h]; decide
  · rw [show w % 2 = 1 by omega]; decide
theorem sh_tb (z u v j : Nat) : ((z >>> u &&& 1) <<< v).testBit j = true ↔ z.testBit u = true ∧ v = j := by
  by_cases h : z.testBit u = true
  · rw [(tb_iff z u).mpr h, Nat.one_shiftLeft, Nat.testBit_two_pow]
    simp [h]
  · have h0 : z >>> u &&& 1 = 0 := by
      have h1 : ¬ z >>> u &&& 1 = 1 := fun q => h ((tb_iff z u).mp q)
      have h2 := Nat.and_one_is_mod (z >>> u)
      omega
    rw [h0, Nat.zero_shiftLeft, Nat.zero_testBit]
    simp [h]
theorem nI_m1 {d : Nat} (h : d < 2 ^ 31) : ¬ nI d = -1 := by
  intro q
  have h1 := congrArg Int32.toInt q
  rw [nI_toInt h] at h1
  have e : (-1 : Int32).toInt = -1 := by decide
  omega
theorem gNx_tb {G : Nat → Nat} (z j : Nat) : ∀ d, d ≤ 8 → ((gNx G z (-1) d).testBit j = true ↔ z.testBit j = true ∨ ∃ e, e < d ∧ G (80 + e) = 1 ∧ ((z.testBit (G (88 + e)) = true ∧ G (96 + e) = j) ∨ (z.testBit (G (96 + e)) = true ∧ G (88 + e) = j)))
  | 0, _ => ⟨fun h => Or.inl h, fun h => h.elim id (fun ⟨e, he, _⟩ => absurd he (Nat.not_lt_zero e))⟩
  | d + 1, h8 => by
    have ih := gNx_tb (G := G) z j d (by omega)
    unfold gNx
    by_cases h : G (80 + d) = 1 ∨ nI d = -1
    · have h1 : G (80 + d) = 1 := h.elim id (fun q => absurd q (nI_m1 (by omega)))
      rw [if_pos h, Nat.testBit_or, Nat.testBit_or, Bool.or_eq_true, Bool.or_eq_true, ih, sh_tb, sh_tb]
      constructor
      · rintro (((q | ⟨e, he, q⟩) | q) | q)
        · exact Or.inl q
        · exact Or.inr ⟨e, by omega, q⟩
        · exact Or.inr ⟨d, by omega, h1, Or.inl q⟩
        · exact Or.inr ⟨d, by omega, h1, Or.inr q⟩
      · rintro (q | ⟨e, he, q1, q2⟩)
        · exact Or.inl (Or.inl (Or.inl q))
        · by_cases e9 : e = d
          · subst e9
            rcases q2 with q2 | q2
            · exact Or.inl (Or.inr q2)
            · exact Or.inr q2
          · exact Or.inl (Or.inl (Or.inr ⟨e, by omega, q1, q2⟩))
    · have h1 : ¬ G (80 + d) = 1 := fun q => h (Or.inl q)
      rw [if_neg h, ih]
      constructor
      · rintro (q | ⟨e, he, q⟩)
        · exact Or.inl q
        · exact Or.inr ⟨e, by omega, q⟩
      · rintro (q | ⟨e, he, q1, q2⟩)
        · exact Or.inl q
        · by_cases e9 : e = d
          · subst e9; exact absurd q1 h1
          · exact Or.inr ⟨e, by omega, q1, q2⟩
/-- the room x is reached from a through at most n doors -/
abbrev rB (G : Nat → Nat) (a n x : Nat) : Prop := gIt G (-1) (1 <<< a) n >>> x &&& 1 = 1
/-- an open door leads from y to x -/
def adj (G : Nat → Nat) (y x : Nat) : Prop := ∃ e, e < G 0 ∧ gBehind G e y = nI x
theorem rB_0 {G : Nat → Nat} {a x : Nat} : rB G a 0 x ↔ a = x := by
  unfold rB
  rw [tb_iff]
  show (1 <<< a).testBit x = true ↔ _
  rw [Nat.one_shiftLeft, Nat.testBit_two_pow]
  simp
theorem rB_1 {b : Nat} {G : Nat → Nat} (hG : gWf b G) {a n x : Nat} (hx : x < 6) : rB G a (n + 1) x ↔ rB G a n x ∨ ∃ y, y < 6 ∧ rB G a n y ∧ adj G y x := by
  have h0 := hG.2.2.1
  unfold rB
  rw [tb_iff, tb_iff]
  show (gNx G (gIt G (-1) (1 <<< a) n) (-1) (G 0)).testBit x = true ↔ _
  rw [gNx_tb _ _ _ h0]
  constructor
  · rintro (q | ⟨e, he, q1, q2⟩)
    · exact Or.inl q
    · have w := hG.door (d := e) (by omega)
      obtain ⟨_, _, _, _, _, _, _, wx, wy, _⟩ := w
      have hq : ¬ G (80 + e) = 0 := by omega
      rcases q2 with ⟨q2, q3⟩ | ⟨q2, q3⟩
      · refine Or.inr ⟨G (88 + e), by omega, (tb_iff _ _).mpr q2, e, he, ?_⟩
        unfold gBehind
        rw [if_neg hq, if_pos rfl, q3]
      · refine Or.inr ⟨G (96 + e), by omega, (tb_iff _ _).mpr q2, e, he, ?_⟩
        unfold gBehind
        rw [if_neg hq]
        by_cases q4 : G (88 + e) = G (96 + e)
        · rw [if_pos q4, ← q4, q3]
        · rw [if_neg q4, if_pos rfl, q3]
  · rintro (q | ⟨y, hy, q1, e, he, q2⟩)
    · exact Or.inl q
    · have w := hG.door (d := e) (by omega)
      obtain ⟨_, _, _, _, _, _, wo, wx, wy, _⟩ := w
      have q1 := (tb_iff _ _).mp q1
      unfold gBehind at q2
      by_cases c0 : G (80 + e) = 0
      · rw [if_pos c0] at q2; exact absurd q2.symm (nI_m1 (by omega))
      · rw [if_neg c0] at q2
        refine Or.inr ⟨e, he, by omega, ?_⟩
        by_cases c1 : G (88 + e) = y
        · rw [if_pos c1] at q2
          exact Or.inl ⟨by rw [c1]; exact q1, (nI_eq (by omega) (by omega)).mp q2⟩
        · rw [if_neg c1] at q2
          by_cases c2 : G (96 + e) = y
          · rw [if_pos c2] at q2
            exact Or.inr ⟨by rw [c2]; exact q1, (nI_eq (by omega) (by omega)).mp q2⟩
          · rw [if_neg c2] at q2; exact absurd q2.symm (nI_m1 (by omega))
theorem rB_mono {b : Nat} {G : Nat → Nat} (hG : gWf b G) {a x : Nat} (hx : x < 6) {n m : Nat} (h : n ≤ m) (q : rB G a n x) : rB G a m x := by
  induction m with
  | zero => rw [show n = 0 by omega] at q; exact q
  | succ m ih =>
    by_cases e : n = m + 1
    · subst e; exact q
    · exact (rB_1 hG hx).mpr (Or.inl (ih (by omega)))
theorem gWay_le (G : Nat → Nat) (a x : Nat) : gWay G a x ≤ 6 := fd_le _ _
theorem gWay_at {G : Nat → Nat} {a x : Nat} (h : gWay G a x < 6) : rB G a (gWay G a x) x := fd_at (P := fun n => rB G a n x) (n := 6) h
theorem gWay_to {G : Nat → Nat} {a x n : Nat} (hn : n < 6) (h : rB G a n x) : gWay G a x ≤ n := by
  refine Decidable.byContradiction (fun q => ?_)
  exact fd_lt (P := fun n => rB G a n x) (n := 6) (j := n) (by show n < gWay G a x; omega) h
/-- a room that is n + 1 doors away has a neighbour that is n away at most -/
theorem gWay_pred {b : Nat} {G : Nat → Nat} (hG : gWf b G) {a x : Nat} (hx : x < 6) (h : gWay G a x < 6) (h0 : 0 < gWay G a x) : ∃ y, y < 6 ∧ gWay G a y < gWay G a x ∧ adj G y x := by
  have h1 := gWay_at h
  obtain ⟨n, hn⟩ : ∃ n, gWay G a x = n + 1 := ⟨gWay G a x - 1, by omega⟩
  rw [hn] at h1
  rcases (rB_1 hG hx).mp h1 with q | ⟨y, hy, q1, q2⟩
  · have := gWay_to (by omega) q; omega
  · exact ⟨y, hy, by have := gWay_to (by omega) q1; omega, q2⟩
theorem gWay_step {b : Nat} {G : Nat → Nat} (hG : gWf b G) {a y x : Nat} (hx : x < 6) (hy : y < 6) (h : gWay G a y + 1 < 6) (q : adj G y x) : gWay G a x ≤ gWay G a y + 1 :=
  gWay_to h ((rB_1 hG hx).mpr (Or.inr ⟨y, hy, gWay_at (by omega), q⟩))
theorem gWay_self (G : Nat → Nat) (a : Nat) : gWay G a a = 0 := Nat.le_zero.mp (gWay_to (by decide) (rB_0.mpr rfl))
theorem gWay_0 {G : Nat → Nat} {a x : Nat} (h : gWay G a x = 0) : a = x := by
  have h1 := gWay_at (G := G) (a := a) (x := x) (by omega)
  rw [h] at h1; exact rB_0.mp h1
/-- how the queue stands: t rooms taken out of n -/
def bV (G : Nat → Nat) (a : Nat) (P : Nat → Int32) (Q : Nat → Nat) (n t : Nat) : Prop :=
  (n ≤ 6 ∧ 0 < n ∧ t ≤ n ∧ Q 0 = a) ∧ (∀ i, i < n → Q i < 6 ∧ gWay G a (Q i) ≤ i ∧ P (Q i) = nI (gWay G a (Q i))) ∧ (∀ x, x < 6 → ¬ P x = -1 → ∃ i, i < n ∧ Q i = x) ∧
  sm (fun x => bI (¬ P x = -1)) 6 = n ∧ (∀ i j, i ≤ j → j < n → gWay G a (Q i) ≤ gWay G a (Q j)) ∧
  (t < n → (∀ j, j < n → gWay G a (Q j) ≤ gWay G a (Q t) + 1) ∧ ∀ x, x < 6 → gWay G a x < gWay G a (Q t) → ∃ i, i < t ∧ Q i = x) ∧
  (∀ i, i < t → ∀ x, x < 6 → adj G (Q i) x → ¬ P x = -1)
theorem sm_up {f g : Nat → Nat} {k : Nat} : ∀ {n}, k < n → (∀ j, j < n → ¬ j = k → g j = f j) → g k = f k + 1 → sm g n = sm f n + 1
  | 0, h, _, _ => absurd h (Nat.not_lt_zero _)
  | n + 1, h, h1, h2 => by
    rw [sm, sm]
    by_cases e : k = n
    · subst e
      rw [sm_congr (f := g) (g := f) (fun j hj => h1 j (by omega) (by omega)), h2]; omega
    · rw [sm_up (n := n) (by omega) (fun j hj q => h1 j (by omega) q) h2, h1 n (by omega) (fun q => e q.symm)]; omega
theorem sm_full {P : Nat → Prop} [DecidablePred P] : ∀ {n}, sm (fun k => bI (P k)) n = n → ∀ k, k < n → P k
  | 0, _, k, h => absurd h (Nat.not_lt_zero k)
  | n + 1, h, k, hk => by
    have h1 := sm_bI_le P n
    have h2 := bI_le (P n)
    rw [sm] at h
    by_cases e : k = n
    · subst e
      refine Decidable.byContradiction (fun q => ?_)
      rw [bI_f q] at h; omega
    · exact sm_full (n := n) (by omega) k (by omega)
/-- one door looked at -/
def qS (G : Nat → Nat) (r : Nat) (w : (Nat → Int32) × (Nat → Nat) × Nat) (d : Nat) : (Nat → Int32) × (Nat → Nat) × Nat :=
  if iR (gBehind G d r) 6 ∧ w.1 (tN (gBehind G d r)) = -1 ∧ w.2.2 < 6 then (upd w.1 (tN (gBehind G d r)) (w.1 r + nI 1), va_up w.2.1 w.2.2 (tN (gBehind G d r)), w.2.2 + 1) else w
def qB (G : Nat → Nat) (r : Nat) (w : (Nat → Int32) × (Nat → Nat) × Nat) : Nat → (Nat → Int32) × (Nat → Nat) × Nat
  | 0 => w
  | d + 1 => qS G r (qB G r w d) d
theorem qS_le {G : Nat → Nat} {r d : Nat} {w : (Nat → Int32) × (Nat → Nat) × Nat} (h : w.2.2 ≤ 6) : (qS G r w d).2.2 ≤ 6 := by
  unfold qS
  split
  · rename_i q; exact q.2.2
  · exact h
theorem qB_le {G : Nat → Nat} {r : Nat} {w : (Nat → Int32) × (Nat → Nat) × Nat} (h : w.2.2 ≤ 6) : ∀ d, (qB G r w d).2.2 ≤ 6
  | 0 => h
  | d + 1 => qS_le (qB_le h d)
theorem bV_S {b : Nat} {G : Nat → Nat} (hG : gWf b G) {a t d : Nat} {P : Nat → Int32} {Q : Nat → Nat} {n : Nat} (h : bV G a P Q n t) (ht : t < n) (hd : d < G 0) :
    bV G a (qS G (Q t) (P, Q, n) d).1 (qS G (Q t) (P, Q, n) d).2.1 (qS G (Q t) (P, Q, n) d).2.2 t ∧ t < (qS G (Q t) (P, Q, n) d).2.2 ∧ (qS G (Q t) (P, Q, n) d).2.1 t = Q t ∧
    (∀ x, x < 6 → ¬ P x = -1 → ¬ (qS G (Q t) (P, Q, n) d).1 x = -1) ∧ ∀ x, x < 6 → gBehind G d (Q t) = nI x → ¬ (qS G (Q t) (P, Q, n) d).1 x = -1 := by
  obtain ⟨⟨n6, n0, tn, qa⟩, hB, hC, hD, hE, hF, hH⟩ := id h
  obtain ⟨hF1, hF2⟩ := hF ht
  obtain ⟨r6, rt, rP⟩ := hB t ht
  unfold qS
  by_cases hc : iR (gBehind G d (Q t)) 6 ∧ P (tN (gBehind G d (Q t))) = -1 ∧ n < 6
  · rw [if_pos hc]
    obtain ⟨c1, c2, c3⟩ := hc
    obtain ⟨x, hx, ex⟩ := iR_of c1 (by decide)
    have et : tN (gBehind G d (Q t)) = x := by rw [ex]; exact tN_nI (by omega)
    rw [et] at c2 ⊢
    have ha : adj G (Q t) x := ⟨d, hd, ex⟩
    have hxn : ∀ i, i < n → ¬ Q i = x := by
      intro i hi q
      have h1 := (hB i hi).2.2
      rw [q, c2] at h1
      have h2 := gWay_le G a x
      exact nI_m1 (d := gWay G a x) (by omega) h1.symm
    have w1 : gWay G a x ≤ gWay G a (Q t) + 1 := gWay_step hG hx r6 (by omega) ha
    have w2 : gWay G a (Q t) + 1 ≤ gWay G a x := by
      refine Decidable.byContradiction (fun q => ?_)
      by_cases q0 : gWay G a x = 0
      · have := gWay_0 q0
        exact hxn 0 n0 (by omega)
      · obtain ⟨y, hy, y1, y2⟩ := gWay_pred (a := a) hG hx (by omega) (by omega)
        obtain ⟨i, hi, ei⟩ := hF2 y hy (by omega)
        exact hH i hi x hx (by rw [ei]; exact y2) c2
    have w3 : gWay G a x = gWay G a (Q t) + 1 := by omega
    have pv : P (Q t) + nI 1 = nI (gWay G a x) := by rw [rP, nI_add, ← w3]
    have hu : ∀ z, ¬ z = x → upd P x (P (Q t) + nI 1) z = P z := fun z hz => upd_ne _ _ hz
    have hux : upd P x (P (Q t) + nI 1) x = nI (gWay G a x) := by rw [upd_at, pv]
    have hqi : ∀ i, i < n → va_up Q n x i = Q i := fun i hi => up_ne (by omega)
    have hqn : va_up Q n x n = x := up_eq rfl
    have hpx : ¬ nI (gWay G a x) = -1 := nI_m1 (by omega)
    refine ⟨⟨⟨by show n + 1 ≤ 6; omega, by show 0 < n + 1; omega, by show t ≤ n + 1; omega, by show va_up Q n x 0 = a; rw [hqi 0 n0]; exact qa⟩, ?_, ?_, ?_, ?_, ?_, ?_⟩, by show t < n + 1; omega, hqi t ht, ?_, ?_⟩
    · intro i hi
      show va_up Q n x i < 6 ∧ gWay G a (va_up Q n x i) ≤ i ∧ upd P x (P (Q t) + nI 1) (va_up Q n x i) = nI (gWay G a (va_up Q n x i))
      by_cases e : i = n
      · subst e
        rw [hqn, hux]
        exact ⟨hx, by omega, rfl⟩
      · have hi2 : i < n := by have : i < n + 1 := hi; omega
        rw [hqi i hi2, hu _ (hxn i hi2)]
        exact hB i hi2
    · intro z hz h1
      show ∃ i, i < n + 1 ∧ va_up Q n x i = z
      by_cases e : z = x
      · subst e; exact ⟨n, by omega, hqn⟩
      · have h2 : ¬ P z = -1 := by
          have h3 : ¬ upd P x (P (Q t) + nI 1) z = -1 := h1
          rw [hu z e] at h3; exact h3
        obtain ⟨i, hi, ei⟩ := hC z hz h2
        exact ⟨i, by omega, by rw [hqi i hi]; exact ei⟩
    · show sm (fun z => bI (¬ upd P x (P (Q t) + nI 1) z = -1)) 6 = n + 1
      rw [sm_up (f := fun z => bI (¬ P z = -1)) (k := x) hx (fun j _ hj => by show bI _ = bI _; exact bI_congr (by rw [hu j hj])) (show bI (¬ upd P x (P (Q t) + nI 1) x = -1) = bI (¬ P x = -1) + 1 from by rw [bI_t (show ¬ upd P x (P (Q t) + nI 1) x = -1 by rw [hux]; exact hpx), bI_f (show ¬ ¬ P x = -1 from fun q => q c2)]), hD]
    · intro i j hij hj
      have hj2 : j < n + 1 := hj
      show gWay G a (va_up Q n x i) ≤ gWay G a (va_up Q n x j)
      by_cases ej : j = n
      · subst ej
        rw [hqn]
        by_cases ei : i = j
        · subst ei; rw [hqn]; exact Nat.le_refl _
        · rw [hqi i (by omega)]
          have := hF1 i (by omega); omega
      · rw [hqi j (by omega), hqi i (by omega)]
        exact hE i j hij (by omega)
    · intro _
      show (∀ j, j < n + 1 → gWay G a (va_up Q n x j) ≤ gWay G a (va_up Q n x t) + 1) ∧ ∀ z, z < 6 → gWay G a z < gWay G a (va_up Q n x t) → ∃ i, i < t ∧ va_up Q n x i = z
      rw [hqi t ht]
      refine ⟨fun j hj => ?_, fun z hz h1 => ?_⟩
      · by_cases ej : j = n
        · subst ej; rw [hqn]; omega
        · rw [hqi j (by omega)]; exact hF1 j (by omega)
      · obtain ⟨i, hi, ei⟩ := hF2 z hz h1
        exact ⟨i, hi, by rw [hqi i (by omega)]; exact ei⟩
    · intro i hi z hz h1
      show ¬ upd P x (P (Q t) + nI 1) z = -1
      have h1 : adj G (va_up Q n x i) z := h1
      rw [hqi i (by omega)] at h1
      by_cases e : z = x
      · subst e; rw [hux]; exact hpx
      · rw [hu z e]; exact hH i hi z hz h1
    · intro z hz h1
      show ¬ upd P x (P (Q t) + nI 1) z = -1
      by_cases e : z = x
      · subst e; rw [hux]; exact hpx
      · rw [hu z e]; exact h1
    · intro z hz h1
      show ¬ upd P x (P (Q t) + nI 1) z = -1
      have e : z = x := (nI_eq (by omega) (by omega)).mp (h1.symm.trans ex)
      subst e; rw [hux]; exact hpx
  · rw [if_neg hc]
    refine ⟨h, ht, rfl, fun x _ q => q, fun x hx e q => hc ?_⟩
    have et : tN (gBehind G d (Q t)) = x := by rw [e]; exact tN_nI (by omega)
    refine ⟨by rw [e]; exact iR_nI (by omega) (by decide), by rw [et]; exact q, ?_⟩
    refine Decidable.byContradiction (fun q2 => ?_)
    exact sm_full (P := fun x => ¬ P x = -1) (n := 6) (by rw [hD]; omega) x hx q
theorem bV_B {b : Nat} {G : Nat → Nat} (hG : gWf b G) {a t : Nat} {P : Nat → Int32} {Q : Nat → Nat} {n : Nat} (h : bV G a P Q n t) (ht : t < n) : ∀ d, d ≤ G 0 →
    bV G a (qB G (Q t) (P, Q, n) d).1 (qB G (Q t) (P, Q, n) d).2.1 (qB G (Q t) (P, Q, n) d).2.2 t ∧ t < (qB G (Q t) (P, Q, n) d).2.2 ∧ (qB G (Q t) (P, Q, n) d).2.1 t = Q t ∧
    ∀ x, x < 6 → (∃ e, e < d ∧ gBehind G e (Q t) = nI x) → ¬ (qB G (Q t) (P, Q, n) d).1 x = -1
  | 0, _ => ⟨h, ht, rfl, fun x _ ⟨e, he, _⟩ => absurd he (Nat.not_lt_zero e)⟩
  | d + 1, hd => by
    obtain ⟨h1, h2, h3, h4⟩ := bV_B hG h ht d (by omega)
    have h5 := bV_S hG h1 h2 (d := d) (by omega)
    rw [h3] at h5
    obtain ⟨k1, k2, k3, k4, k5⟩ := h5
    refine ⟨k1, k2, k3, fun x hx ⟨e, he, q⟩ => ?_⟩
    by_cases e9 : e = d
    · subst e9; exact k5 x hx q
    · exact k4 x hx (h4 x hx ⟨e, by omega, q⟩)
theorem bV_N {b : Nat} {G : Nat → Nat} (hG : gWf b G) {a t : Nat} {P : Nat → Int32} {Q : Nat → Nat} {n : Nat} (h : bV G a P Q n t) (ht : t < n) : bV G a (qB G (Q t) (P, Q, n) (G 0)).1 (qB G (Q t) (P, Q, n) (G 0)).2.1 (qB G (Q t) (P, Q, n) (G 0)).2.2 (t + 1) := by
  obtain ⟨h1, h2, h3, h4⟩ := bV_B hG h ht (G 0) (Nat.le_refl _)
  generalize (qB G (Q t) (P, Q, n) (G 0)).1 = P1 at *
  generalize (qB G (Q t) (P, Q, n) (G 0)).2.1 = Q1 at *
  generalize (qB G (Q t) (P, Q, n) (G 0)).2.2 = n1 at *
  obtain ⟨⟨n6, n0, tn, qa⟩, hB, hC, hD, hE, hF, hH⟩ := h1
  obtain ⟨hF1, hF2⟩ := hF h2
  have hcl : ∀ i, i < t + 1 → ∀ x, x < 6 → adj G (Q1 i) x → ¬ P1 x = -1 := by
    intro i hi x hx q
    by_cases e : i = t
    · subst e; rw [h3] at q; exact h4 x hx q
    · exact hH i (by omega) x hx q
  refine ⟨⟨n6, n0, by omega, qa⟩, hB, hC, hD, hE, fun h5 => ⟨fun j hj => ?_, fun x hx q => ?_⟩, hcl⟩
  · have := hF1 j hj
    have := hE t (t + 1) (by omega) h5
    omega
  · have k1 := hF1 (t + 1) h5
    by_cases q1 : gWay G a x < gWay G a (Q1 t)
    · obtain ⟨i, hi, ei⟩ := hF2 x hx q1
      exact ⟨i, by omega, ei⟩
    · have kB := (hB t h2).2.1
      by_cases q0 : gWay G a x = 0
      · exact ⟨0, by omega, by rw [qa]; exact gWay_0 q0⟩
      · obtain ⟨y, hy, y1, y2⟩ := gWay_pred (a := a) hG hx (by omega) (by omega)
        obtain ⟨i, hi, ei⟩ := hF2 y hy (by omega)
        obtain ⟨j, hj, ej⟩ := hC x hx (hcl i (by omega) x hx (by rw [ei]; exact y2))
        refine ⟨j, ?_, ej⟩
        refine Decidable.byContradiction (fun q3 => ?_)
        have := hE (t + 1) j (by omega) hj
        rw [ej] at this
        omega
/-- where all rooms of the queue are taken, the way to each room is told -/
theorem bV_end {b : Nat} {G : Nat → Nat} (hG : gWf b G) {a : Nat} {P : Nat → Int32} {Q : Nat → Nat} {n : Nat} (h : bV G a P Q n n) {x : Nat} (hx : x < 6) : P x = if gWay G a x < 6 then nI (gWay G a x) else -1 := by
  obtain ⟨⟨n6, n0, tn, qa⟩, hB, hC, hD, hE, hF, hH⟩ := h
  have all : ∀ m y, y < 6 → rB G a m y → ¬ P y = -1 := by
    intro m
    induction m with
    | zero =>
      intro y hy q
      have e := rB_0.mp q
      have h1 := (hB 0 n0).2.2
      rw [qa, e] at h1
      rw [h1]
      have h9 := gWay_le G y y
      exact nI_m1 (d := gWay G y y) (by omega)
    | succ m ih =>
      intro y hy q
      rcases (rB_1 hG hy).mp q with q | ⟨z, hz, q1, q2⟩
      · exact ih y hy q
      · obtain ⟨i, hi, ei⟩ := hC z hz (ih z hz q1)
        exact hH i hi y hy (by rw [ei]; exact q2)
  by_cases q : P x = -1
  · rw [if_neg (fun q2 => all _ x hx (gWay_at q2) q)]; exact q
  · obtain ⟨i, hi, ei⟩ := hC x hx q
    obtain ⟨b1, b2, b3⟩ := hB i hi
    rw [ei] at b2 b3
    rw [if_pos (by omega)]; exact b3
theorem bV_0 {G : Nat → Nat} {a : Nat} (ha : a < 6) (Q : Nat → Nat) : bV G a (upd (fun _ => -1) a (nI 0)) (va_up Q 0 a) 1 0 := by
  have e0 : upd (fun _ => (-1 : Int32)) a (nI 0) a = nI 0 := upd_at _ _ _
  have e1 : ∀ z, ¬ z = a → upd (fun _ => (-1 : Int32)) a (nI 0) z = -1 := fun z hz => upd_ne _ _ hz
  have w := gWay_self G a
  refine ⟨⟨by omega, by omega, by omega, up_eq rfl⟩, ?_, ?_, ?_, ?_, ?_, ?_⟩
  · intro i hi
    rw [show i = 0 by omega, show va_up Q 0 a 0 = a from up_eq rfl, w, e0]
    exact ⟨ha, Nat.le_refl _, rfl⟩
  · intro x hx q
    by_cases e : x = a
    · exact ⟨0, by omega, by rw [e]; exact up_eq rfl⟩
    · exact absurd (e1 x e) q
  · rw [sm_up (f := fun _ => 0) (k := a) (n := 6) ha (fun j _ hj => bI_f (fun q => q (e1 j hj))) (bI_t (by rw [e0]; decide))]
    decide
  · intro i j hij hj
    rw [show i = 0 by omega, show j = 0 by omega]; exact Nat.le_refl _
  · intro _
    rw [show va_up Q 0 a 0 = a from up_eq rfl, w]
    refine ⟨fun j hj => ?_, fun x hx q => absurd q (Nat.not_lt_zero _)⟩
    rw [show j = 0 by omega, show va_up Q 0 a 0 = a from up_eq rfl, w]; omega
  · intro i hi; exact absurd hi (Nat.not_lt_zero i)
