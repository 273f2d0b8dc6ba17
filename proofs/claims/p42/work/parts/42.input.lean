/-- the orders' texts by the reference's codes -/
def pw (w : Nat) : Nat := if w = 35 then 200 else (if w = 84 then 201 else (if w = 71 then 202 else (if w = 78 then 203 else (if w = 67 then 204 else (if w = 69 then 205 else w)))))
theorem pat_pw : ∀ k, k < 9 → (pat k).length = sLen.getD (4 + k) 0 ∧ ∀ j, j < sLen.getD (4 + k) 0 → (pat k)[j]? = some (pw (sch (4 + k) j)) := by decide +kernel
theorem pat_lt : ∀ k, k < 9 → ∀ w ∈ pat k, w < 206 := by decide +kernel
/-- a number of the class's reading: -2 where none stands -/
def nmI (f e c : Nat) : Int32 := if f ≤ c ∧ c ≤ e then nI (c - f) else -2
def lIn (i c : Nat) : Int32 := if sIx i c = -1 then -2 else sIx i c
/-- what the class takes for a sign of the code w -/
def vX (w c : Nat) : Int32 := if w = 200 then nmI 48 57 c else (if w = 201 then (if c = 45 then -1 else nmI 48 57 c) else (if w = 202 then lIn 0 c else (if w = 203 then lIn 1 c else (if w = 204 then lIn 2 c else nmI 97 122 c))))
theorem vX_ok : ∀ w, 200 ≤ w → w < 206 → ∀ c, c < 128 → (vX w c = -2 ↔ ¬ okI w (nI c)) ∧ (okI w (nI c) → vX w c = vI w (nI c)) := by
  intro w h1 h2
  rcases (show w = 200 ∨ w = 201 ∨ w = 202 ∨ w = 203 ∨ w = 204 ∨ w = 205 by omega) with rfl | rfl | rfl | rfl | rfl | rfl <;> decide +kernel
theorem sIx_or (i c : Nat) : sIx i c = -1 ∨ ∃ k, k < sLen.getD i 0 ∧ sIx i c = nI k := by
  unfold sIx
  split
  · rename_i h; exact Or.inr ⟨_, h, rfl⟩
  · exact Or.inl rfl
theorem rn_end {F : Nat → Nat} {ty : Nat} : ∀ {l : List Nat} {E : Nat × Nat}, ¬ E.2 = 0 → rn F ty l E = (E.1, if l = [] then E.2 else 1)
  | [], E, _ => by rw [if_pos rfl]; rfl
  | w :: l, E, h => by
    show rn F ty l (st1 F ty w E) = _
    rw [st1_no h]
    have h1 := rn_end (F := F) (ty := ty) (l := l) (E := (E.1, 1)) Nat.one_ne_zero
    rw [h1, if_neg (c := w :: l = []) (List.cons_ne_nil w l)]
    cases l <;> rfl
theorem rn_flag {F : Nat → Nat} {ty : Nat} : ∀ {l : List Nat} {E : Nat × Nat}, E.2 = 0 → ((rn F ty l E).2 = 0 ∧ (rn F ty l E).1 = E.1 + l.length) ∨ (¬ (rn F ty l E).2 = 0 ∧ (rn F ty l E).1 < E.1 + l.length ∧ E.1 ≤ (rn F ty l E).1)
  | [], E, h => Or.inl ⟨h, rfl⟩
  | w :: l, E, h => by
    show ((rn F ty l (st1 F ty w E)).2 = 0 ∧ (rn F ty l (st1 F ty w E)).1 = E.1 + (l.length + 1)) ∨ (¬ (rn F ty l (st1 F ty w E)).2 = 0 ∧ (rn F ty l (st1 F ty w E)).1 < E.1 + (l.length + 1) ∧ E.1 ≤ (rn F ty l (st1 F ty w E)).1)
    by_cases q : okI w (hrx F ty E.1)
    · rw [st1_ok h q]
      rcases rn_flag (F := F) (ty := ty) (l := l) (E := (E.1 + 1, 0)) rfl with ⟨a, b⟩ | ⟨a, b, c⟩
      · exact Or.inl ⟨a, by rw [b]; show E.1 + 1 + l.length = _; omega⟩
      · have b1 : (rn F ty l (E.1 + 1, 0)).1 < E.1 + 1 + l.length := b
        have c1 : E.1 + 1 ≤ (rn F ty l (E.1 + 1, 0)).1 := c
        exact Or.inr ⟨a, by omega, by omega⟩
    · rw [st1_bad q, rn_end (show ¬ (E.1, 1).2 = 0 from Nat.one_ne_zero)]
      refine Or.inr ⟨?_, by show E.1 < _; omega, Nat.le_refl _⟩
      show ¬ (if l = [] then 1 else 1) = 0
      split <;> decide
/-- a text of signs, one sign more -/
theorem go_snoc {F : Nat → Nat} {ty w : Nat} : ∀ {l : List Nat} {E : Nat × Nat} {T : Nat → Int32} {n : Nat}, (go F ty (l ++ [w]) E T n).2 = if w < 200 then (go F ty l E T n).2 else upd (go F ty l E T n).2 (n + nv9 l) (vI w (hrx F ty (rn F ty l E).1))
  | [], E, T, n => by
    show (go F ty [w] E T n).2 = _
    unfold go
    by_cases h : w < 200
    · rw [if_pos h, if_pos h]; rfl
    · rw [if_neg h, if_neg h]; rfl
  | c :: l, E, T, n => by
    show (go F ty (c :: (l ++ [w])) E T n).2 = if w < 200 then (go F ty (c :: l) E T n).2 else upd (go F ty (c :: l) E T n).2 (n + nv9 (c :: l)) (vI w (hrx F ty (rn F ty l (st1 F ty c E)).1))
    unfold go
    unfold nv9
    by_cases h : c < 200
    · rw [if_pos h, if_pos h, if_pos h]; exact go_snoc
    · rw [if_neg h, if_neg h, if_neg h, show n + (nv9 l + 1) = n + 1 + nv9 l by omega]; exact go_snoc
theorem go_same {F : Nat → Nat} {ty : Nat} : ∀ (l : List Nat) (E : Nat × Nat) (T T' : Nat → Int32) (n n' i : Nat), i < nv9 l → (go F ty l E T n).2 (n + i) = (go F ty l E T' n').2 (n' + i)
  | [], _, _, _, _, _, _, hi => absurd hi (Nat.not_lt_zero _)
  | w :: l, E, T, T', n, n', i, hi => by
    unfold go
    unfold nv9 at hi
    by_cases hw : w < 200
    · rw [if_pos hw] at hi; rw [if_pos hw, if_pos hw]; exact go_same _ _ _ _ _ _ _ hi
    · rw [if_neg hw] at hi; rw [if_neg hw, if_neg hw]
      cases i with
      | zero => exact ((go_out (Or.inl (Nat.lt_succ_self n))).trans (upd_at _ _ _)).trans ((go_out (Or.inl (Nat.lt_succ_self n'))).trans (upd_at _ _ _)).symm
      | succ i =>
        rw [show n + (i + 1) = n + 1 + i by omega, show n' + (i + 1) = n' + 1 + i by omega]
        exact go_same _ _ _ _ _ _ _ (by omega)
/-- a pattern's end -/
abbrev eM (F : Nat → Nat) (ty sp k : Nat) : Nat × Nat := rn F ty (pat k) (sp, 0)
def p0 (k : Nat) : Nat := (pat k).getD 0 0
def p1 (k : Nat) : Nat := (pat k).getD 1 0
theorem pat_2 : ∀ k, k < 9 → ∃ l, pat k = p0 k :: p1 k :: l ∧ p0 k < 200 ∧ p1 k < 200 ∧ l.length + 2 = (pat k).length := by
  intro k hk
  rcases (show k = 0 ∨ k = 1 ∨ k = 2 ∨ k = 3 ∨ k = 4 ∨ k = 5 ∨ k = 6 ∨ k = 7 ∨ k = 8 by omega) with rfl | rfl | rfl | rfl | rfl | rfl | rfl | rfl | rfl
  all_goals exact ⟨_, rfl, by decide, by decide, rfl⟩
theorem eM_0 {F : Nat → Nat} {ty sp k : Nat} (hk : k < 9) (h : ¬ hrx F ty sp = nI (p0 k)) : eM F ty sp k = (sp, 1) := by
  obtain ⟨l, e, h0, h1, _⟩ := pat_2 k hk
  show rn F ty (pat k) (sp, 0) = _
  rw [e]
  show rn F ty (p1 k :: l) (st1 F ty (p0 k) (sp, 0)) = _
  rw [st1_bad (fun q => h ((okI_lit h0).mp q)), rn_end (show ¬ ((sp, 0).1, 1).2 = 0 from Nat.one_ne_zero), if_neg (List.cons_ne_nil _ _)]
theorem eM_1 {F : Nat → Nat} {ty sp k : Nat} (hk : k < 9) (h : hrx F ty sp = nI (p0 k)) : sp + 1 ≤ (eM F ty sp k).1 := by
  obtain ⟨l, e, h0, h1, _⟩ := pat_2 k hk
  show _ ≤ (rn F ty (pat k) (sp, 0)).1
  rw [e]
  show _ ≤ (rn F ty (p1 k :: l) (st1 F ty (p0 k) (sp, 0))).1
  rw [st1_ok (E := (sp, 0)) rfl ((okI_lit h0).mpr h)]
  rcases rn_flag (F := F) (ty := ty) (l := p1 k :: l) (E := (sp + 1, 0)) rfl with ⟨_, b⟩ | ⟨_, _, c⟩
  · rw [b]; exact Nat.le_add_right _ _
  · exact c
theorem eM_2 {F : Nat → Nat} {ty sp k : Nat} (hk : k < 9) (h : hrx F ty sp = nI (p0 k)) (h2 : ¬ hrx F ty (sp + 1) = nI (p1 k)) : eM F ty sp k = (sp + 1, 1) := by
  obtain ⟨l, e, h0, h1, _⟩ := pat_2 k hk
  show rn F ty (pat k) (sp, 0) = _
  rw [e]
  show rn F ty l (st1 F ty (p1 k) (st1 F ty (p0 k) (sp, 0))) = _
  rw [st1_ok (E := (sp, 0)) rfl ((okI_lit h0).mpr h), st1_bad (E := (sp + 1, 0)) (fun q => h2 ((okI_lit h1).mp q)), rn_end (show ¬ ((sp + 1, 0).1, 1).2 = 0 from Nat.one_ne_zero)]
  show (sp + 1, if l = [] then 1 else 1) = _
  split <;> rfl
theorem nI_ne {a b : Nat} (ha : a < 2 ^ 31) (hb : b < 2 ^ 31) (h : ¬ a = b) : ¬ nI a = nI b := fun q => h ((nI_eq ha hb).mp q)
/-- the kind by the first two signs: a pattern of the other kinds matches one sign at most -/
theorem kd_c {F : Nat → Nat} {ty sp : Nat} : (kd F ty sp < 9 ∧ hrx F ty sp = nI (p0 (kd F ty sp)) ∧ ∀ k, k < 9 → ¬ k = kd F ty sp → hrx F ty sp = nI (p0 k) → ¬ hrx F ty (sp + 1) = nI (p1 k)) ∨ (¬ kd F ty sp < 9 ∧ ∀ k, k < 9 → ¬ hrx F ty sp = nI (p0 k)) := by
  have u : ∀ (a b : Nat), a < 2 ^ 31 → b < 2 ^ 31 → hrx F ty sp = nI a → hrx F ty sp = nI b → a = b := fun a b ha hb h1 h2 => (nI_eq ha hb).mp (h1.symm.trans h2)
  have v : ∀ (a b : Nat), a < 2 ^ 31 → b < 2 ^ 31 → hrx F ty (sp + 1) = nI a → hrx F ty (sp + 1) = nI b → a = b := fun a b ha hb h1 h2 => (nI_eq ha hb).mp (h1.symm.trans h2)
  have nine : ∀ {k : Nat}, k < 9 → k = 0 ∨ k = 1 ∨ k = 2 ∨ k = 3 ∨ k = 4 ∨ k = 5 ∨ k = 6 ∨ k = 7 ∨ k = 8 := fun h => by omega
  have one : ∀ (j : Nat), (∀ k, k < 9 → p0 k = p0 j → k = j) → p0 j < 2 ^ 31 → hrx F ty sp = nI (p0 j) → ∀ k, k < 9 → ¬ k = j → hrx F ty sp = nI (p0 k) → ¬ hrx F ty (sp + 1) = nI (p1 k) := by
    intro j hj hb h1 k hk hne h2 _
    have hkb : p0 k < 2 ^ 31 := by
      have : ∀ k, k < 9 → p0 k < 2 ^ 31 := by decide
      exact this k hk
    exact hne (hj k hk (u _ _ hkb hb h2 h1))
  unfold kd
  by_cases c1 : hrx F ty sp = nI 100
  · rw [if_pos c1]; exact Or.inl ⟨by decide, c1, one 0 (by decide) (by decide) c1⟩
  · rw [if_neg c1]
    by_cases c2 : hrx F ty sp = nI 101
    · rw [if_pos c2]; exact Or.inl ⟨by decide, c2, one 4 (by decide) (by decide) c2⟩
    · rw [if_neg c2]
      by_cases c3 : hrx F ty sp = nI 102
      · rw [if_pos c3]; exact Or.inl ⟨by decide, c3, one 8 (by decide) (by decide) c3⟩
      · rw [if_neg c3]
        by_cases c4 : hrx F ty sp = nI 103
        · rw [if_pos c4]; exact Or.inl ⟨by decide, c4, one 2 (by decide) (by decide) c4⟩
        · rw [if_neg c4]
          by_cases c5 : hrx F ty sp = nI 107
          · rw [if_pos c5]
            by_cases d1 : hrx F ty (sp + 1) = nI 110
            · rw [if_pos d1]
              refine Or.inl ⟨by decide, c5, fun k hk hne h2 h3 => ?_⟩
              rcases nine hk with rfl | rfl | rfl | rfl | rfl | rfl | rfl | rfl | rfl
              all_goals first | exact hne rfl | exact absurd (u _ _ (by decide) (by decide) c5 h2) (by decide) | exact absurd (v _ _ (by decide) (by decide) d1 h3) (by decide)
            · rw [if_neg d1]
              refine Or.inl ⟨by decide, c5, fun k hk hne h2 h3 => ?_⟩
              rcases nine hk with rfl | rfl | rfl | rfl | rfl | rfl | rfl | rfl | rfl
              all_goals first | exact hne rfl | exact absurd (u _ _ (by decide) (by decide) c5 h2) (by decide) | exact d1 h3
          · rw [if_neg c5]
            by_cases c6 : hrx F ty sp = nI 115
            · rw [if_pos c6]
              by_cases d1 : hrx F ty (sp + 1) = nI 105
              · rw [if_pos d1]
                refine Or.inl ⟨by decide, c6, fun k hk hne h2 h3 => ?_⟩
                rcases nine hk with rfl | rfl | rfl | rfl | rfl | rfl | rfl | rfl | rfl
                all_goals first | exact hne rfl | exact absurd (u _ _ (by decide) (by decide) c6 h2) (by decide) | exact absurd (v _ _ (by decide) (by decide) d1 h3) (by decide)
              · rw [if_neg d1]
                by_cases d2 : hrx F ty (sp + 1) = nI 104
                · rw [if_pos d2]
                  refine Or.inl ⟨by decide, c6, fun k hk hne h2 h3 => ?_⟩
                  rcases nine hk with rfl | rfl | rfl | rfl | rfl | rfl | rfl | rfl | rfl
                  all_goals first | exact hne rfl | exact absurd (u _ _ (by decide) (by decide) c6 h2) (by decide) | exact absurd (v _ _ (by decide) (by decide) d2 h3) (by decide)
                · rw [if_neg d2]
                  refine Or.inl ⟨by decide, c6, fun k hk hne h2 h3 => ?_⟩
                  rcases nine hk with rfl | rfl | rfl | rfl | rfl | rfl | rfl | rfl | rfl
                  all_goals first | exact hne rfl | exact absurd (u _ _ (by decide) (by decide) c6 h2) (by decide) | exact d1 h3 | exact d2 h3
            · rw [if_neg c6]
              refine Or.inr ⟨by decide, fun k hk h2 => ?_⟩
              rcases nine hk with rfl | rfl | rfl | rfl | rfl | rfl | rfl | rfl | rfl
              all_goals first | exact c1 h2 | exact c2 h2 | exact c3 h2 | exact c4 h2 | exact c5 h2 | exact c6 h2
theorem oE_9 {F : Nat → Nat} {ty sp : Nat} (h : ¬ kd F ty sp < 9) : oE F ty sp = (sp, 1) := if_neg h
theorem oE_k {F : Nat → Nat} {ty sp : Nat} (h : kd F ty sp < 9) : oE F ty sp = eM F ty sp (kd F ty sp) := if_pos h
/-- what another pattern's end tells -/
theorem eM_other {F : Nat → Nat} {ty sp k : Nat} (hk : k < 9) (hne : ¬ k = kd F ty sp) : ¬ (eM F ty sp k).2 = 0 ∧ (eM F ty sp k).1 ≤ (oE F ty sp).1 := by
  rcases kd_c (F := F) (ty := ty) (sp := sp) with ⟨h1, h2, h3⟩ | ⟨h1, h2⟩
  · rw [oE_k h1]
    have h4 := eM_1 h1 h2
    by_cases q : hrx F ty sp = nI (p0 k)
    · rw [eM_2 hk q (h3 k hk hne q)]; exact ⟨Nat.one_ne_zero, h4⟩
    · rw [eM_0 hk q]; exact ⟨Nat.one_ne_zero, Nat.le_trans (Nat.le_succ _) h4⟩
  · rw [oE_9 h1, eM_0 hk (h2 k hk)]; exact ⟨Nat.one_ne_zero, Nat.le_refl _⟩
/-- the farthest end of the first k patterns -/
def fm (F : Nat → Nat) (ty sp : Nat) : Nat → Nat
  | 0 => sp
  | k + 1 => max (fm F ty sp k) (eM F ty sp k).1
theorem oE_sp {F : Nat → Nat} {ty sp : Nat} : sp ≤ (oE F ty sp).1 := by
  unfold oE
  split
  · rcases rn_flag (F := F) (ty := ty) (l := pat (kd F ty sp)) (E := (sp, 0)) rfl with ⟨_, b⟩ | ⟨_, _, c⟩
    · rw [b]; exact Nat.le_add_right _ _
    · exact c
  · exact Nat.le_refl _
theorem fm_le {F : Nat → Nat} {ty sp : Nat} : ∀ k, k ≤ 9 → fm F ty sp k ≤ (oE F ty sp).1
  | 0, _ => oE_sp
  | k + 1, h => by
    have h1 := fm_le (F := F) (ty := ty) (sp := sp) k (by omega)
    have h2 : (eM F ty sp k).1 ≤ (oE F ty sp).1 := by
      by_cases e : k = kd F ty sp
      · rw [oE_k (by omega), ← e]; exact Nat.le_refl _
      · exact (eM_other (by omega) e).2
    show max _ _ ≤ _
    omega
theorem fm_ge {F : Nat → Nat} {ty sp : Nat} : ∀ k, sp ≤ fm F ty sp k ∧ ∀ j, j < k → (eM F ty sp j).1 ≤ fm F ty sp k
  | 0 => ⟨Nat.le_refl _, fun j hj => absurd hj (Nat.not_lt_zero j)⟩
  | k + 1 => by
    have h1 := fm_ge (F := F) (ty := ty) (sp := sp) k
    refine ⟨?_, fun j hj => ?_⟩
    · show sp ≤ max _ _; have := h1.1; omega
    · show _ ≤ max _ _
      by_cases e : j = k
      · subst e; omega
      · have := h1.2 j (by omega); omega
theorem fm_9 {F : Nat → Nat} {ty sp : Nat} : fm F ty sp 9 = (oE F ty sp).1 := by
  have h1 := fm_le (F := F) (ty := ty) (sp := sp) 9 (Nat.le_refl _)
  have h2 := fm_ge (F := F) (ty := ty) (sp := sp) 9
  by_cases q : kd F ty sp < 9
  · have h3 := h2.2 _ q
    rw [oE_k q] at h1 ⊢
    omega
  · rw [oE_9 q] at h1 ⊢
    have h1 : fm F ty sp 9 ≤ sp := h1
    have := h2.1
    show _ = sp
    omega
theorem oE_none {F : Nat → Nat} {ty sp : Nat} (h : ∀ j, j < 9 → ¬ (eM F ty sp j).2 = 0) : ¬ (oE F ty sp).2 = 0 := by
  by_cases q : kd F ty sp < 9
  · rw [oE_k q]; exact h _ q
  · rw [oE_9 q]; exact Nat.one_ne_zero
theorem oE_hit {F : Nat → Nat} {ty sp k : Nat} (hk : k < 9) (h : (eM F ty sp k).2 = 0) : kd F ty sp = k ∧ oE F ty sp = eM F ty sp k := by
  have e : kd F ty sp = k := Decidable.byContradiction (fun q => (eM_other hk (fun z => q z.symm)).1 h)
  exact ⟨e, by rw [oE_k (by omega), e]⟩
/-- its numbers -/
theorem oV_go {F : Nat → Nat} {ty sp : Nat} {T : Nat → Int32} (h : kd F ty sp < 9) {i : Nat} (hi : i < nv9 (pat (kd F ty sp))) : (go F ty (pat (kd F ty sp)) (sp, 0) T 0).2 i = oV F ty sp (1 + i) := by
  show _ = (rdO F ty sp (fun _ => 0) 0).2 (1 + i)
  unfold rdO
  rw [if_pos h]
  have := go_same (F := F) (ty := ty) (pat (kd F ty sp)) (sp, 0) T (upd (fun _ => 0) 0 (nI (oc (kd F ty sp)))) 0 1 i hi
  rw [Nat.zero_add] at this
  exact this
