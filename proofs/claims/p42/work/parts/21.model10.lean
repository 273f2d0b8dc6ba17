theorem nv_tableDef {p : Program} {l : Launch} {e : Env} {R : Room} {s : State} {m : MethodId} {args : Array Value} {below : List Frame} {meth : Method} {c : Code} {H : Heap} {locs : List Loc} {cells slots : Nat} {Q : State → Prop} {cc : ByteArray} {pc : Nat} {ls : Array Slot} {rest : List Value}
    (hx : p.tables.exec = Jvm.exec) (hb : c.code = cc) {dflt lo hi : Int} {offs : Array Int} {len : Nat} {x : Int32} {n tgt : Nat} (hdg : decode cc pc = .ok (.tableswitch dflt lo hi offs, len)) (hu : ∀ i : Nat, x.toInt = lo + i → i < n → offs[i]? = some dflt) (hn : hi = lo + n - 1) (ht : (pc : Int) + dflt = (tgt : Int))
    (k : W p l e R s m args below meth c H locs cells slots Q (F0 m tgt ls rest)) : W p l e R s m args below meth c H locs cells slots Q (F0 m pc ls (.int x :: rest)) := by
  by_cases h1 : x.toInt < lo
  · exact lv_tableOut hx hb hdg (Or.inl h1) ht k
  · by_cases h2 : hi < x.toInt
    · exact lv_tableOut hx hb hdg (Or.inr h2) ht k
    · exact lv_tableIn hx hb hdg h1 h2 (hu (x.toInt - lo).toNat (by omega) (by omega)) ht k
/-! orders as texts: a sign is its number below 128; 200 a digit, 201 a digit or '-', 202 a gender, 203 a number, 204 a case, 205 an ending -/
def hrx (F : Nat → Nat) (ty sp : Nat) : Int32 := if sp < ty then nI (F sp) else (-1)
theorem hr_in {F : Nat → Nat} {ty sp : Nat} (h : ¬ ty ≤ sp) : nI (F sp) = hrx F ty sp := (if_pos (by omega)).symm
theorem hr_out {F : Nat → Nat} {ty sp : Nat} (h : ty ≤ sp) : (-1) = hrx F ty sp := (if_neg (by omega)).symm
def vD (x : Int32) : Int32 := if nI 48 ≤ x ∧ x ≤ nI 57 then x - nI 48 else (-1)
def vG (x : Int32) : Int32 := if x = nI 111 then nI 0 else (if x = nI 105 then nI 1 else (if x = nI 103 then nI 2 else (-1)))
def vN (x : Int32) : Int32 := if x = nI 115 then nI 0 else (if x = nI 100 then nI 1 else (-1))
def vC (x : Int32) : Int32 := if x = nI 79 then nI 0 else (if x = nI 83 then nI 1 else (if x = nI 65 then nI 2 else (if x = nI 76 then nI 3 else (-1))))
def vE (x : Int32) : Int32 := if nI 97 ≤ x ∧ x ≤ nI 122 then x - nI 97 else (-1)
def vI (w : Nat) (x : Int32) : Int32 := if w = 200 ∨ w = 201 then vD x else (if w = 202 then vG x else (if w = 203 then vN x else (if w = 204 then vC x else vE x)))
abbrev okI (w : Nat) (x : Int32) : Prop := (w < 200 ∧ x = nI w) ∨ (w = 201 ∧ x = nI 45) ∨ (200 ≤ w ∧ ¬ vI w x = (-1))
/-- a step of the reading: the place, and whether it is wrong -/
def st1 (F : Nat → Nat) (ty w : Nat) (E : Nat × Nat) : Nat × Nat := if E.2 = 0 ∧ okI w (hrx F ty E.1) then (E.1 + 1, 0) else (E.1, 1)
def rn (F : Nat → Nat) (ty : Nat) : List Nat → Nat × Nat → Nat × Nat
  | [], E => E
  | w :: l, E => rn F ty l (st1 F ty w E)
def tk (v : Int32) (E : Nat × Nat) : Nat × Nat := if E.2 = 0 ∧ ¬ v = (-1) then (E.1 + 1, 0) else (E.1, 1)
def eOk (E : Nat × Nat) : Prop := E.1 ≤ 60 ∧ E.2 ≤ 1
theorem st1_no {F : Nat → Nat} {ty w : Nat} {E : Nat × Nat} (h : ¬ E.2 = 0) : st1 F ty w E = (E.1, 1) := if_neg (fun q => h q.1)
theorem st1_bad {F : Nat → Nat} {ty w : Nat} {E : Nat × Nat} (h : ¬ okI w (hrx F ty E.1)) : st1 F ty w E = (E.1, 1) := if_neg (fun q => h q.2)
theorem st1_ok {F : Nat → Nat} {ty w : Nat} {E : Nat × Nat} (h0 : E.2 = 0) (h : okI w (hrx F ty E.1)) : st1 F ty w E = (E.1 + 1, 0) := if_pos ⟨h0, h⟩
theorem okI_lit {w : Nat} {x : Int32} (hw : w < 200) : okI w x ↔ x = nI w :=
  ⟨fun q => q.elim And.right (fun q => by omega), fun q => Or.inl ⟨hw, q⟩⟩
theorem okI_val {w : Nat} {x : Int32} (hw : 200 ≤ w) (h1 : ¬ w = 201) : okI w x ↔ ¬ vI w x = (-1) :=
  ⟨fun q => q.elim (fun q => by omega) (fun q => q.elim (fun q => absurd q.1 h1) And.right), fun q => Or.inr (Or.inr ⟨hw, q⟩)⟩
theorem tk_no {v : Int32} {E : Nat × Nat} (h : ¬ E.2 = 0) : tk v E = (E.1, 1) := if_neg (fun q => h q.1)
theorem tk_bad {v : Int32} {E : Nat × Nat} (h : v = (-1)) : tk v E = (E.1, 1) := if_neg (fun q => q.2 h)
theorem tk_ok {v : Int32} {E : Nat × Nat} (h0 : E.2 = 0) (h : ¬ v = (-1)) : tk v E = (E.1 + 1, 0) := if_pos ⟨h0, h⟩
theorem tk_st {F : Nat → Nat} {ty w : Nat} {E : Nat × Nat} (hw : 200 ≤ w) (h1 : ¬ w = 201) : tk (vI w (hrx F ty E.1)) E = st1 F ty w E := by
  by_cases h0 : E.2 = 0
  · by_cases h : vI w (hrx F ty E.1) = (-1)
    · rw [tk_bad h, st1_bad (fun q => (okI_val hw h1).mp q h)]
    · rw [tk_ok h0 h, st1_ok h0 ((okI_val hw h1).mpr h)]
  · rw [tk_no h0, st1_no h0]
theorem hr_lt {F : Nat → Nat} {ty sp : Nat} (h : ¬ hrx F ty sp = (-1)) : sp < ty := by
  refine Decidable.byContradiction (fun q => h ?_)
  exact if_neg q
theorem okI_lt {F : Nat → Nat} {ty sp w : Nat} (h : okI w (hrx F ty sp)) : sp < ty := by
  refine hr_lt (F := F) (fun q => ?_)
  rw [q] at h
  rcases h with ⟨h1, h2⟩ | ⟨h1, h2⟩ | ⟨h1, h2⟩
  · have h3 := congrArg Int32.toInt h2
    rw [nI_toInt (by omega)] at h3
    have h4 : (-1 : Int32).toInt = -1 := by decide
    omega
  · exact absurd h2 (by decide)
  · refine h2 ?_
    unfold vI
    split
    · decide
    · split
      · decide
      · split
        · decide
        · split <;> decide
theorem st1_e {F : Nat → Nat} {ty w : Nat} {E : Nat × Nat} (hty : ty ≤ 60) (h : eOk E) : eOk (st1 F ty w E) := by
  unfold st1
  split
  · rename_i q
    have h1 := okI_lt q.2
    exact ⟨by show E.1 + 1 ≤ 60; omega, by show 0 ≤ 1; omega⟩
  · exact ⟨h.1, Nat.le_refl 1⟩
theorem eOk.sp {E : Nat × Nat} (h : eOk E) : E.1 ≤ 60 := h.1
/-- a text of signs: the place behind it and the values, written from the place n on -/
def go (F : Nat → Nat) (ty : Nat) : List Nat → Nat × Nat → (Nat → Int32) → Nat → (Nat × Nat) × (Nat → Int32)
  | [], E, T, _ => (E, T)
  | w :: l, E, T, n => if w < 200 then go F ty l (st1 F ty w E) T n else go F ty l (st1 F ty w E) (upd T n (vI w (hrx F ty E.1))) (n + 1)
theorem go_lit {F : Nat → Nat} {ty c : Nat} {l : List Nat} {E : Nat × Nat} {T : Nat → Int32} {n : Nat} (hc : c < 200) : go F ty (c :: l) E T n = go F ty l (st1 F ty c E) T n := if_pos hc
theorem go_fst {F : Nat → Nat} {ty : Nat} : ∀ (l : List Nat) (E : Nat × Nat) (T : Nat → Int32) (n : Nat), (go F ty l E T n).1 = rn F ty l E
  | [], _, _, _ => rfl
  | w :: l, E, T, n => by
    unfold go rn
    split
    · exact go_fst l _ _ _
    · exact go_fst l _ _ _
theorem go_dash {F : Nat → Nat} {ty : Nat} {E : Nat × Nat} {T : Nat → Int32} {n : Nat} (h0 : E.2 = 0) (h : hrx F ty E.1 = nI 45) : go F ty [201] E T n = ((E.1 + 1, E.2), upd T n (-1)) := by
  show (st1 F ty 201 E, upd T n (vI 201 (hrx F ty E.1))) = _
  rw [st1_ok h0 (Or.inr (Or.inl ⟨rfl, h⟩)), h, h0]
  rfl
theorem go_fig {F : Nat → Nat} {ty : Nat} {E : Nat × Nat} {T : Nat → Int32} {n : Nat} (h : ¬ (E.2 = 0 ∧ hrx F ty E.1 = nI 45)) : go F ty [201] E T n = go F ty [200] E T n := by
  show (st1 F ty 201 E, upd T n (vI 201 (hrx F ty E.1))) = (st1 F ty 200 E, upd T n (vI 200 (hrx F ty E.1)))
  have e : st1 F ty 201 E = st1 F ty 200 E := by
    by_cases h0 : E.2 = 0
    · by_cases h1 : okI 200 (hrx F ty E.1)
      · rw [st1_ok (w := 200) h0 h1, st1_ok (w := 201) h0 (Or.inr (Or.inr ⟨by decide, fun q => (okI_val (by decide) (by decide)).mp h1 q⟩))]
      · rw [st1_bad (w := 200) h1, st1_bad (w := 201) (fun q => by
          rcases q with q | q | q
          · exact absurd q.1 (by decide)
          · exact h ⟨h0, q.2⟩
          · exact h1 ((okI_val (by decide) (by decide)).mpr q.2))]
    · rw [st1_no h0, st1_no h0]
  rw [e]
  rfl
def rdS (F : Nat → Nat) (ty : Nat) (E : Nat × Nat) (T : Nat → Int32) (k : Nat) : (Nat × Nat) × (Nat → Int32) :=
  if hrx F ty E.1 = nI 105 then go F ty [105, 108, 108, 204] E (upd T k (nI 116)) (k + 1) else (if hrx F ty E.1 = nI 104 then go F ty [104, 117, 116, 200] E (upd T k (nI 104)) (k + 1) else go F ty [101, 116, 200, 64, 201] E (upd T k (nI 115)) (k + 1))
def rdK (F : Nat → Nat) (ty : Nat) (E : Nat × Nat) (T : Nat → Int32) (k : Nat) : (Nat × Nat) × (Nat → Int32) :=
  if hrx F ty E.1 = nI 110 then go F ty [110, 111, 99, 107, 200, 58, 202, 203, 204] E (upd T k (nI 110)) (k + 1) else go F ty [101, 121, 200, 202] E (upd T k (nI 107)) (k + 1)
/-- an order's kind: 0 door, 1 sill, 2 govern, 3 set, 4 end, 5 key, 6 knock, 7 shut, 8 free, 9 none -/
def kd (F : Nat → Nat) (ty sp : Nat) : Nat :=
  if hrx F ty sp = nI 100 then 0 else (if hrx F ty sp = nI 101 then 4 else (if hrx F ty sp = nI 102 then 8 else (if hrx F ty sp = nI 103 then 2 else
  (if hrx F ty sp = nI 107 then (if hrx F ty (sp + 1) = nI 110 then 6 else 5) else (if hrx F ty sp = nI 115 then (if hrx F ty (sp + 1) = nI 105 then 1 else (if hrx F ty (sp + 1) = nI 104 then 7 else 3)) else 9)))))
def pat (k : Nat) : List Nat := match k with
  | 0 => [100, 111, 111, 114, 200, 202, 203, 200, 200]
  | 1 => [115, 105, 108, 108, 204]
  | 2 => [103, 111, 118, 101, 114, 110, 200, 204]
  | 3 => [115, 101, 116, 200, 64, 201]
  | 4 => [101, 110, 100, 200, 204, 203, 61, 205]
  | 5 => [107, 101, 121, 200, 202]
  | 6 => [107, 110, 111, 99, 107, 200, 58, 202, 203, 204]
  | 7 => [115, 104, 117, 116, 200]
  | _ => [102, 114, 101, 101, 200, 62, 200]
def oc (k : Nat) : Nat := match k with
  | 0 => 100 | 1 => 116 | 2 => 103 | 3 => 115 | 4 => 101 | 5 => 107 | 6 => 110 | 7 => 104 | _ => 102
/-- an order read from the place sp on, its numbers written from the place k on -/
def rdO (F : Nat → Nat) (ty sp : Nat) (T : Nat → Int32) (k : Nat) : (Nat × Nat) × (Nat → Int32) :=
  if kd F ty sp < 9 then go F ty (pat (kd F ty sp)) (sp, 0) (upd T k (nI (oc (kd F ty sp)))) (k + 1) else ((sp, 1), upd T k (hrx F ty sp))
theorem upd_upd (T : Nat → Int32) (k : Nat) (x y : Int32) : upd (upd T k x) k y = upd T k y := by
  funext j
  by_cases h : j = k
  · subst h; simp [upd]
  · simp [upd, h]
theorem rdO_go {F : Nat → Nat} {ty sp k : Nat} {T : Nat → Int32} (j : Nat) (hj : kd F ty sp = j) (h9 : j < 9) (c : Nat) (l : List Nat) (hp : pat j = c :: l) (hc : c < 200) (h : hrx F ty sp = nI c) : rdO F ty sp T k = go F ty l (sp + 1, 0) (upd T k (nI (oc j))) (k + 1) := by
  unfold rdO
  rw [hj, if_pos h9, hp, go_lit hc, st1_ok (w := c) (E := (sp, 0)) rfl (Or.inl ⟨hc, h⟩)]
theorem kd_S {F : Nat → Nat} {ty sp k : Nat} {T : Nat → Int32} (h : hrx F ty sp = nI 115) : rdO F ty sp T k = rdS F ty (sp + 1, 0) (upd T k (nI 115)) k := by
  have e0 : ∀ j, kd F ty sp = j → (if hrx F ty (sp + 1) = nI 105 then 1 else (if hrx F ty (sp + 1) = nI 104 then 7 else 3)) = j := by
    intro j hj
    rw [← hj]
    unfold kd
    rw [h, if_neg (show ¬ nI 115 = nI 100 by decide), if_neg (show ¬ nI 115 = nI 101 by decide), if_neg (show ¬ nI 115 = nI 102 by decide), if_neg (show ¬ nI 115 = nI 103 by decide), if_neg (show ¬ nI 115 = nI 107 by decide), if_pos rfl]
  unfold rdS
  show _ = if hrx F ty (sp + 1) = nI 105 then _ else _
  have e := e0 _ rfl
  by_cases h1 : hrx F ty (sp + 1) = nI 105
  · rw [if_pos h1] at e ⊢
    rw [rdO_go 1 e.symm (by decide) 115 [105, 108, 108, 204] rfl (by decide) h, upd_upd]
    rfl
  · rw [if_neg h1] at e ⊢
    by_cases h2 : hrx F ty (sp + 1) = nI 104
    · rw [if_pos h2] at e ⊢
      rw [rdO_go 7 e.symm (by decide) 115 [104, 117, 116, 200] rfl (by decide) h, upd_upd]
      rfl
    · rw [if_neg h2] at e ⊢
      rw [rdO_go 3 e.symm (by decide) 115 [101, 116, 200, 64, 201] rfl (by decide) h, upd_upd]
      rfl
theorem kd_K {F : Nat → Nat} {ty sp k : Nat} {T : Nat → Int32} (h : hrx F ty sp = nI 107) : rdO F ty sp T k = rdK F ty (sp + 1, 0) (upd T k (nI 107)) k := by
  have e0 : ∀ j, kd F ty sp = j → (if hrx F ty (sp + 1) = nI 110 then 6 else 5) = j := by
    intro j hj
    rw [← hj]
    unfold kd
    rw [h, if_neg (show ¬ nI 107 = nI 100 by decide), if_neg (show ¬ nI 107 = nI 101 by decide), if_neg (show ¬ nI 107 = nI 102 by decide), if_neg (show ¬ nI 107 = nI 103 by decide), if_pos rfl]
  unfold rdK
  show _ = if hrx F ty (sp + 1) = nI 110 then _ else _
  have e := e0 _ rfl
  by_cases h1 : hrx F ty (sp + 1) = nI 110
  · rw [if_pos h1] at e ⊢
    rw [rdO_go 6 e.symm (by decide) 107 [110, 111, 99, 107, 200, 58, 202, 203, 204] rfl (by decide) h, upd_upd]
    rfl
  · rw [if_neg h1] at e ⊢
    rw [rdO_go 5 e.symm (by decide) 107 [101, 121, 200, 202] rfl (by decide) h, upd_upd]
    rfl
