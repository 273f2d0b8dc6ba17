theorem nv_tableDef {p : Program} {l : Launch} {e : Env} {R : Room} {s : State} {m : MethodId} {args : Array Value} {below : List Frame} {meth : Method} {c : Code} {H : Heap} {locs : List Loc} {cells slots : Nat} {Q : State → Prop} {cc : ByteArray} {pc : Nat} {ls : Array Slot} {rest : List Value}
    (hx : p.tables.exec = Jvm.exec) (hb : c.code = cc) {dflt lo hi : Int} {offs : Array Int} {len : Nat} {x : Int32} {n tgt : Nat} (hdg : decode cc pc = .ok (.tableswitch dflt lo hi offs, len)) (hu : ∀ i : Nat, x.toInt = lo + i → i < n → offs[i]? = some dflt) (hn : hi = lo + n - 1) (ht : (pc : Int) + dflt = (tgt : Int))
    (k : W p l e R s m args below meth c H locs cells slots Q (F0 m tgt ls rest)) : W p l e R s m args below meth c H locs cells slots Q (F0 m pc ls (.int x :: rest)) := by
  by_cases h1 : x.toInt < lo
  · exact lv_tableOut hx hb hdg (Or.inl h1) ht k
  · by_cases h2 : hi < x.toInt
    · exact lv_tableOut hx hb hdg (Or.inr h2) ht k
    · exact lv_tableIn hx hb hdg h1 h2 (hu (x.toInt - lo).toNat (by omega) (by omega)) ht k
/-! orders as texts: a sign is its number below 128; 200 a digit, 201 a digit or '-', 202 a gender, 203 a number, 204 a case, 205 an ending -/
def hrx (F : Nat → Nat) (ty sp : Nat) : Int32 := if sp < ty then nI (F sp) else (-1)
theorem hr_in {F : Nat → Nat} {ty sp : Nat} (h : ¬ ty ≤ sp) : nI (F sp) = hrx F ty sp := (if_pos (by omega)).symm
theorem hr_out {F : Nat → Nat} {ty sp : Nat} (h : ty ≤ sp) : (-1) = hrx F ty sp := (if_neg (by omega)).symm
def vD (x : Int32) : Int32 := if nI 48 ≤ x ∧ x ≤ nI 57 then x - nI 48 else (-1)
def vG (x : Int32) : Int32 := if x = nI 111 then nI 0 else (if x = nI 105 then nI 1 else (if x = nI 103 then nI 2 else (-1)))
def vN (x : Int32) : Int32 := if x = nI 115 then nI 0 else (if x = nI 100 then nI 1 else (-1))
def vC (x : Int32) : Int32 := if x = nI 79 then nI 0 else (if x = nI 83 then nI 1 else (if x = nI 65 then nI 2 else (if x = nI 76 then nI 3 else (-1))))
def vE (x : Int32) : Int32 := if nI 97 ≤ x ∧ x ≤ nI 122 then x - nI 97 else (-1)
def vI (w : Nat) (x : Int32) : Int32 := if w = 200 ∨ w = 201 then vD x else (if w = 202 then vG x else (if w = 203 then vN x else (if w = 204 then vC x else vE x)))
abbrev okI (w : Nat) (x : Int32) : Prop := (w < 200 ∧ x = nI w) ∨ (w = 201 ∧ x = nI 45) ∨ (200 ≤ w ∧ ¬ vI w x = (-1))
/-- a step of the reading: the place, and whether it is wrong -/
def st1 (F : Nat → Nat) (ty w : Nat) (E : Nat × Nat) : Nat × Nat := if E.2 = 0 ∧ okI w (hrx F ty E.1) then (E.1 + 1, 0) else (E.1, 1)
def rn (F : Nat → Nat) (ty : Nat) : List Nat → Nat × Nat → Nat × Nat
  | [], E => E
  | w :: l, E => rn F ty l (st1 F ty w E)
def tk (v : Int32) (E : Nat × Nat) : Nat × Nat := if E.2 = 0 ∧ ¬ v = (-1) then (E.1 + 1, 0) else (E.1, 1)
def eOk (E : Nat × Nat) : Prop := E.1 ≤ 60 ∧ E.2 ≤ 1
theorem st1_no {F : Nat → Nat} {ty w : Nat} {E : Nat × Nat} (h : ¬ E.2 = 0) : st1 F ty w E = (E.1, 1) := if_neg (fun q => h q.1)
theorem st1_bad {F : Nat → Nat} {ty w : Nat} {E : Nat × Nat} (h : ¬ okI w (hrx F ty E.1)) : st1 F ty w E = (E.1, 1) := if_neg (fun q => h q.2)
theorem st1_ok {F : Nat → Nat} {ty w : Nat} {E : Nat × Nat} (h0 : E.2 = 0) (h : okI w (hrx F ty E.1)) : st1 F ty w E = (E.1 + 1, 0) := if_pos ⟨h0, h⟩
theorem okI_lit {w : Nat} {x : Int32} (hw : w < 200) : okI w x ↔ x = nI w :=
  ⟨fun q => q.elim And.right (fun q => by omega), fun q => Or.inl ⟨hw, q⟩⟩
theorem okI_val {w : Nat} {x : Int32} (hw : 200 ≤ w) (h1 : ¬ w = 201) : okI w x ↔ ¬ vI w x = (-1) :=
  ⟨fun q => q.elim (fun q => by omega) (fun q => q.elim (fun q => absurd q.1 h1) And.right), fun q => Or.inr (Or.inr ⟨hw, q⟩)⟩
theorem tk_no {v : Int32} {E : Nat × Nat} (h : ¬ E.2 = 0) : tk v E = (E.1, 1) := if_neg (fun q => h q.1)
theorem tk_bad {v : Int32} {E : Nat × Nat} (h : v = (-1)) : tk v E = (E.1, 1) := if_neg (fun q => q.2 h)
theorem tk_ok {v : Int32} {E : Nat × Nat} (h0 : E.2 = 0) (h : ¬ v = (-1)) : tk v E = (E.1 + 1, 0) := if_pos ⟨h0, h⟩
theorem tk_st {F : Nat → Nat} {ty w : Nat} {E : Nat × Nat} (hw : 200 ≤ w) (h1 : ¬ w = 201) : tk (vI w (hrx F ty E.1)) E = st1 F ty w E := by
  by_cases h0 : E.2 = 0
  · by_cases h : vI w (hrx F ty E.1) = (-1)
    · rw [tk_bad h, st1_bad (fun q => (okI_val hw h1).mp q h)]
    · rw [tk_ok h0 h, st1_ok h0 ((okI_val hw h1).mpr h)]
  · rw [tk_no h0, st1_no h0]
theorem hr_lt {F : Nat → Nat} {ty sp : Nat} (h : ¬ hrx F ty sp = (-1)) : sp < ty := by
  refine Decidable.byContradiction (fun q => h ?_)
  exact if_neg q
theorem okI_lt {F : Nat → Nat} {ty sp w : Nat} (h : okI w (hrx F ty sp)) : sp < ty := by
  refine hr_lt (F := F) (fun q => ?_)
  rw [q] at h
  rcases h with ⟨h1, h2⟩ | ⟨h1, h2⟩ | ⟨h1, h2⟩
  · have h3 := congrArg Int32.toInt h2
    rw [nI_toInt (by omega)] at h3
    have h4 : (-1 : Int32).toInt = -1 := by decide
    omega
  · exact absurd h2 (by decide)
  · refine h2 ?_
    unfold vI
    split
    · decide
    · split
      · decide
      · split
        · decide
        · split <;> decide
theorem st1_e {F : Nat → Nat} {ty w : Nat} {E : Nat × Nat} (hty : ty ≤ 60) (h : eOk E) : eOk (st1 F ty w E) := by
  unfold st1
  split
  · rename_i q
    have h1 := okI_lt q.2
    exact ⟨by show E.1 + 1 ≤ 60; omega, by show 0 ≤ 1; omega⟩
  · exact ⟨h.1, Nat.le_refl 1⟩
theorem eOk.sp {E : Nat × Nat} (h : eOk E) : E.1 ≤ 60 := h.1
/-- a text of signs: the place behind it and the values, written from the place n on -/
def go (F : Nat → Nat) (ty : Nat) : List Nat → Nat × Nat → (Nat → Int32) → Nat → (Nat × Nat) × (Nat → Int32)
  | [], E, T, _ => (E, T)
  | w :: l, E, T, n => if w < 200 then go F ty l (st1 F ty w E) T n else go F ty l (st1 F ty w E) (upd T n (vI w (hrx F ty E.1))) (n + 1)
theorem go_lit {F : Nat → Nat} {ty c : Nat} {l : List Nat} {E : Nat × Nat} {T : Nat → Int32} {n : Nat} (hc : c < 200) : go F ty (c :: l) E T n = go F ty l (st1 F ty c E) T n := if_pos hc
theorem go_fst {F : Nat → Nat} {ty : Nat} : ∀ (l : List Nat) (E : Nat × Nat) (T : Nat → Int32) (n : Nat), (go F ty l E T n).1 = rn F ty l E
  | [], _, _, _ => rfl
  | w :: l, E, T, n => by
    unfold go rn
    split
    · exact go_fst l _ _ _
    · exact go_fst l _ _ _
theorem go_dash {F : Nat → Nat} {ty : Nat} {E : Nat × Nat} {T : Nat → Int32} {n : Nat} (h0 : E.2 = 0) (h : hrx F ty E.1 = nI 45) : go F ty [201] E T n = ((E.1 + 1, E.2), upd T n (-1)) := by
  show (st1 F ty 201 E, upd T n (vI 201 (hrx F ty E.1))) = _
  rw [st1_ok h0 (Or.inr (Or.inl ⟨rfl, h⟩)), h, h0]
  rfl
theorem go_fig {F : Nat → Nat} {ty : Nat} {E : Nat × Nat} {T : Nat → Int32} {n : Nat} (h : ¬ (E.2 = 0 ∧ hrx F ty E.1 = nI 45)) : go F ty [201] E T n = go F ty [200] E T n := by
  show (st1 F ty 201 E, upd T n (vI 201 (hrx F ty E.1))) = (st1 F ty 200 E, upd T n (vI 200 (hrx F ty E.1)))
  have e : st1 F ty 201 E = st1 F ty 200 E := by
    by_cases h0 : E.2 = 0
    · by_cases h1 : okI 200 (hrx F ty E.1)
      · rw [st1_ok (w := 200) h0 h1, st1_ok (w := 201) h0 (Or.inr (Or.inr ⟨by decide, fun q => (okI_val (by decide) (by decide)).mp h1 q⟩))]
      · rw [st1_bad (w := 200) h1, st1_bad (w := 201) (fun q => by
          rcases q with q | q | q
          · exact absurd q.1 (by decide)
          · exact h ⟨h0, q.2⟩
          · exact h1 ((okI_val (by decide) (by decide)).mpr q.2))]
    · rw [st1_no h0, st1_no h0]
  rw [e]
  rfl
def rdS (F : Nat → Nat) (ty : Nat) (E : Nat × Nat) (T : Nat → Int32) (k : Nat) : (Nat × Nat) × (Nat → Int32) :=
  if hrx F ty E.1 = nI 105 then go F ty [105, 108, 108, 204] E (upd T k (nI 116)) (k + 1) else (if hrx F ty E.1 = nI 104 then go F ty [104, 117, 116, 200] E (upd T k (nI 104)) (k + 1) else go F ty [101, 116, 200, 64, 201] E (upd T k (nI 115)) (k + 1))
def rdK (F : Nat → Nat) (ty : Nat) (E : Nat × Nat) (T : Nat → Int32) (k : Nat) : (Nat × Nat) × (Nat → Int32) :=
  if hrx F ty E.1 = nI 110 then go F ty [110, 111, 99, 107, 200, 58, 202, 203, 204] E (upd T k (nI 110)) (k + 1) else go F ty [101, 121, 200, 202] E (upd T k (nI 107)) (k + 1)
/-- an order's kind: 0 door, 1 sill, 2 govern, 3 set, 4 end, 5 key, 6 knock, 7 shut, 8 free, 9 none -/
def kd (F : Nat → Nat) (ty sp : Nat) : Nat :=
  if hrx F ty sp = nI 100 then 0 else (if hrx F ty sp = nI 101 then 4 else (if hrx F ty sp = nI 102 then 8 else (if hrx F ty sp = nI 103 then 2 else
  (if hrx F ty sp = nI 107 then (if hrx F ty (sp + 1) = nI 110 then 6 else 5) else (if hrx F ty sp = nI 115 then (if hrx F ty (sp + 1) = nI 105 then 1 else (if hrx F ty (sp + 1) = nI 104 then 7 else 3)) else 9)))))
def pat (k : Nat) : List Nat := match k with
  | 0 => [100, 111, 111, 114, 200, 202, 203, 200, 200]
  | 1 => [115, 105, 108, 108, 204]
  | 2 => [103, 111, 118, 101, 114, 110, 200, 204]
  | 3 => [115, 101, 116, 200, 64, 201]
  | 4 => [101, 110, 100, 200, 204, 203, 61, 205]
  | 5 => [107, 101, 121, 200, 202]
  | 6 => [107, 110, 111, 99, 107, 200, 58, 202, 203, 204]
  | 7 => [115, 104, 117, 116, 200]
  | _ => [102, 114, 101, 101, 200, 62, 200]
def oc (k : Nat) : Nat := match k with
  | 0 => 100 | 1 => 116 | 2 => 103 | 3 => 115 | 4 => 101 | 5 => 107 | 6 => 110 | 7 => 104 | _ => 102
/-- an order read from the place sp on, its numbers written from the place k on -/
def rdO (F : Nat → Nat) (ty sp : Nat) (T : Nat → Int32) (k : Nat) : (Nat × Nat) × (Nat → Int32) :=
  if kd F ty sp < 9 then go F ty (pat (kd F ty sp)) (sp, 0) (upd T k (nI (oc (kd F ty sp)))) (k + 1) else ((sp, 1), upd T k (hrx F ty sp))
theorem upd_upd (T : Nat → Int32) (k : Nat) (x y : Int32) : upd (upd T k x) k y = upd T k y := by
  funext j
  by_cases h : j = k
  · subst h; simp [upd]
  · simp [upd, h]
theorem rdO_go {F : Nat → Nat} {ty sp k : Nat} {T : Nat → Int32} (j : Nat) (hj : kd F ty sp = j) (h9 : j < 9) (c : Nat) (l : List Nat) (hp : pat j = c :: l) (hc : c < 200) (h : hrx F ty sp = nI c) : rdO F ty sp T k = go F ty l (sp + 1, 0) (upd T k (nI (oc j))) (k + 1) := by
  unfold rdO
  rw [hj, if_pos h9, hp, go_lit hc, st1_ok (w := c) (E := (sp, 0)) rfl (Or.inl ⟨hc, h⟩)]
theorem kd_S {F : Nat → Nat} {ty sp k : Nat} {T : Nat → Int32} (h : hrx F ty sp = nI 115) : rdO F ty sp T k = rdS F ty (sp + 1, 0) (upd T k (nI 115)) k := by
  have e0 : ∀ j, kd F ty sp = j → (if hrx F ty (sp + 1) = nI 105 then 1 else (if hrx F ty (sp + 1) = nI 104 then 7 else 3)) = j := by
    intro j hj
    rw [← hj]
    unfold kd
    rw [h, if_neg (show ¬ nI 115 = nI 100 by decide), if_neg (show ¬ nI 115 = nI 101 by decide), if_neg (show ¬ nI 115 = nI 102 by decide), if_neg (show ¬ nI 115 = nI 103 by decide), if_neg (show ¬ nI 115 = nI 107 by decide), if_pos rfl]
  unfold rdS
  show _ = if hrx F ty (sp + 1) = nI 105 then _ else _
  have e := e0 _ rfl
  by_cases h1 : hrx F ty (sp + 1) = nI 105
  · rw [if_pos h1] at e ⊢
    rw [rdO_go 1 e.symm (by decide) 115 [105, 108, 108, 204] rfl (by decide) h, upd_upd]
    rfl
  · rw [if_neg h1] at e ⊢
    by_cases h2 : hrx F ty (sp + 1) = nI 104
    · rw [if_pos h2] at e ⊢
      rw [rdO_go 7 e.symm (by decide) 115 [104, 117, 116, 200] rfl (by decide) h, upd_upd]
      rfl
    · rw [if_neg h2] at e ⊢
      rw [rdO_go 3 e.symm (by decide) 115 [101, 116, 200, 64, 201] rfl (by decide) h, upd_upd]
      rfl
theorem kd_K {F : Nat → Nat} {ty sp k : Nat} {T : Nat → Int32} (h : hrx F ty sp = nI 107) : rdO F ty sp T k = rdK F ty (sp + 1, 0) (upd T k (nI 107)) k := by
  have e0 : ∀ j, kd F ty sp = j → (if hrx F ty (sp + 1) = nI 110 then 6 else 5) = j := by
    intro j hj
    rw [← hj]
    unfold kd
    rw [h, if_neg (show ¬ nI 107 = nI 100 by decide), if_neg (show ¬ nI 107 = nI 101 by decide), if_neg (show ¬ nI 107 = nI 102 by decide), if_neg (show ¬ nI 107 = nI 103 by decide), if_pos rfl]
  unfold rdK
  show _ = if hrx F ty (sp + 1) = nI 110 then _ else _
  have e := e0 _ rfl
  by_cases h1 : hrx F ty (sp + 1) = nI 110
  · rw [if_pos h1] at e ⊢
    rw [rdO_go 6 e.symm (by decide) 107 [110, 111, 99, 107, 200, 58, 202, 203, 204] rfl (by decide) h, upd_upd]
    rfl
  · rw [if_neg h1] at e ⊢
    rw [rdO_go 5 e.symm (by decide) 107 [101, 121, 200, 202] rfl (by decide) h, upd_upd]
    rfl

set_option maxHeartbeats 1000000 in
set_option maxRecDepth 100000 in
theorem c_X7_here (l : Launch) {D : va_G} {cI cC : ClassId} {h aG aB aH aS aI aL aT : Nat} {G B Hi Sv In Le : Nat → Nat} {To : Nat → Int32} {ch hs ty wy ln th sp iw : Nat} {ea ra wd : Int32} (hty : ty ≤ 60) (hsp : sp ≤ 60) : Met l yX7_here wsX7_here ({ frames := 0, cells := 0, slots := 0, locals := 0 }) (va_Pc [.ref h] (sPre D [(cI, .int), (cC, .char)] [] (fun H => va_P D vwCl [(h, .inr (9, [.ref aG, .ref aB, .ref aH, .int (nI ch), .ref aS, .int (nI hs), .ref aI, .int (nI ty), .int ea, .int ra, .int (nI wy), .int wd, .ref aL, .int (nI ln), .int (nI th), .int (nI sp), .int (nI iw), .ref aT])), (aG, .inl (cI, 128, .inl (gN G))), (aB, .inl (cI, 128, .inl (gN B))), (aH, .inl (cI, 1024, .inl (gN Hi))), (aS, .inl (cI, 128, .inl (gN Sv))), (aI, .inl (cI, 60, .inl (gN In))), (aL, .inl (cC, 40, .inl (gN Le))), (aT, .inl (cI, 360, .inl To))] H))) (sQ (hrx In ty sp)) 0 0 (fun _ => False) := by
  refine nv_met (cc := cX7_here) (maxL := 1) (ret := (some .int)) (by decide) rfl (Nat.le_of_ble_eq_true rfl) ?_
  intro p0 e0 s m0 args below meth c0 Q hq hargs hnA hpre ls hl
  obtain ⟨hx, hb, hr, hts, hown, hlocks, hml⟩ := hnA
  obtain ⟨hP, hK⟩ := hpre
  have hown : s.vm.findClass RX7 = some m0.cls := hown
  have hP : va_P D vwCl [(h, .inr (9, [.ref aG, .ref aB, .ref aH, .int (nI ch), .ref aS, .int (nI hs), .ref aI, .int (nI ty), .int ea, .int ra, .int (nI wy), .int wd, .ref aL, .int (nI ln), .int (nI th), .int (nI sp), .int (nI iw), .ref aT])), (aG, .inl (cI, 128, .inl (gN G))), (aB, .inl (cI, 128, .inl (gN B))), (aH, .inl (cI, 1024, .inl (gN Hi))), (aS, .inl (cI, 128, .inl (gN Sv))), (aI, .inl (cI, 60, .inl (gN In))), (aL, .inl (cC, 40, .inl (gN Le))), (aT, .inl (cI, 360, .inl To))] s.heap := hP
  have hl : lv_has ls 1 [(0, .ref h)] := hl
  have in_X7 : ∀ w ∈ wsX70, w ∈ wsX7_here := by decide +kernel
  have fl_22 := hts (.fieldLink RX7 22 "DoorDialectModel" "input" "[I") (by decide +kernel)
  have fl_192 := hts (.fieldLink RX7 192 "DoorDialectModel" "typed" "I") (by decide +kernel)
  have fl_198 := hts (.fieldLink RX7 198 "DoorDialectModel" "spot" "I") (by decide +kernel)
  refine lv_aload_n hx hb dX7_here_0 rfl (lv_at hl 0 rfl) ?_
  refine va_get (D := D) (ci := 9) (v := .int (nI sp)) (C := RX7) (T := TX7) (N := 18) hx hb hts in_X7 hown hK.1 hP 0 rfl rfl 15 (by decide) fl_198 (fun _ h9 => h9) rfl dX7_here_1 ?_
  refine lv_aload_n hx hb dX7_here_4 rfl (lv_at hl 0 rfl) ?_
  refine va_get (D := D) (ci := 9) (v := .int (nI ty)) (C := RX7) (T := TX7) (N := 18) hx hb hts in_X7 hown hK.1 hP 0 rfl rfl 7 (by decide) fl_192 (fun _ h9 => h9) rfl dX7_here_5 ?_
  refine nv_icmp_ge (tgt := 23) hx hb dX7_here_8 (by decide) (by omega) (by omega) (fun c1 => ?_) (fun c1 => ?_)
  · refine lv_iconst (v := (-1)) hx hb dX7_here_23 (by decide) ?_
    exact nv_retS hq hx hb hr hlocks (nar_i _) (hr_out c1) dX7_here_24
  · refine lv_aload_n hx hb dX7_here_11 rfl (lv_at hl 0 rfl) ?_
    refine va_get (D := D) (ci := 9) (v := .ref aI) (C := RX7) (T := TX7) (N := 18) hx hb hts in_X7 hown hK.1 hP 0 rfl rfl 6 (by decide) fl_22 (fun _ h9 => h9) rfl dX7_here_12 ?_
    refine lv_aload_n hx hb dX7_here_15 rfl (lv_at hl 0 rfl) ?_
    refine va_get (D := D) (ci := 9) (v := .int (nI sp)) (C := RX7) (T := TX7) (N := 18) hx hb hts in_X7 hown hK.1 hP 0 rfl rfl 15 (by decide) fl_198 (fun _ h9 => h9) rfl dX7_here_16 ?_
    refine nv_gald (i := sp) hx hb hK.1 hP 5 0 rfl rfl (by first | omega | (simp only [gEndAt]; omega)) (by decide) dX7_here_19 ?_
    refine lv_goto (tgt := 24) hx hb dX7_here_20 (by decide) ?_
    exact nv_retS hq hx hb hr hlocks (nar_i _) (hr_in c1) dX7_here_24

set_option maxHeartbeats 1000000 in
set_option maxRecDepth 100000 in
theorem c_X7_needs (l : Launch) {D : va_G} {cI cC : ClassId} {h aG aB aH aS aI aL aT : Nat} {G B Hi Sv In Le : Nat → Nat} {To : Nat → Int32} {ch hs ty wy ln th : Nat} {ea ra wd : Int32} {A : Nat → Prop} (hD : ∀ (G B Hi Sv In Le : Nat → Nat) (To : Nat → Int32) (fs : List Value), va_D A [(h, .inr (9, fs)), (aG, .inl (cI, 128, .inl (gN G))), (aB, .inl (cI, 128, .inl (gN B))), (aH, .inl (cI, 1024, .inl (gN Hi))), (aS, .inl (cI, 128, .inl (gN Sv))), (aI, .inl (cI, 60, .inl (gN In))), (aL, .inl (cC, 40, .inl (gN Le))), (aT, .inl (cI, 360, .inl To))]) (E : Nat × Nat) (hty : ty ≤ 60) (hE : eOk E) (x : Nat) (hw : x < 200) : Met l yX7_needs wsX7_needs ({ frames := 1, cells := 0, slots := 0, locals := 20 }) (va_Pc [.ref h, .int (nI x)] (sPre D [(cI, .int), (cC, .char)] [] (fun H => va_P D vwCl [(h, .inr (9, [.ref aG, .ref aB, .ref aH, .int (nI ch), .ref aS, .int (nI hs), .ref aI, .int (nI ty), .int ea, .int ra, .int (nI wy), .int wd, .ref aL, .int (nI ln), .int (nI th), .int (nI (E.1)), .int (nI (E.2)), .ref aT])), (aG, .inl (cI, 128, .inl (gN G))), (aB, .inl (cI, 128, .inl (gN B))), (aH, .inl (cI, 1024, .inl (gN Hi))), (aS, .inl (cI, 128, .inl (gN Sv))), (aI, .inl (cI, 60, .inl (gN In))), (aL, .inl (cC, 40, .inl (gN Le))), (aT, .inl (cI, 360, .inl To))] H))) (mQv D [(h, .inr (9, [.ref aG, .ref aB, .ref aH, .int (nI ch), .ref aS, .int (nI hs), .ref aI, .int (nI ty), .int ea, .int ra, .int (nI wy), .int wd, .ref aL, .int (nI ln), .int (nI th), .int (nI ((st1 In ty x E).1)), .int (nI ((st1 In ty x E).2)), .ref aT])), (aG, .inl (cI, 128, .inl (gN G))), (aB, .inl (cI, 128, .inl (gN B))), (aH, .inl (cI, 1024, .inl (gN Hi))), (aS, .inl (cI, 128, .inl (gN Sv))), (aI, .inl (cI, 60, .inl (gN In))), (aL, .inl (cC, 40, .inl (gN Le))), (aT, .inl (cI, 360, .inl To))] A) 0 0 A := by
  refine nv_met (cc := cX7_needs) (maxL := 2) (ret := none) (by decide) rfl (Nat.le_of_ble_eq_true rfl) ?_
  intro p0 e0 s m0 args below meth c0 Q hq hargs hnA hpre ls hl
  obtain ⟨hx, hb, hr, hts, hown, hlocks, hml⟩ := hnA
  obtain ⟨hP, hK⟩ := hpre
  have hown : s.vm.findClass RX7 = some m0.cls := hown
  have hP : va_P D vwCl [(h, .inr (9, [.ref aG, .ref aB, .ref aH, .int (nI ch), .ref aS, .int (nI hs), .ref aI, .int (nI ty), .int ea, .int ra, .int (nI wy), .int wd, .ref aL, .int (nI ln), .int (nI th), .int (nI (E.1)), .int (nI (E.2)), .ref aT])), (aG, .inl (cI, 128, .inl (gN G))), (aB, .inl (cI, 128, .inl (gN B))), (aH, .inl (cI, 1024, .inl (gN Hi))), (aS, .inl (cI, 128, .inl (gN Sv))), (aI, .inl (cI, 60, .inl (gN In))), (aL, .inl (cC, 40, .inl (gN Le))), (aT, .inl (cI, 360, .inl To))] s.heap := hP
  have hl : lv_has ls 2 [(0, .ref h), (1, .int (nI x))] := hl
  have hS : va_S A s.heap s.heap [] := va_S.rf
  have in_X7 : ∀ w ∈ wsX70, w ∈ wsX7_needs := by decide +kernel
  have fl_198 := hts (.fieldLink RX7 198 "DoorDialectModel" "spot" "I") (by decide +kernel)
  have fl_201 := hts (.fieldLink RX7 201 "DoorDialectModel" "isWrong" "Z") (by decide +kernel)
  obtain ⟨hE1, hE2⟩ := id hE
  refine lv_aload_n hx hb dX7_needs_0 rfl (lv_at hl 0 rfl) ?_
  refine lv_aload_n hx hb dX7_needs_1 rfl (lv_at hl 0 rfl) ?_
  refine va_get (D := D) (ci := 9) (v := .int (nI (E.2))) (C := RX7) (T := TX7) (N := 18) hx hb hts in_X7 hown hK.1 hP 0 rfl rfl 16 (by decide) fl_201 (fun _ h9 => h9) rfl dX7_needs_2 ?_
  refine nv_if_ne (tgt := 16) hx hb dX7_needs_5 (by decide) (by omega) (fun c1 => ?_) (fun c1 => ?_)
  · refine lv_iconst (v := nI 1) hx hb dX7_needs_16 (by decide) ?_
    refine lv_goto (tgt := 21) hx hb dX7_needs_17 (by decide) ?_
    refine va_put (D := D) (ci := 9) (v := .int (nI 1)) (ty := .boolean) (C := RX7) (T := TX7) (N := 18) hx hb hts in_X7 tyX7 tyX7_ok nmX7 hown hK.1 hP (hD _ _ _ _ _ _ _ _) hS 0 rfl rfl 16 (by decide) fl_201 (fun _ h9 => h9) rfl (by decide +kernel) (nar_z (by omega)) (fit_z (by omega)) (Nat.le_of_ble_eq_true rfl) dX7_needs_21 (fun H locs hP _ hS => ?_)
    have hP : va_P D vwCl [(h, .inr (9, [.ref aG, .ref aB, .ref aH, .int (nI ch), .ref aS, .int (nI hs), .ref aI, .int (nI ty), .int ea, .int ra, .int (nI wy), .int wd, .ref aL, .int (nI ln), .int (nI th), .int (nI (E.1)), .int (nI 1), .ref aT])), (aG, .inl (cI, 128, .inl (gN G))), (aB, .inl (cI, 128, .inl (gN B))), (aH, .inl (cI, 1024, .inl (gN Hi))), (aS, .inl (cI, 128, .inl (gN Sv))), (aI, .inl (cI, 60, .inl (gN In))), (aL, .inl (cC, 40, .inl (gN Le))), (aT, .inl (cI, 360, .inl To))] H := hP
    refine lv_aload_n hx hb dX7_needs_24 rfl (lv_at hl 0 rfl) ?_
    refine lv_dup hx hb dX7_needs_25 rfl ?_
    refine va_get (D := D) (ci := 9) (v := .int (nI (E.1))) (C := RX7) (T := TX7) (N := 18) hx hb hts in_X7 hown hK.1 hP 0 rfl rfl 15 (by decide) fl_198 (fun _ h9 => h9) rfl dX7_needs_26 ?_
    refine lv_aload_n hx hb dX7_needs_29 rfl (lv_at hl 0 rfl) ?_
    refine va_get (D := D) (ci := 9) (v := .int (nI 1)) (C := RX7) (T := TX7) (N := 18) hx hb hts in_X7 hown hK.1 hP 0 rfl rfl 16 (by decide) fl_201 (fun _ h9 => h9) rfl dX7_needs_30 ?_
    refine nv_if_eq (tgt := 40) hx hb dX7_needs_33 (by decide) (by omega) (fun c2 => ?_) (fun c2 => ?_)
    · exact absurd c2 (by decide)
    · refine lv_iconst (v := nI 0) hx hb dX7_needs_36 (by decide) ?_
      refine lv_goto (tgt := 41) hx hb dX7_needs_37 (by decide) ?_
      refine nv_iadd hx hb dX7_needs_41 ?_
      refine nv_to (E.1) rfl ?_
      refine va_put (D := D) (ci := 9) (v := .int (nI (E.1))) (ty := .int) (C := RX7) (T := TX7) (N := 18) hx hb hts in_X7 tyX7 tyX7_ok nmX7 hown hK.1 hP (hD _ _ _ _ _ _ _ _) hS 0 rfl rfl 15 (by decide) fl_198 (fun _ h9 => h9) rfl (by decide +kernel) rfl rfl (Nat.le_of_ble_eq_true rfl) dX7_needs_42 (fun H locs hP _ hS => ?_)
      have hP : va_P D vwCl [(h, .inr (9, [.ref aG, .ref aB, .ref aH, .int (nI ch), .ref aS, .int (nI hs), .ref aI, .int (nI ty), .int ea, .int ra, .int (nI wy), .int wd, .ref aL, .int (nI ln), .int (nI th), .int (nI (E.1)), .int (nI 1), .ref aT])), (aG, .inl (cI, 128, .inl (gN G))), (aB, .inl (cI, 128, .inl (gN B))), (aH, .inl (cI, 1024, .inl (gN Hi))), (aS, .inl (cI, 128, .inl (gN Sv))), (aI, .inl (cI, 60, .inl (gN In))), (aL, .inl (cC, 40, .inl (gN Le))), (aT, .inl (cI, 360, .inl To))] H := hP
      exact nv_retMv hq hx hb hr hlocks hS hP (by rw [st1_no c1]) dX7_needs_45
  · refine lv_aload_n hx hb dX7_needs_8 rfl (lv_at hl 0 rfl) ?_
    refine nv_kS (va_runV (As := []) (rest := [.ref h]) ⟨hx, hb, hml, hown, hts⟩ (c_X7_here l hty (hE.1)) (cwV 0 hts gX7_needs_X7_here rfl rfl rfl (by decide +kernel) ⟨Nat.le_of_ble_eq_true rfl, Nat.le_of_ble_eq_true rfl⟩) (nv_pV hK hP (va_recv hK.1 hP (ci := 9) (q0 := 0) rfl rfl)) rfl rfl hl.1 rfl (lv_room (Nat.le_of_ble_eq_true rfl)) dX7_needs_9 ⟨Nat.zero_le _, Nat.zero_le _⟩) ?_
    refine lv_iload_n hx hb dX7_needs_12 rfl (lv_at hl 1 rfl) ?_
    refine lv_icmp_eq (tgt := 20) hx hb dX7_needs_13 (by decide) (fun c3 => ?_) (fun c3 => ?_)
    · refine lv_iconst (v := nI 0) hx hb dX7_needs_20 (by decide) ?_
      refine va_put (D := D) (ci := 9) (v := .int (nI 0)) (ty := .boolean) (C := RX7) (T := TX7) (N := 18) hx hb hts in_X7 tyX7 tyX7_ok nmX7 hown hK.1 hP (hD _ _ _ _ _ _ _ _) hS 0 rfl rfl 16 (by decide) fl_201 (fun _ h9 => h9) rfl (by decide +kernel) (nar_z (by omega)) (fit_z (by omega)) (Nat.le_of_ble_eq_true rfl) dX7_needs_21 (fun H locs hP _ hS => ?_)
      have hP : va_P D vwCl [(h, .inr (9, [.ref aG, .ref aB, .ref aH, .int (nI ch), .ref aS, .int (nI hs), .ref aI, .int (nI ty), .int ea, .int ra, .int (nI wy), .int wd, .ref aL, .int (nI ln), .int (nI th), .int (nI (E.1)), .int (nI 0), .ref aT])), (aG, .inl (cI, 128, .inl (gN G))), (aB, .inl (cI, 128, .inl (gN B))), (aH, .inl (cI, 1024, .inl (gN Hi))), (aS, .inl (cI, 128, .inl (gN Sv))), (aI, .inl (cI, 60, .inl (gN In))), (aL, .inl (cC, 40, .inl (gN Le))), (aT, .inl (cI, 360, .inl To))] H := hP
      refine lv_aload_n hx hb dX7_needs_24 rfl (lv_at hl 0 rfl) ?_
      refine lv_dup hx hb dX7_needs_25 rfl ?_
      refine va_get (D := D) (ci := 9) (v := .int (nI (E.1))) (C := RX7) (T := TX7) (N := 18) hx hb hts in_X7 hown hK.1 hP 0 rfl rfl 15 (by decide) fl_198 (fun _ h9 => h9) rfl dX7_needs_26 ?_
      refine lv_aload_n hx hb dX7_needs_29 rfl (lv_at hl 0 rfl) ?_
      refine va_get (D := D) (ci := 9) (v := .int (nI 0)) (C := RX7) (T := TX7) (N := 18) hx hb hts in_X7 hown hK.1 hP 0 rfl rfl 16 (by decide) fl_201 (fun _ h9 => h9) rfl dX7_needs_30 ?_
      refine nv_if_eq (tgt := 40) hx hb dX7_needs_33 (by decide) (by omega) (fun c4 => ?_) (fun c4 => ?_)
      · refine lv_iconst (v := nI 1) hx hb dX7_needs_40 (by decide) ?_
        refine nv_iadd hx hb dX7_needs_41 ?_
        refine va_put (D := D) (ci := 9) (v := .int (nI (E.1 + 1))) (ty := .int) (C := RX7) (T := TX7) (N := 18) hx hb hts in_X7 tyX7 tyX7_ok nmX7 hown hK.1 hP (hD _ _ _ _ _ _ _ _) hS 0 rfl rfl 15 (by decide) fl_198 (fun _ h9 => h9) rfl (by decide +kernel) rfl rfl (Nat.le_of_ble_eq_true rfl) dX7_needs_42 (fun H locs hP _ hS => ?_)
        have hP : va_P D vwCl [(h, .inr (9, [.ref aG, .ref aB, .ref aH, .int (nI ch), .ref aS, .int (nI hs), .ref aI, .int (nI ty), .int ea, .int ra, .int (nI wy), .int wd, .ref aL, .int (nI ln), .int (nI th), .int (nI (E.1 + 1)), .int (nI 0), .ref aT])), (aG, .inl (cI, 128, .inl (gN G))), (aB, .inl (cI, 128, .inl (gN B))), (aH, .inl (cI, 1024, .inl (gN Hi))), (aS, .inl (cI, 128, .inl (gN Sv))), (aI, .inl (cI, 60, .inl (gN In))), (aL, .inl (cC, 40, .inl (gN Le))), (aT, .inl (cI, 360, .inl To))] H := hP
        exact nv_retMv hq hx hb hr hlocks hS hP (by rw [st1_ok c1 (Or.inl ⟨hw, c3⟩)]) dX7_needs_45
      · exact absurd c4 (by decide)
    · refine lv_iconst (v := nI 1) hx hb dX7_needs_16 (by decide) ?_
      refine lv_goto (tgt := 21) hx hb dX7_needs_17 (by decide) ?_
      refine va_put (D := D) (ci := 9) (v := .int (nI 1)) (ty := .boolean) (C := RX7) (T := TX7) (N := 18) hx hb hts in_X7 tyX7 tyX7_ok nmX7 hown hK.1 hP (hD _ _ _ _ _ _ _ _) hS 0 rfl rfl 16 (by decide) fl_201 (fun _ h9 => h9) rfl (by decide +kernel) (nar_z (by omega)) (fit_z (by omega)) (Nat.le_of_ble_eq_true rfl) dX7_needs_21 (fun H locs hP _ hS => ?_)
      have hP : va_P D vwCl [(h, .inr (9, [.ref aG, .ref aB, .ref aH, .int (nI ch), .ref aS, .int (nI hs), .ref aI, .int (nI ty), .int ea, .int ra, .int (nI wy), .int wd, .ref aL, .int (nI ln), .int (nI th), .int (nI (E.1)), .int (nI 1), .ref aT])), (aG, .inl (cI, 128, .inl (gN G))), (aB, .inl (cI, 128, .inl (gN B))), (aH, .inl (cI, 1024, .inl (gN Hi))), (aS, .inl (cI, 128, .inl (gN Sv))), (aI, .inl (cI, 60, .inl (gN In))), (aL, .inl (cC, 40, .inl (gN Le))), (aT, .inl (cI, 360, .inl To))] H := hP
      refine lv_aload_n hx hb dX7_needs_24 rfl (lv_at hl 0 rfl) ?_
      refine lv_dup hx hb dX7_needs_25 rfl ?_
      refine va_get (D := D) (ci := 9) (v := .int (nI (E.1))) (C := RX7) (T := TX7) (N := 18) hx hb hts in_X7 hown hK.1 hP 0 rfl rfl 15 (by decide) fl_198 (fun _ h9 => h9) rfl dX7_needs_26 ?_
      refine lv_aload_n hx hb dX7_needs_29 rfl (lv_at hl 0 rfl) ?_
      refine va_get (D := D) (ci := 9) (v := .int (nI 1)) (C := RX7) (T := TX7) (N := 18) hx hb hts in_X7 hown hK.1 hP 0 rfl rfl 16 (by decide) fl_201 (fun _ h9 => h9) rfl dX7_needs_30 ?_
      refine nv_if_eq (tgt := 40) hx hb dX7_needs_33 (by decide) (by omega) (fun c5 => ?_) (fun c5 => ?_)
      · exact absurd c5 (by decide)
      · refine lv_iconst (v := nI 0) hx hb dX7_needs_36 (by decide) ?_
        refine lv_goto (tgt := 41) hx hb dX7_needs_37 (by decide) ?_
        refine nv_iadd hx hb dX7_needs_41 ?_
        refine nv_to (E.1) rfl ?_
        refine va_put (D := D) (ci := 9) (v := .int (nI (E.1))) (ty := .int) (C := RX7) (T := TX7) (N := 18) hx hb hts in_X7 tyX7 tyX7_ok nmX7 hown hK.1 hP (hD _ _ _ _ _ _ _ _) hS 0 rfl rfl 15 (by decide) fl_198 (fun _ h9 => h9) rfl (by decide +kernel) rfl rfl (Nat.le_of_ble_eq_true rfl) dX7_needs_42 (fun H locs hP _ hS => ?_)
        have hP : va_P D vwCl [(h, .inr (9, [.ref aG, .ref aB, .ref aH, .int (nI ch), .ref aS, .int (nI hs), .ref aI, .int (nI ty), .int ea, .int ra, .int (nI wy), .int wd, .ref aL, .int (nI ln), .int (nI th), .int (nI (E.1)), .int (nI 1), .ref aT])), (aG, .inl (cI, 128, .inl (gN G))), (aB, .inl (cI, 128, .inl (gN B))), (aH, .inl (cI, 1024, .inl (gN Hi))), (aS, .inl (cI, 128, .inl (gN Sv))), (aI, .inl (cI, 60, .inl (gN In))), (aL, .inl (cC, 40, .inl (gN Le))), (aT, .inl (cI, 360, .inl To))] H := hP
        exact nv_retMv hq hx hb hr hlocks hS hP (by rw [st1_bad (fun q => c3 ((okI_lit hw).mp q))]) dX7_needs_45

set_option maxHeartbeats 1000000 in
set_option maxRecDepth 100000 in
theorem c_X7_needsThree (l : Launch) {D : va_G} {cI cC : ClassId} {h aG aB aH aS aI aL aT : Nat} {G B Hi Sv In Le : Nat → Nat} {To : Nat → Int32} {ch hs ty wy ln th : Nat} {ea ra wd : Int32} {A : Nat → Prop} (hD : ∀ (G B Hi Sv In Le : Nat → Nat) (To : Nat → Int32) (fs : List Value), va_D A [(h, .inr (9, fs)), (aG, .inl (cI, 128, .inl (gN G))), (aB, .inl (cI, 128, .inl (gN B))), (aH, .inl (cI, 1024, .inl (gN Hi))), (aS, .inl (cI, 128, .inl (gN Sv))), (aI, .inl (cI, 60, .inl (gN In))), (aL, .inl (cC, 40, .inl (gN Le))), (aT, .inl (cI, 360, .inl To))]) (E : Nat × Nat) (hty : ty ≤ 60) (hE : eOk E) (x y z : Nat) (hw : x < 200) (hw2 : y < 200) (hw3 : z < 200) : Met l yX7_needsThree wsX7_needsThree ({ frames := 2, cells := 0, slots := 0, locals := 41 }) (va_Pc [.ref h, .int (nI x), .int (nI y), .int (nI z)] (sPre D [(cI, .int), (cC, .char)] [] (fun H => va_P D vwCl [(h, .inr (9, [.ref aG, .ref aB, .ref aH, .int (nI ch), .ref aS, .int (nI hs), .ref aI, .int (nI ty), .int ea, .int ra, .int (nI wy), .int wd, .ref aL, .int (nI ln), .int (nI th), .int (nI (E.1)), .int (nI (E.2)), .ref aT])), (aG, .inl (cI, 128, .inl (gN G))), (aB, .inl (cI, 128, .inl (gN B))), (aH, .inl (cI, 1024, .inl (gN Hi))), (aS, .inl (cI, 128, .inl (gN Sv))), (aI, .inl (cI, 60, .inl (gN In))), (aL, .inl (cC, 40, .inl (gN Le))), (aT, .inl (cI, 360, .inl To))] H))) (mQv D [(h, .inr (9, [.ref aG, .ref aB, .ref aH, .int (nI ch), .ref aS, .int (nI hs), .ref aI, .int (nI ty), .int ea, .int ra, .int (nI wy), .int wd, .ref aL, .int (nI ln), .int (nI th), .int (nI ((st1 In ty z (st1 In ty y (st1 In ty x E))).1)), .int (nI ((st1 In ty z (st1 In ty y (st1 In ty x E))).2)), .ref aT])), (aG, .inl (cI, 128, .inl (gN G))), (aB, .inl (cI, 128, .inl (gN B))), (aH, .inl (cI, 1024, .inl (gN Hi))), (aS, .inl (cI, 128, .inl (gN Sv))), (aI, .inl (cI, 60, .inl (gN In))), (aL, .inl (cC, 40, .inl (gN Le))), (aT, .inl (cI, 360, .inl To))] A) 0 0 A := by
  refine nv_met (cc := cX7_needsThree) (maxL := 4) (ret := none) (by decide) rfl (Nat.le_of_ble_eq_true rfl) ?_
  intro p0 e0 s m0 args below meth c0 Q hq hargs hnA hpre ls hl
  obtain ⟨hx, hb, hr, hts, hown, hlocks, hml⟩ := hnA
  obtain ⟨hP, hK⟩ := hpre
  have hown : s.vm.findClass RX7 = some m0.cls := hown
  have hP : va_P D vwCl [(h, .inr (9, [.ref aG, .ref aB, .ref aH, .int (nI ch), .ref aS, .int (nI hs), .ref aI, .int (nI ty), .int ea, .int ra, .int (nI wy), .int wd, .ref aL, .int (nI ln), .int (nI th), .int (nI (E.1)), .int (nI (E.2)), .ref aT])), (aG, .inl (cI, 128, .inl (gN G))), (aB, .inl (cI, 128, .inl (gN B))), (aH, .inl (cI, 1024, .inl (gN Hi))), (aS, .inl (cI, 128, .inl (gN Sv))), (aI, .inl (cI, 60, .inl (gN In))), (aL, .inl (cC, 40, .inl (gN Le))), (aT, .inl (cI, 360, .inl To))] s.heap := hP
  have hl : lv_has ls 4 [(0, .ref h), (1, .int (nI x)), (2, .int (nI y)), (3, .int (nI z))] := hl
  have hS : va_S A s.heap s.heap [] := va_S.rf
  obtain ⟨hE1, hE2⟩ := id hE
  refine lv_aload_n hx hb dX7_needsThree_0 rfl (lv_at hl 0 rfl) ?_
  refine lv_iload_n hx hb dX7_needsThree_1 rfl (lv_at hl 1 rfl) ?_
  refine nv_kMv (va_runV (As := [.int (nI x)]) (rest := []) ⟨hx, hb, hml, hown, hts⟩ (c_X7_needs l hD E hty hE x (by first | decide | omega)) (cwV 1 hts gX7_needsThree_X7_needs rfl rfl rfl (by decide +kernel) ⟨Nat.le_of_ble_eq_true rfl, Nat.le_of_ble_eq_true rfl⟩) (nv_pV hK hP (va_recv hK.1 hP (ci := 9) (q0 := 0) rfl rfl)) rfl rfl hl.1 rfl (lv_room (Nat.le_of_ble_eq_true rfl)) dX7_needsThree_2 ⟨Nat.zero_le _, Nat.zero_le _⟩) hS (fun H locs hP hS => ?_)
  have hP : va_P D vwCl [(h, .inr (9, [.ref aG, .ref aB, .ref aH, .int (nI ch), .ref aS, .int (nI hs), .ref aI, .int (nI ty), .int ea, .int ra, .int (nI wy), .int wd, .ref aL, .int (nI ln), .int (nI th), .int (nI ((st1 In ty x E).1)), .int (nI ((st1 In ty x E).2)), .ref aT])), (aG, .inl (cI, 128, .inl (gN G))), (aB, .inl (cI, 128, .inl (gN B))), (aH, .inl (cI, 1024, .inl (gN Hi))), (aS, .inl (cI, 128, .inl (gN Sv))), (aI, .inl (cI, 60, .inl (gN In))), (aL, .inl (cC, 40, .inl (gN Le))), (aT, .inl (cI, 360, .inl To))] H := hP
  refine lv_aload_n hx hb dX7_needsThree_5 rfl (lv_at hl 0 rfl) ?_
  refine lv_iload_n hx hb dX7_needsThree_6 rfl (lv_at hl 2 rfl) ?_
  refine nv_kMv (va_runV (As := [.int (nI y)]) (rest := []) ⟨hx, hb, hml, hown, hts⟩ (c_X7_needs l hD (st1 In ty x E) hty (st1_e hty hE) y (by first | decide | omega)) (cwV 1 hts gX7_needsThree_X7_needs rfl rfl rfl (by decide +kernel) ⟨Nat.le_of_ble_eq_true rfl, Nat.le_of_ble_eq_true rfl⟩) (nv_pV hK hP (va_recv hK.1 hP (ci := 9) (q0 := 0) rfl rfl)) rfl rfl hl.1 rfl (lv_room (Nat.le_of_ble_eq_true rfl)) dX7_needsThree_7 ⟨Nat.zero_le _, Nat.zero_le _⟩) hS (fun H locs hP hS => ?_)
  have hP : va_P D vwCl [(h, .inr (9, [.ref aG, .ref aB, .ref aH, .int (nI ch), .ref aS, .int (nI hs), .ref aI, .int (nI ty), .int ea, .int ra, .int (nI wy), .int wd, .ref aL, .int (nI ln), .int (nI th), .int (nI ((st1 In ty y (st1 In ty x E)).1)), .int (nI ((st1 In ty y (st1 In ty x E)).2)), .ref aT])), (aG, .inl (cI, 128, .inl (gN G))), (aB, .inl (cI, 128, .inl (gN B))), (aH, .inl (cI, 1024, .inl (gN Hi))), (aS, .inl (cI, 128, .inl (gN Sv))), (aI, .inl (cI, 60, .inl (gN In))), (aL, .inl (cC, 40, .inl (gN Le))), (aT, .inl (cI, 360, .inl To))] H := hP
  refine lv_aload_n hx hb dX7_needsThree_10 rfl (lv_at hl 0 rfl) ?_
  refine lv_iload_n hx hb dX7_needsThree_11 rfl (lv_at hl 3 rfl) ?_
  refine nv_kMv (va_runV (As := [.int (nI z)]) (rest := []) ⟨hx, hb, hml, hown, hts⟩ (c_X7_needs l hD (st1 In ty y (st1 In ty x E)) hty (st1_e hty (st1_e hty hE)) z (by first | decide | omega)) (cwV 1 hts gX7_needsThree_X7_needs rfl rfl rfl (by decide +kernel) ⟨Nat.le_of_ble_eq_true rfl, Nat.le_of_ble_eq_true rfl⟩) (nv_pV hK hP (va_recv hK.1 hP (ci := 9) (q0 := 0) rfl rfl)) rfl rfl hl.1 rfl (lv_room (Nat.le_of_ble_eq_true rfl)) dX7_needsThree_12 ⟨Nat.zero_le _, Nat.zero_le _⟩) hS (fun H locs hP hS => ?_)
  have hP : va_P D vwCl [(h, .inr (9, [.ref aG, .ref aB, .ref aH, .int (nI ch), .ref aS, .int (nI hs), .ref aI, .int (nI ty), .int ea, .int ra, .int (nI wy), .int wd, .ref aL, .int (nI ln), .int (nI th), .int (nI ((st1 In ty z (st1 In ty y (st1 In ty x E))).1)), .int (nI ((st1 In ty z (st1 In ty y (st1 In ty x E))).2)), .ref aT])), (aG, .inl (cI, 128, .inl (gN G))), (aB, .inl (cI, 128, .inl (gN B))), (aH, .inl (cI, 1024, .inl (gN Hi))), (aS, .inl (cI, 128, .inl (gN Sv))), (aI, .inl (cI, 60, .inl (gN In))), (aL, .inl (cC, 40, .inl (gN Le))), (aT, .inl (cI, 360, .inl To))] H := hP
  exact nv_retMv hq hx hb hr hlocks hS hP (rfl) dX7_needsThree_15

set_option maxHeartbeats 1000000 in
set_option maxRecDepth 100000 in
theorem c_X7_takes (l : Launch) {D : va_G} {cI cC : ClassId} {h aG aB aH aS aI aL aT : Nat} {G B Hi Sv In Le : Nat → Nat} {To : Nat → Int32} {ch hs ty wy ln th : Nat} {ea ra wd : Int32} {A : Nat → Prop} (hD : ∀ (G B Hi Sv In Le : Nat → Nat) (To : Nat → Int32) (fs : List Value), va_D A [(h, .inr (9, fs)), (aG, .inl (cI, 128, .inl (gN G))), (aB, .inl (cI, 128, .inl (gN B))), (aH, .inl (cI, 1024, .inl (gN Hi))), (aS, .inl (cI, 128, .inl (gN Sv))), (aI, .inl (cI, 60, .inl (gN In))), (aL, .inl (cC, 40, .inl (gN Le))), (aT, .inl (cI, 360, .inl To))]) (E : Nat × Nat) (hty : ty ≤ 60) (hE : eOk E) (v : Int32) : Met l yX7_takes wsX7_takes ({ frames := 0, cells := 0, slots := 0, locals := 0 }) (va_Pc [.ref h, .int v] (sPre D [(cI, .int), (cC, .char)] [] (fun H => va_P D vwCl [(h, .inr (9, [.ref aG, .ref aB, .ref aH, .int (nI ch), .ref aS, .int (nI hs), .ref aI, .int (nI ty), .int ea, .int ra, .int (nI wy), .int wd, .ref aL, .int (nI ln), .int (nI th), .int (nI (E.1)), .int (nI (E.2)), .ref aT])), (aG, .inl (cI, 128, .inl (gN G))), (aB, .inl (cI, 128, .inl (gN B))), (aH, .inl (cI, 1024, .inl (gN Hi))), (aS, .inl (cI, 128, .inl (gN Sv))), (aI, .inl (cI, 60, .inl (gN In))), (aL, .inl (cC, 40, .inl (gN Le))), (aT, .inl (cI, 360, .inl To))] H))) (mQ D (v) [(h, .inr (9, [.ref aG, .ref aB, .ref aH, .int (nI ch), .ref aS, .int (nI hs), .ref aI, .int (nI ty), .int ea, .int ra, .int (nI wy), .int wd, .ref aL, .int (nI ln), .int (nI th), .int (nI ((tk v E).1)), .int (nI ((tk v E).2)), .ref aT])), (aG, .inl (cI, 128, .inl (gN G))), (aB, .inl (cI, 128, .inl (gN B))), (aH, .inl (cI, 1024, .inl (gN Hi))), (aS, .inl (cI, 128, .inl (gN Sv))), (aI, .inl (cI, 60, .inl (gN In))), (aL, .inl (cC, 40, .inl (gN Le))), (aT, .inl (cI, 360, .inl To))] A) 0 0 A := by
  refine nv_met (cc := cX7_takes) (maxL := 2) (ret := (some .int)) (by decide) rfl (Nat.le_of_ble_eq_true rfl) ?_
  intro p0 e0 s m0 args below meth c0 Q hq hargs hnA hpre ls hl
  obtain ⟨hx, hb, hr, hts, hown, hlocks, hml⟩ := hnA
  obtain ⟨hP, hK⟩ := hpre
  have hown : s.vm.findClass RX7 = some m0.cls := hown
  have hP : va_P D vwCl [(h, .inr (9, [.ref aG, .ref aB, .ref aH, .int (nI ch), .ref aS, .int (nI hs), .ref aI, .int (nI ty), .int ea, .int ra, .int (nI wy), .int wd, .ref aL, .int (nI ln), .int (nI th), .int (nI (E.1)), .int (nI (E.2)), .ref aT])), (aG, .inl (cI, 128, .inl (gN G))), (aB, .inl (cI, 128, .inl (gN B))), (aH, .inl (cI, 1024, .inl (gN Hi))), (aS, .inl (cI, 128, .inl (gN Sv))), (aI, .inl (cI, 60, .inl (gN In))), (aL, .inl (cC, 40, .inl (gN Le))), (aT, .inl (cI, 360, .inl To))] s.heap := hP
  have hl : lv_has ls 2 [(0, .ref h), (1, .int v)] := hl
  have hS : va_S A s.heap s.heap [] := va_S.rf
  have in_X7 : ∀ w ∈ wsX70, w ∈ wsX7_takes := by decide +kernel
  have fl_198 := hts (.fieldLink RX7 198 "DoorDialectModel" "spot" "I") (by decide +kernel)
  have fl_201 := hts (.fieldLink RX7 201 "DoorDialectModel" "isWrong" "Z") (by decide +kernel)
  obtain ⟨hE1, hE2⟩ := id hE
  refine lv_aload_n hx hb dX7_takes_0 rfl (lv_at hl 0 rfl) ?_
  refine lv_aload_n hx hb dX7_takes_1 rfl (lv_at hl 0 rfl) ?_
  refine va_get (D := D) (ci := 9) (v := .int (nI (E.2))) (C := RX7) (T := TX7) (N := 18) hx hb hts in_X7 hown hK.1 hP 0 rfl rfl 16 (by decide) fl_201 (fun _ h9 => h9) rfl dX7_takes_2 ?_
  refine nv_if_ne (tgt := 13) hx hb dX7_takes_5 (by decide) (by omega) (fun c1 => ?_) (fun c1 => ?_)
  · refine lv_iconst (v := nI 1) hx hb dX7_takes_13 (by decide) ?_
    refine lv_goto (tgt := 18) hx hb dX7_takes_14 (by decide) ?_
    refine va_put (D := D) (ci := 9) (v := .int (nI 1)) (ty := .boolean) (C := RX7) (T := TX7) (N := 18) hx hb hts in_X7 tyX7 tyX7_ok nmX7 hown hK.1 hP (hD _ _ _ _ _ _ _ _) hS 0 rfl rfl 16 (by decide) fl_201 (fun _ h9 => h9) rfl (by decide +kernel) (nar_z (by omega)) (fit_z (by omega)) (Nat.le_of_ble_eq_true rfl) dX7_takes_18 (fun H locs hP _ hS => ?_)
    have hP : va_P D vwCl [(h, .inr (9, [.ref aG, .ref aB, .ref aH, .int (nI ch), .ref aS, .int (nI hs), .ref aI, .int (nI ty), .int ea, .int ra, .int (nI wy), .int wd, .ref aL, .int (nI ln), .int (nI th), .int (nI (E.1)), .int (nI 1), .ref aT])), (aG, .inl (cI, 128, .inl (gN G))), (aB, .inl (cI, 128, .inl (gN B))), (aH, .inl (cI, 1024, .inl (gN Hi))), (aS, .inl (cI, 128, .inl (gN Sv))), (aI, .inl (cI, 60, .inl (gN In))), (aL, .inl (cC, 40, .inl (gN Le))), (aT, .inl (cI, 360, .inl To))] H := hP
    refine lv_aload_n hx hb dX7_takes_21 rfl (lv_at hl 0 rfl) ?_
    refine lv_dup hx hb dX7_takes_22 rfl ?_
    refine va_get (D := D) (ci := 9) (v := .int (nI (E.1))) (C := RX7) (T := TX7) (N := 18) hx hb hts in_X7 hown hK.1 hP 0 rfl rfl 15 (by decide) fl_198 (fun _ h9 => h9) rfl dX7_takes_23 ?_
    refine lv_aload_n hx hb dX7_takes_26 rfl (lv_at hl 0 rfl) ?_
    refine va_get (D := D) (ci := 9) (v := .int (nI 1)) (C := RX7) (T := TX7) (N := 18) hx hb hts in_X7 hown hK.1 hP 0 rfl rfl 16 (by decide) fl_201 (fun _ h9 => h9) rfl dX7_takes_27 ?_
    refine nv_if_eq (tgt := 37) hx hb dX7_takes_30 (by decide) (by omega) (fun c2 => ?_) (fun c2 => ?_)
    · exact absurd c2 (by decide)
    · refine lv_iconst (v := nI 0) hx hb dX7_takes_33 (by decide) ?_
      refine lv_goto (tgt := 38) hx hb dX7_takes_34 (by decide) ?_
      refine nv_iadd hx hb dX7_takes_38 ?_
      refine nv_to (E.1) rfl ?_
      refine va_put (D := D) (ci := 9) (v := .int (nI (E.1))) (ty := .int) (C := RX7) (T := TX7) (N := 18) hx hb hts in_X7 tyX7 tyX7_ok nmX7 hown hK.1 hP (hD _ _ _ _ _ _ _ _) hS 0 rfl rfl 15 (by decide) fl_198 (fun _ h9 => h9) rfl (by decide +kernel) rfl rfl (Nat.le_of_ble_eq_true rfl) dX7_takes_39 (fun H locs hP _ hS => ?_)
      have hP : va_P D vwCl [(h, .inr (9, [.ref aG, .ref aB, .ref aH, .int (nI ch), .ref aS, .int (nI hs), .ref aI, .int (nI ty), .int ea, .int ra, .int (nI wy), .int wd, .ref aL, .int (nI ln), .int (nI th), .int (nI (E.1)), .int (nI 1), .ref aT])), (aG, .inl (cI, 128, .inl (gN G))), (aB, .inl (cI, 128, .inl (gN B))), (aH, .inl (cI, 1024, .inl (gN Hi))), (aS, .inl (cI, 128, .inl (gN Sv))), (aI, .inl (cI, 60, .inl (gN In))), (aL, .inl (cC, 40, .inl (gN Le))), (aT, .inl (cI, 360, .inl To))] H := hP
      refine lv_iload_n hx hb dX7_takes_42 rfl (lv_at hl 1 rfl) ?_
      exact nv_retM hq hx hb hr hlocks (nar_i _) (rfl) hS hP (by rw [tk_no c1]) dX7_takes_43
  · refine lv_iload_n hx hb dX7_takes_8 rfl (lv_at hl 1 rfl) ?_
    refine lv_iconst (v := (-1)) hx hb dX7_takes_9 (by decide) ?_
    refine lv_icmp_ne (tgt := 17) hx hb dX7_takes_10 (by decide) (fun c3 => ?_) (fun c3 => ?_)
    · refine lv_iconst (v := nI 0) hx hb dX7_takes_17 (by decide) ?_
      refine va_put (D := D) (ci := 9) (v := .int (nI 0)) (ty := .boolean) (C := RX7) (T := TX7) (N := 18) hx hb hts in_X7 tyX7 tyX7_ok nmX7 hown hK.1 hP (hD _ _ _ _ _ _ _ _) hS 0 rfl rfl 16 (by decide) fl_201 (fun _ h9 => h9) rfl (by decide +kernel) (nar_z (by omega)) (fit_z (by omega)) (Nat.le_of_ble_eq_true rfl) dX7_takes_18 (fun H locs hP _ hS => ?_)
      have hP : va_P D vwCl [(h, .inr (9, [.ref aG, .ref aB, .ref aH, .int (nI ch), .ref aS, .int (nI hs), .ref aI, .int (nI ty), .int ea, .int ra, .int (nI wy), .int wd, .ref aL, .int (nI ln), .int (nI th), .int (nI (E.1)), .int (nI 0), .ref aT])), (aG, .inl (cI, 128, .inl (gN G))), (aB, .inl (cI, 128, .inl (gN B))), (aH, .inl (cI, 1024, .inl (gN Hi))), (aS, .inl (cI, 128, .inl (gN Sv))), (aI, .inl (cI, 60, .inl (gN In))), (aL, .inl (cC, 40, .inl (gN Le))), (aT, .inl (cI, 360, .inl To))] H := hP
      refine lv_aload_n hx hb dX7_takes_21 rfl (lv_at hl 0 rfl) ?_
      refine lv_dup hx hb dX7_takes_22 rfl ?_
      refine va_get (D := D) (ci := 9) (v := .int (nI (E.1))) (C := RX7) (T := TX7) (N := 18) hx hb hts in_X7 hown hK.1 hP 0 rfl rfl 15 (by decide) fl_198 (fun _ h9 => h9) rfl dX7_takes_23 ?_
      refine lv_aload_n hx hb dX7_takes_26 rfl (lv_at hl 0 rfl) ?_
      refine va_get (D := D) (ci := 9) (v := .int (nI 0)) (C := RX7) (T := TX7) (N := 18) hx hb hts in_X7 hown hK.1 hP 0 rfl rfl 16 (by decide) fl_201 (fun _ h9 => h9) rfl dX7_takes_27 ?_
      refine nv_if_eq (tgt := 37) hx hb dX7_takes_30 (by decide) (by omega) (fun c4 => ?_) (fun c4 => ?_)
      · refine lv_iconst (v := nI 1) hx hb dX7_takes_37 (by decide) ?_
        refine nv_iadd hx hb dX7_takes_38 ?_
        refine va_put (D := D) (ci := 9) (v := .int (nI (E.1 + 1))) (ty := .int) (C := RX7) (T := TX7) (N := 18) hx hb hts in_X7 tyX7 tyX7_ok nmX7 hown hK.1 hP (hD _ _ _ _ _ _ _ _) hS 0 rfl rfl 15 (by decide) fl_198 (fun _ h9 => h9) rfl (by decide +kernel) rfl rfl (Nat.le_of_ble_eq_true rfl) dX7_takes_39 (fun H locs hP _ hS => ?_)
        have hP : va_P D vwCl [(h, .inr (9, [.ref aG, .ref aB, .ref aH, .int (nI ch), .ref aS, .int (nI hs), .ref aI, .int (nI ty), .int ea, .int ra, .int (nI wy), .int wd, .ref aL, .int (nI ln), .int (nI th), .int (nI (E.1 + 1)), .int (nI 0), .ref aT])), (aG, .inl (cI, 128, .inl (gN G))), (aB, .inl (cI, 128, .inl (gN B))), (aH, .inl (cI, 1024, .inl (gN Hi))), (aS, .inl (cI, 128, .inl (gN Sv))), (aI, .inl (cI, 60, .inl (gN In))), (aL, .inl (cC, 40, .inl (gN Le))), (aT, .inl (cI, 360, .inl To))] H := hP
        refine lv_iload_n hx hb dX7_takes_42 rfl (lv_at hl 1 rfl) ?_
        exact nv_retM hq hx hb hr hlocks (nar_i _) (rfl) hS hP (by rw [tk_ok c1 c3]) dX7_takes_43
      · exact absurd c4 (by decide)
    · refine lv_iconst (v := nI 1) hx hb dX7_takes_13 (by decide) ?_
      refine lv_goto (tgt := 18) hx hb dX7_takes_14 (by decide) ?_
      refine va_put (D := D) (ci := 9) (v := .int (nI 1)) (ty := .boolean) (C := RX7) (T := TX7) (N := 18) hx hb hts in_X7 tyX7 tyX7_ok nmX7 hown hK.1 hP (hD _ _ _ _ _ _ _ _) hS 0 rfl rfl 16 (by decide) fl_201 (fun _ h9 => h9) rfl (by decide +kernel) (nar_z (by omega)) (fit_z (by omega)) (Nat.le_of_ble_eq_true rfl) dX7_takes_18 (fun H locs hP _ hS => ?_)
      have hP : va_P D vwCl [(h, .inr (9, [.ref aG, .ref aB, .ref aH, .int (nI ch), .ref aS, .int (nI hs), .ref aI, .int (nI ty), .int ea, .int ra, .int (nI wy), .int wd, .ref aL, .int (nI ln), .int (nI th), .int (nI (E.1)), .int (nI 1), .ref aT])), (aG, .inl (cI, 128, .inl (gN G))), (aB, .inl (cI, 128, .inl (gN B))), (aH, .inl (cI, 1024, .inl (gN Hi))), (aS, .inl (cI, 128, .inl (gN Sv))), (aI, .inl (cI, 60, .inl (gN In))), (aL, .inl (cC, 40, .inl (gN Le))), (aT, .inl (cI, 360, .inl To))] H := hP
      refine lv_aload_n hx hb dX7_takes_21 rfl (lv_at hl 0 rfl) ?_
      refine lv_dup hx hb dX7_takes_22 rfl ?_
      refine va_get (D := D) (ci := 9) (v := .int (nI (E.1))) (C := RX7) (T := TX7) (N := 18) hx hb hts in_X7 hown hK.1 hP 0 rfl rfl 15 (by decide) fl_198 (fun _ h9 => h9) rfl dX7_takes_23 ?_
      refine lv_aload_n hx hb dX7_takes_26 rfl (lv_at hl 0 rfl) ?_
      refine va_get (D := D) (ci := 9) (v := .int (nI 1)) (C := RX7) (T := TX7) (N := 18) hx hb hts in_X7 hown hK.1 hP 0 rfl rfl 16 (by decide) fl_201 (fun _ h9 => h9) rfl dX7_takes_27 ?_
      refine nv_if_eq (tgt := 37) hx hb dX7_takes_30 (by decide) (by omega) (fun c5 => ?_) (fun c5 => ?_)
      · exact absurd c5 (by decide)
      · refine lv_iconst (v := nI 0) hx hb dX7_takes_33 (by decide) ?_
        refine lv_goto (tgt := 38) hx hb dX7_takes_34 (by decide) ?_
        refine nv_iadd hx hb dX7_takes_38 ?_
        refine nv_to (E.1) rfl ?_
        refine va_put (D := D) (ci := 9) (v := .int (nI (E.1))) (ty := .int) (C := RX7) (T := TX7) (N := 18) hx hb hts in_X7 tyX7 tyX7_ok nmX7 hown hK.1 hP (hD _ _ _ _ _ _ _ _) hS 0 rfl rfl 15 (by decide) fl_198 (fun _ h9 => h9) rfl (by decide +kernel) rfl rfl (Nat.le_of_ble_eq_true rfl) dX7_takes_39 (fun H locs hP _ hS => ?_)
        have hP : va_P D vwCl [(h, .inr (9, [.ref aG, .ref aB, .ref aH, .int (nI ch), .ref aS, .int (nI hs), .ref aI, .int (nI ty), .int ea, .int ra, .int (nI wy), .int wd, .ref aL, .int (nI ln), .int (nI th), .int (nI (E.1)), .int (nI 1), .ref aT])), (aG, .inl (cI, 128, .inl (gN G))), (aB, .inl (cI, 128, .inl (gN B))), (aH, .inl (cI, 1024, .inl (gN Hi))), (aS, .inl (cI, 128, .inl (gN Sv))), (aI, .inl (cI, 60, .inl (gN In))), (aL, .inl (cC, 40, .inl (gN Le))), (aT, .inl (cI, 360, .inl To))] H := hP
        refine lv_iload_n hx hb dX7_takes_42 rfl (lv_at hl 1 rfl) ?_
        exact nv_retM hq hx hb hr hlocks (nar_i _) (rfl) hS hP (by rw [tk_bad c3]) dX7_takes_43

set_option maxHeartbeats 1000000 in
set_option maxRecDepth 100000 in
theorem c_X7_figure (l : Launch) {D : va_G} {cI cC : ClassId} {h aG aB aH aS aI aL aT : Nat} {G B Hi Sv In Le : Nat → Nat} {To : Nat → Int32} {ch hs ty wy ln th : Nat} {ea ra wd : Int32} {A : Nat → Prop} (hD : ∀ (G B Hi Sv In Le : Nat → Nat) (To : Nat → Int32) (fs : List Value), va_D A [(h, .inr (9, fs)), (aG, .inl (cI, 128, .inl (gN G))), (aB, .inl (cI, 128, .inl (gN B))), (aH, .inl (cI, 1024, .inl (gN Hi))), (aS, .inl (cI, 128, .inl (gN Sv))), (aI, .inl (cI, 60, .inl (gN In))), (aL, .inl (cC, 40, .inl (gN Le))), (aT, .inl (cI, 360, .inl To))]) (E : Nat × Nat) (hty : ty ≤ 60) (hE : eOk E)  : Met l yX7_figure wsX7_figure ({ frames := 1, cells := 0, slots := 0, locals := 22 }) (va_Pc [.ref h] (sPre D [(cI, .int), (cC, .char)] [] (fun H => va_P D vwCl [(h, .inr (9, [.ref aG, .ref aB, .ref aH, .int (nI ch), .ref aS, .int (nI hs), .ref aI, .int (nI ty), .int ea, .int ra, .int (nI wy), .int wd, .ref aL, .int (nI ln), .int (nI th), .int (nI (E.1)), .int (nI (E.2)), .ref aT])), (aG, .inl (cI, 128, .inl (gN G))), (aB, .inl (cI, 128, .inl (gN B))), (aH, .inl (cI, 1024, .inl (gN Hi))), (aS, .inl (cI, 128, .inl (gN Sv))), (aI, .inl (cI, 60, .inl (gN In))), (aL, .inl (cC, 40, .inl (gN Le))), (aT, .inl (cI, 360, .inl To))] H))) (mQ D (vD (hrx In ty E.1)) [(h, .inr (9, [.ref aG, .ref aB, .ref aH, .int (nI ch), .ref aS, .int (nI hs), .ref aI, .int (nI ty), .int ea, .int ra, .int (nI wy), .int wd, .ref aL, .int (nI ln), .int (nI th), .int (nI ((st1 In ty 200 E).1)), .int (nI ((st1 In ty 200 E).2)), .ref aT])), (aG, .inl (cI, 128, .inl (gN G))), (aB, .inl (cI, 128, .inl (gN B))), (aH, .inl (cI, 1024, .inl (gN Hi))), (aS, .inl (cI, 128, .inl (gN Sv))), (aI, .inl (cI, 60, .inl (gN In))), (aL, .inl (cC, 40, .inl (gN Le))), (aT, .inl (cI, 360, .inl To))] A) 0 0 A := by
  refine nv_met (cc := cX7_figure) (maxL := 2) (ret := (some .int)) (by decide) rfl (Nat.le_of_ble_eq_true rfl) ?_
  intro p0 e0 s m0 args below meth c0 Q hq hargs hnA hpre ls hl
  obtain ⟨hx, hb, hr, hts, hown, hlocks, hml⟩ := hnA
  obtain ⟨hP, hK⟩ := hpre
  have hown : s.vm.findClass RX7 = some m0.cls := hown
  have hP : va_P D vwCl [(h, .inr (9, [.ref aG, .ref aB, .ref aH, .int (nI ch), .ref aS, .int (nI hs), .ref aI, .int (nI ty), .int ea, .int ra, .int (nI wy), .int wd, .ref aL, .int (nI ln), .int (nI th), .int (nI (E.1)), .int (nI (E.2)), .ref aT])), (aG, .inl (cI, 128, .inl (gN G))), (aB, .inl (cI, 128, .inl (gN B))), (aH, .inl (cI, 1024, .inl (gN Hi))), (aS, .inl (cI, 128, .inl (gN Sv))), (aI, .inl (cI, 60, .inl (gN In))), (aL, .inl (cC, 40, .inl (gN Le))), (aT, .inl (cI, 360, .inl To))] s.heap := hP
  have hl : lv_has ls 2 [(0, .ref h)] := hl
  have hS : va_S A s.heap s.heap [] := va_S.rf
  obtain ⟨hE1, hE2⟩ := id hE
  refine lv_aload_n hx hb dX7_figure_0 rfl (lv_at hl 0 rfl) ?_
  refine nv_kS (va_runV (As := []) (rest := []) ⟨hx, hb, hml, hown, hts⟩ (c_X7_here l hty (hE.1)) (cwV 0 hts gX7_figure_X7_here rfl rfl rfl (by decide +kernel) ⟨Nat.le_of_ble_eq_true rfl, Nat.le_of_ble_eq_true rfl⟩) (nv_pV hK hP (va_recv hK.1 hP (ci := 9) (q0 := 0) rfl rfl)) rfl rfl hl.1 rfl (lv_room (Nat.le_of_ble_eq_true rfl)) dX7_figure_1 ⟨Nat.zero_le _, Nat.zero_le _⟩) ?_
  refine lv_istore_n (lv' := [(1, .int (hrx In ty (E.1))), (0, .ref h)]) hx hb dX7_figure_4 rfl hl (by decide) rfl (fun ls hl => ?_)
  refine lv_aload_n hx hb dX7_figure_5 rfl (lv_at hl 1 rfl) ?_
  refine lv_iload_n hx hb dX7_figure_6 rfl (lv_at hl 0 rfl) ?_
  refine lv_bipush (v := nI 48) hx hb dX7_figure_7 (by decide) ?_
  refine lv_bipush (v := nI 57) hx hb dX7_figure_9 (by decide) ?_
  refine nv_kS (va_runS (As := [.int (hrx In ty (E.1)), .int (nI 48), .int (nI 57)]) (rest := [.ref h]) ⟨hx, hb, hml, hown, hts⟩ (c_X7_in l (hrx In ty (E.1)) (nI (48)) (nI (57))) (va_cwS 3 hts gX7_figure_X7_in rfl rfl rfl (by decide +kernel) ⟨Nat.le_of_ble_eq_true rfl, Nat.le_of_ble_eq_true rfl⟩) (nv_pS hK trivial) rfl rfl hl.1 rfl (lv_room (Nat.le_of_ble_eq_true rfl)) dX7_figure_11 ⟨Nat.zero_le _, Nat.zero_le _⟩) ?_
  refine nv_jn (α := Int32) (fun r => W p0 l e0 ({ frames := 1, cells := 0, slots := 0, locals := 22 }) s m0 args below meth c0 s.heap [] 0 0 Q (F0 m0 25 ls (.int r :: [.ref h]))) ((if nI (48) ≤ hrx In ty (E.1) ∧ hrx In ty (E.1) ≤ nI (57) then (hrx In ty (E.1)) - (nI (48)) else (-1))) (fun r er => ?_) (fun hJ => ?_)
  · subst er
    refine iv_to (vD (hrx In ty E.1)) rfl ?_
    refine nv_kM (va_runV (As := [.int (vD (hrx In ty E.1))]) (rest := []) ⟨hx, hb, hml, hown, hts⟩ (c_X7_takes l hD E hty hE (vD (hrx In ty E.1))) (cwV 1 hts gX7_figure_X7_takes rfl rfl rfl (by decide +kernel) ⟨Nat.le_of_ble_eq_true rfl, Nat.le_of_ble_eq_true rfl⟩) (nv_pV hK hP (va_recv hK.1 hP (ci := 9) (q0 := 0) rfl rfl)) rfl rfl hl.1 rfl (lv_room (Nat.le_of_ble_eq_true rfl)) dX7_figure_25 ⟨Nat.zero_le _, Nat.zero_le _⟩) hS (fun H locs hP hS => ?_)
    have hP : va_P D vwCl [(h, .inr (9, [.ref aG, .ref aB, .ref aH, .int (nI ch), .ref aS, .int (nI hs), .ref aI, .int (nI ty), .int ea, .int ra, .int (nI wy), .int wd, .ref aL, .int (nI ln), .int (nI th), .int (nI ((tk (vD (hrx In ty E.1)) E).1)), .int (nI ((tk (vD (hrx In ty E.1)) E).2)), .ref aT])), (aG, .inl (cI, 128, .inl (gN G))), (aB, .inl (cI, 128, .inl (gN B))), (aH, .inl (cI, 1024, .inl (gN Hi))), (aS, .inl (cI, 128, .inl (gN Sv))), (aI, .inl (cI, 60, .inl (gN In))), (aL, .inl (cC, 40, .inl (gN Le))), (aT, .inl (cI, 360, .inl To))] H := hP
    exact nv_retM hq hx hb hr hlocks (nar_i _) (rfl) hS hP (by rw [show tk (vD (hrx In ty E.1)) E = st1 In ty 200 E from tk_st (w := 200) (by decide) (by decide)]) dX7_figure_28
  · refine nv_ifb_eq (tgt := 24) hx hb dX7_figure_14 (by decide) (fun c1 => ?_) (fun c1 => ?_)
    · refine lv_iconst (v := (-1)) hx hb dX7_figure_24 (by decide) ?_
      exact hJ _ (if_neg c1).symm
    · refine lv_iload_n hx hb dX7_figure_17 rfl (lv_at hl 0 rfl) ?_
      refine lv_bipush (v := nI 48) hx hb dX7_figure_18 (by decide) ?_
      refine lv_isub hx hb dX7_figure_20 ?_
      refine lv_goto (tgt := 25) hx hb dX7_figure_21 (by decide) ?_
      exact hJ _ (if_pos c1).symm

set_option maxHeartbeats 1000000 in
set_option maxRecDepth 100000 in
theorem c_X7_gender (l : Launch) {D : va_G} {cI cC : ClassId} {h aG aB aH aS aI aL aT : Nat} {G B Hi Sv In Le : Nat → Nat} {To : Nat → Int32} {ch hs ty wy ln th : Nat} {ea ra wd : Int32} {A : Nat → Prop} (hD : ∀ (G B Hi Sv In Le : Nat → Nat) (To : Nat → Int32) (fs : List Value), va_D A [(h, .inr (9, fs)), (aG, .inl (cI, 128, .inl (gN G))), (aB, .inl (cI, 128, .inl (gN B))), (aH, .inl (cI, 1024, .inl (gN Hi))), (aS, .inl (cI, 128, .inl (gN Sv))), (aI, .inl (cI, 60, .inl (gN In))), (aL, .inl (cC, 40, .inl (gN Le))), (aT, .inl (cI, 360, .inl To))]) (E : Nat × Nat) (hty : ty ≤ 60) (hE : eOk E)  : Met l yX7_gender wsX7_gender ({ frames := 1, cells := 0, slots := 0, locals := 21 }) (va_Pc [.ref h] (sPre D [(cI, .int), (cC, .char)] [] (fun H => va_P D vwCl [(h, .inr (9, [.ref aG, .ref aB, .ref aH, .int (nI ch), .ref aS, .int (nI hs), .ref aI, .int (nI ty), .int ea, .int ra, .int (nI wy), .int wd, .ref aL, .int (nI ln), .int (nI th), .int (nI (E.1)), .int (nI (E.2)), .ref aT])), (aG, .inl (cI, 128, .inl (gN G))), (aB, .inl (cI, 128, .inl (gN B))), (aH, .inl (cI, 1024, .inl (gN Hi))), (aS, .inl (cI, 128, .inl (gN Sv))), (aI, .inl (cI, 60, .inl (gN In))), (aL, .inl (cC, 40, .inl (gN Le))), (aT, .inl (cI, 360, .inl To))] H))) (mQ D (vG (hrx In ty E.1)) [(h, .inr (9, [.ref aG, .ref aB, .ref aH, .int (nI ch), .ref aS, .int (nI hs), .ref aI, .int (nI ty), .int ea, .int ra, .int (nI wy), .int wd, .ref aL, .int (nI ln), .int (nI th), .int (nI ((st1 In ty 202 E).1)), .int (nI ((st1 In ty 202 E).2)), .ref aT])), (aG, .inl (cI, 128, .inl (gN G))), (aB, .inl (cI, 128, .inl (gN B))), (aH, .inl (cI, 1024, .inl (gN Hi))), (aS, .inl (cI, 128, .inl (gN Sv))), (aI, .inl (cI, 60, .inl (gN In))), (aL, .inl (cC, 40, .inl (gN Le))), (aT, .inl (cI, 360, .inl To))] A) 0 0 A := by
  refine nv_met (cc := cX7_gender) (maxL := 2) (ret := (some .int)) (by decide) rfl (Nat.le_of_ble_eq_true rfl) ?_
  intro p0 e0 s m0 args below meth c0 Q hq hargs hnA hpre ls hl
  obtain ⟨hx, hb, hr, hts, hown, hlocks, hml⟩ := hnA
  obtain ⟨hP, hK⟩ := hpre
  have hown : s.vm.findClass RX7 = some m0.cls := hown
  have hP : va_P D vwCl [(h, .inr (9, [.ref aG, .ref aB, .ref aH, .int (nI ch), .ref aS, .int (nI hs), .ref aI, .int (nI ty), .int ea, .int ra, .int (nI wy), .int wd, .ref aL, .int (nI ln), .int (nI th), .int (nI (E.1)), .int (nI (E.2)), .ref aT])), (aG, .inl (cI, 128, .inl (gN G))), (aB, .inl (cI, 128, .inl (gN B))), (aH, .inl (cI, 1024, .inl (gN Hi))), (aS, .inl (cI, 128, .inl (gN Sv))), (aI, .inl (cI, 60, .inl (gN In))), (aL, .inl (cC, 40, .inl (gN Le))), (aT, .inl (cI, 360, .inl To))] s.heap := hP
  have hl : lv_has ls 2 [(0, .ref h)] := hl
  have hS : va_S A s.heap s.heap [] := va_S.rf
  obtain ⟨hE1, hE2⟩ := id hE
  refine lv_aload_n hx hb dX7_gender_0 rfl (lv_at hl 0 rfl) ?_
  refine nv_kS (va_runV (As := []) (rest := []) ⟨hx, hb, hml, hown, hts⟩ (c_X7_here l hty (hE.1)) (cwV 0 hts gX7_gender_X7_here rfl rfl rfl (by decide +kernel) ⟨Nat.le_of_ble_eq_true rfl, Nat.le_of_ble_eq_true rfl⟩) (nv_pV hK hP (va_recv hK.1 hP (ci := 9) (q0 := 0) rfl rfl)) rfl rfl hl.1 rfl (lv_room (Nat.le_of_ble_eq_true rfl)) dX7_gender_1 ⟨Nat.zero_le _, Nat.zero_le _⟩) ?_
  refine lv_istore_n (lv' := [(1, .int (hrx In ty (E.1))), (0, .ref h)]) hx hb dX7_gender_4 rfl hl (by decide) rfl (fun ls hl => ?_)
  refine lv_aload_n hx hb dX7_gender_5 rfl (lv_at hl 1 rfl) ?_
  refine lv_iload_n hx hb dX7_gender_6 rfl (lv_at hl 0 rfl) ?_
  refine lv_bipush (v := nI 111) hx hb dX7_gender_7 (by decide) ?_
  refine nv_jn (α := Int32) (fun r => W p0 l e0 ({ frames := 1, cells := 0, slots := 0, locals := 21 }) s m0 args below meth c0 s.heap [] 0 0 Q (F0 m0 37 ls (.int r :: [.ref h]))) ((if hrx In ty (E.1) = nI (111) then nI (0) else (if hrx In ty (E.1) = nI (105) then nI (1) else (if hrx In ty (E.1) = nI (103) then nI (2) else (-1))))) (fun r er => ?_) (fun hJ => ?_)
  · subst er
    refine iv_to (vG (hrx In ty E.1)) rfl ?_
    refine nv_kM (va_runV (As := [.int (vG (hrx In ty E.1))]) (rest := []) ⟨hx, hb, hml, hown, hts⟩ (c_X7_takes l hD E hty hE (vG (hrx In ty E.1))) (cwV 1 hts gX7_gender_X7_takes rfl rfl rfl (by decide +kernel) ⟨Nat.le_of_ble_eq_true rfl, Nat.le_of_ble_eq_true rfl⟩) (nv_pV hK hP (va_recv hK.1 hP (ci := 9) (q0 := 0) rfl rfl)) rfl rfl hl.1 rfl (lv_room (Nat.le_of_ble_eq_true rfl)) dX7_gender_37 ⟨Nat.zero_le _, Nat.zero_le _⟩) hS (fun H locs hP hS => ?_)
    have hP : va_P D vwCl [(h, .inr (9, [.ref aG, .ref aB, .ref aH, .int (nI ch), .ref aS, .int (nI hs), .ref aI, .int (nI ty), .int ea, .int ra, .int (nI wy), .int wd, .ref aL, .int (nI ln), .int (nI th), .int (nI ((tk (vG (hrx In ty E.1)) E).1)), .int (nI ((tk (vG (hrx In ty E.1)) E).2)), .ref aT])), (aG, .inl (cI, 128, .inl (gN G))), (aB, .inl (cI, 128, .inl (gN B))), (aH, .inl (cI, 1024, .inl (gN Hi))), (aS, .inl (cI, 128, .inl (gN Sv))), (aI, .inl (cI, 60, .inl (gN In))), (aL, .inl (cC, 40, .inl (gN Le))), (aT, .inl (cI, 360, .inl To))] H := hP
    exact nv_retM hq hx hb hr hlocks (nar_i _) (rfl) hS hP (by rw [show tk (vG (hrx In ty E.1)) E = st1 In ty 202 E from tk_st (w := 202) (by decide) (by decide)]) dX7_gender_40
  · refine lv_icmp_ne (tgt := 16) hx hb dX7_gender_9 (by decide) (fun c1 => ?_) (fun c1 => ?_)
    · refine lv_iload_n hx hb dX7_gender_16 rfl (lv_at hl 0 rfl) ?_
      refine lv_bipush (v := nI 105) hx hb dX7_gender_17 (by decide) ?_
      refine lv_icmp_ne (tgt := 26) hx hb dX7_gender_19 (by decide) (fun c2 => ?_) (fun c2 => ?_)
      · refine lv_iload_n hx hb dX7_gender_26 rfl (lv_at hl 0 rfl) ?_
        refine lv_bipush (v := nI 103) hx hb dX7_gender_27 (by decide) ?_
        refine lv_icmp_ne (tgt := 36) hx hb dX7_gender_29 (by decide) (fun c3 => ?_) (fun c3 => ?_)
        · refine lv_iconst (v := (-1)) hx hb dX7_gender_36 (by decide) ?_
          exact hJ _ (by rw [if_neg c1, if_neg c2, if_neg c3])
        · refine lv_iconst (v := nI 2) hx hb dX7_gender_32 (by decide) ?_
          refine lv_goto (tgt := 37) hx hb dX7_gender_33 (by decide) ?_
          exact hJ _ (by rw [if_neg c1, if_neg c2, if_pos c3])
      · refine lv_iconst (v := nI 1) hx hb dX7_gender_22 (by decide) ?_
        refine lv_goto (tgt := 37) hx hb dX7_gender_23 (by decide) ?_
        exact hJ _ (by rw [if_neg c1, if_pos c2])
    · refine lv_iconst (v := nI 0) hx hb dX7_gender_12 (by decide) ?_
      refine lv_goto (tgt := 37) hx hb dX7_gender_13 (by decide) ?_
      exact hJ _ (if_pos c1).symm

set_option maxHeartbeats 1000000 in
set_option maxRecDepth 100000 in
theorem c_X7_number (l : Launch) {D : va_G} {cI cC : ClassId} {h aG aB aH aS aI aL aT : Nat} {G B Hi Sv In Le : Nat → Nat} {To : Nat → Int32} {ch hs ty wy ln th : Nat} {ea ra wd : Int32} {A : Nat → Prop} (hD : ∀ (G B Hi Sv In Le : Nat → Nat) (To : Nat → Int32) (fs : List Value), va_D A [(h, .inr (9, fs)), (aG, .inl (cI, 128, .inl (gN G))), (aB, .inl (cI, 128, .inl (gN B))), (aH, .inl (cI, 1024, .inl (gN Hi))), (aS, .inl (cI, 128, .inl (gN Sv))), (aI, .inl (cI, 60, .inl (gN In))), (aL, .inl (cC, 40, .inl (gN Le))), (aT, .inl (cI, 360, .inl To))]) (E : Nat × Nat) (hty : ty ≤ 60) (hE : eOk E)  : Met l yX7_number wsX7_number ({ frames := 1, cells := 0, slots := 0, locals := 21 }) (va_Pc [.ref h] (sPre D [(cI, .int), (cC, .char)] [] (fun H => va_P D vwCl [(h, .inr (9, [.ref aG, .ref aB, .ref aH, .int (nI ch), .ref aS, .int (nI hs), .ref aI, .int (nI ty), .int ea, .int ra, .int (nI wy), .int wd, .ref aL, .int (nI ln), .int (nI th), .int (nI (E.1)), .int (nI (E.2)), .ref aT])), (aG, .inl (cI, 128, .inl (gN G))), (aB, .inl (cI, 128, .inl (gN B))), (aH, .inl (cI, 1024, .inl (gN Hi))), (aS, .inl (cI, 128, .inl (gN Sv))), (aI, .inl (cI, 60, .inl (gN In))), (aL, .inl (cC, 40, .inl (gN Le))), (aT, .inl (cI, 360, .inl To))] H))) (mQ D (vN (hrx In ty E.1)) [(h, .inr (9, [.ref aG, .ref aB, .ref aH, .int (nI ch), .ref aS, .int (nI hs), .ref aI, .int (nI ty), .int ea, .int ra, .int (nI wy), .int wd, .ref aL, .int (nI ln), .int (nI th), .int (nI ((st1 In ty 203 E).1)), .int (nI ((st1 In ty 203 E).2)), .ref aT])), (aG, .inl (cI, 128, .inl (gN G))), (aB, .inl (cI, 128, .inl (gN B))), (aH, .inl (cI, 1024, .inl (gN Hi))), (aS, .inl (cI, 128, .inl (gN Sv))), (aI, .inl (cI, 60, .inl (gN In))), (aL, .inl (cC, 40, .inl (gN Le))), (aT, .inl (cI, 360, .inl To))] A) 0 0 A := by
  refine nv_met (cc := cX7_number) (maxL := 2) (ret := (some .int)) (by decide) rfl (Nat.le_of_ble_eq_true rfl) ?_
  intro p0 e0 s m0 args below meth c0 Q hq hargs hnA hpre ls hl
  obtain ⟨hx, hb, hr, hts, hown, hlocks, hml⟩ := hnA
  obtain ⟨hP, hK⟩ := hpre
  have hown : s.vm.findClass RX7 = some m0.cls := hown
  have hP : va_P D vwCl [(h, .inr (9, [.ref aG, .ref aB, .ref aH, .int (nI ch), .ref aS, .int (nI hs), .ref aI, .int (nI ty), .int ea, .int ra, .int (nI wy), .int wd, .ref aL, .int (nI ln), .int (nI th), .int (nI (E.1)), .int (nI (E.2)), .ref aT])), (aG, .inl (cI, 128, .inl (gN G))), (aB, .inl (cI, 128, .inl (gN B))), (aH, .inl (cI, 1024, .inl (gN Hi))), (aS, .inl (cI, 128, .inl (gN Sv))), (aI, .inl (cI, 60, .inl (gN In))), (aL, .inl (cC, 40, .inl (gN Le))), (aT, .inl (cI, 360, .inl To))] s.heap := hP
  have hl : lv_has ls 2 [(0, .ref h)] := hl
  have hS : va_S A s.heap s.heap [] := va_S.rf
  obtain ⟨hE1, hE2⟩ := id hE
  refine lv_aload_n hx hb dX7_number_0 rfl (lv_at hl 0 rfl) ?_
  refine nv_kS (va_runV (As := []) (rest := []) ⟨hx, hb, hml, hown, hts⟩ (c_X7_here l hty (hE.1)) (cwV 0 hts gX7_number_X7_here rfl rfl rfl (by decide +kernel) ⟨Nat.le_of_ble_eq_true rfl, Nat.le_of_ble_eq_true rfl⟩) (nv_pV hK hP (va_recv hK.1 hP (ci := 9) (q0 := 0) rfl rfl)) rfl rfl hl.1 rfl (lv_room (Nat.le_of_ble_eq_true rfl)) dX7_number_1 ⟨Nat.zero_le _, Nat.zero_le _⟩) ?_
  refine lv_istore_n (lv' := [(1, .int (hrx In ty (E.1))), (0, .ref h)]) hx hb dX7_number_4 rfl hl (by decide) rfl (fun ls hl => ?_)
  refine lv_aload_n hx hb dX7_number_5 rfl (lv_at hl 1 rfl) ?_
  refine lv_iload_n hx hb dX7_number_6 rfl (lv_at hl 0 rfl) ?_
  refine lv_bipush (v := nI 115) hx hb dX7_number_7 (by decide) ?_
  refine nv_jn (α := Int32) (fun r => W p0 l e0 ({ frames := 1, cells := 0, slots := 0, locals := 21 }) s m0 args below meth c0 s.heap [] 0 0 Q (F0 m0 27 ls (.int r :: [.ref h]))) ((if hrx In ty (E.1) = nI (115) then nI (0) else (if hrx In ty (E.1) = nI (100) then nI (1) else (-1)))) (fun r er => ?_) (fun hJ => ?_)
  · subst er
    refine iv_to (vN (hrx In ty E.1)) rfl ?_
    refine nv_kM (va_runV (As := [.int (vN (hrx In ty E.1))]) (rest := []) ⟨hx, hb, hml, hown, hts⟩ (c_X7_takes l hD E hty hE (vN (hrx In ty E.1))) (cwV 1 hts gX7_number_X7_takes rfl rfl rfl (by decide +kernel) ⟨Nat.le_of_ble_eq_true rfl, Nat.le_of_ble_eq_true rfl⟩) (nv_pV hK hP (va_recv hK.1 hP (ci := 9) (q0 := 0) rfl rfl)) rfl rfl hl.1 rfl (lv_room (Nat.le_of_ble_eq_true rfl)) dX7_number_27 ⟨Nat.zero_le _, Nat.zero_le _⟩) hS (fun H locs hP hS => ?_)
    have hP : va_P D vwCl [(h, .inr (9, [.ref aG, .ref aB, .ref aH, .int (nI ch), .ref aS, .int (nI hs), .ref aI, .int (nI ty), .int ea, .int ra, .int (nI wy), .int wd, .ref aL, .int (nI ln), .int (nI th), .int (nI ((tk (vN (hrx In ty E.1)) E).1)), .int (nI ((tk (vN (hrx In ty E.1)) E).2)), .ref aT])), (aG, .inl (cI, 128, .inl (gN G))), (aB, .inl (cI, 128, .inl (gN B))), (aH, .inl (cI, 1024, .inl (gN Hi))), (aS, .inl (cI, 128, .inl (gN Sv))), (aI, .inl (cI, 60, .inl (gN In))), (aL, .inl (cC, 40, .inl (gN Le))), (aT, .inl (cI, 360, .inl To))] H := hP
    exact nv_retM hq hx hb hr hlocks (nar_i _) (rfl) hS hP (by rw [show tk (vN (hrx In ty E.1)) E = st1 In ty 203 E from tk_st (w := 203) (by decide) (by decide)]) dX7_number_30
  · refine lv_icmp_ne (tgt := 16) hx hb dX7_number_9 (by decide) (fun c1 => ?_) (fun c1 => ?_)
    · refine lv_iload_n hx hb dX7_number_16 rfl (lv_at hl 0 rfl) ?_
      refine lv_bipush (v := nI 100) hx hb dX7_number_17 (by decide) ?_
      refine lv_icmp_ne (tgt := 26) hx hb dX7_number_19 (by decide) (fun c2 => ?_) (fun c2 => ?_)
      · refine lv_iconst (v := (-1)) hx hb dX7_number_26 (by decide) ?_
        exact hJ _ (by rw [if_neg c1, if_neg c2])
      · refine lv_iconst (v := nI 1) hx hb dX7_number_22 (by decide) ?_
        refine lv_goto (tgt := 27) hx hb dX7_number_23 (by decide) ?_
        exact hJ _ (by rw [if_neg c1, if_pos c2])
    · refine lv_iconst (v := nI 0) hx hb dX7_number_12 (by decide) ?_
      refine lv_goto (tgt := 27) hx hb dX7_number_13 (by decide) ?_
      exact hJ _ (if_pos c1).symm

set_option maxHeartbeats 1000000 in
set_option maxRecDepth 100000 in
theorem c_X7_grammarCase (l : Launch) {D : va_G} {cI cC : ClassId} {h aG aB aH aS aI aL aT : Nat} {G B Hi Sv In Le : Nat → Nat} {To : Nat → Int32} {ch hs ty wy ln th : Nat} {ea ra wd : Int32} {A : Nat → Prop} (hD : ∀ (G B Hi Sv In Le : Nat → Nat) (To : Nat → Int32) (fs : List Value), va_D A [(h, .inr (9, fs)), (aG, .inl (cI, 128, .inl (gN G))), (aB, .inl (cI, 128, .inl (gN B))), (aH, .inl (cI, 1024, .inl (gN Hi))), (aS, .inl (cI, 128, .inl (gN Sv))), (aI, .inl (cI, 60, .inl (gN In))), (aL, .inl (cC, 40, .inl (gN Le))), (aT, .inl (cI, 360, .inl To))]) (E : Nat × Nat) (hty : ty ≤ 60) (hE : eOk E)  : Met l yX7_grammarCase wsX7_grammarCase ({ frames := 1, cells := 0, slots := 0, locals := 21 }) (va_Pc [.ref h] (sPre D [(cI, .int), (cC, .char)] [] (fun H => va_P D vwCl [(h, .inr (9, [.ref aG, .ref aB, .ref aH, .int (nI ch), .ref aS, .int (nI hs), .ref aI, .int (nI ty), .int ea, .int ra, .int (nI wy), .int wd, .ref aL, .int (nI ln), .int (nI th), .int (nI (E.1)), .int (nI (E.2)), .ref aT])), (aG, .inl (cI, 128, .inl (gN G))), (aB, .inl (cI, 128, .inl (gN B))), (aH, .inl (cI, 1024, .inl (gN Hi))), (aS, .inl (cI, 128, .inl (gN Sv))), (aI, .inl (cI, 60, .inl (gN In))), (aL, .inl (cC, 40, .inl (gN Le))), (aT, .inl (cI, 360, .inl To))] H))) (mQ D (vC (hrx In ty E.1)) [(h, .inr (9, [.ref aG, .ref aB, .ref aH, .int (nI ch), .ref aS, .int (nI hs), .ref aI, .int (nI ty), .int ea, .int ra, .int (nI wy), .int wd, .ref aL, .int (nI ln), .int (nI th), .int (nI ((st1 In ty 204 E).1)), .int (nI ((st1 In ty 204 E).2)), .ref aT])), (aG, .inl (cI, 128, .inl (gN G))), (aB, .inl (cI, 128, .inl (gN B))), (aH, .inl (cI, 1024, .inl (gN Hi))), (aS, .inl (cI, 128, .inl (gN Sv))), (aI, .inl (cI, 60, .inl (gN In))), (aL, .inl (cC, 40, .inl (gN Le))), (aT, .inl (cI, 360, .inl To))] A) 0 0 A := by
  refine nv_met (cc := cX7_grammarCase) (maxL := 2) (ret := (some .int)) (by decide) rfl (Nat.le_of_ble_eq_true rfl) ?_
  intro p0 e0 s m0 args below meth c0 Q hq hargs hnA hpre ls hl
  obtain ⟨hx, hb, hr, hts, hown, hlocks, hml⟩ := hnA
  obtain ⟨hP, hK⟩ := hpre
  have hown : s.vm.findClass RX7 = some m0.cls := hown
  have hP : va_P D vwCl [(h, .inr (9, [.ref aG, .ref aB, .ref aH, .int (nI ch), .ref aS, .int (nI hs), .ref aI, .int (nI ty), .int ea, .int ra, .int (nI wy), .int wd, .ref aL, .int (nI ln), .int (nI th), .int (nI (E.1)), .int (nI (E.2)), .ref aT])), (aG, .inl (cI, 128, .inl (gN G))), (aB, .inl (cI, 128, .inl (gN B))), (aH, .inl (cI, 1024, .inl (gN Hi))), (aS, .inl (cI, 128, .inl (gN Sv))), (aI, .inl (cI, 60, .inl (gN In))), (aL, .inl (cC, 40, .inl (gN Le))), (aT, .inl (cI, 360, .inl To))] s.heap := hP
  have hl : lv_has ls 2 [(0, .ref h)] := hl
  have hS : va_S A s.heap s.heap [] := va_S.rf
  obtain ⟨hE1, hE2⟩ := id hE
  refine lv_aload_n hx hb dX7_grammarCase_0 rfl (lv_at hl 0 rfl) ?_
  refine nv_kS (va_runV (As := []) (rest := []) ⟨hx, hb, hml, hown, hts⟩ (c_X7_here l hty (hE.1)) (cwV 0 hts gX7_grammarCase_X7_here rfl rfl rfl (by decide +kernel) ⟨Nat.le_of_ble_eq_true rfl, Nat.le_of_ble_eq_true rfl⟩) (nv_pV hK hP (va_recv hK.1 hP (ci := 9) (q0 := 0) rfl rfl)) rfl rfl hl.1 rfl (lv_room (Nat.le_of_ble_eq_true rfl)) dX7_grammarCase_1 ⟨Nat.zero_le _, Nat.zero_le _⟩) ?_
  refine lv_istore_n (lv' := [(1, .int (hrx In ty (E.1))), (0, .ref h)]) hx hb dX7_grammarCase_4 rfl hl (by decide) rfl (fun ls hl => ?_)
  refine lv_aload_n hx hb dX7_grammarCase_5 rfl (lv_at hl 1 rfl) ?_
  refine lv_iload_n hx hb dX7_grammarCase_6 rfl (lv_at hl 0 rfl) ?_
  refine lv_bipush (v := nI 79) hx hb dX7_grammarCase_7 (by decide) ?_
  refine nv_jn (α := Int32) (fun r => W p0 l e0 ({ frames := 1, cells := 0, slots := 0, locals := 21 }) s m0 args below meth c0 s.heap [] 0 0 Q (F0 m0 47 ls (.int r :: [.ref h]))) ((if hrx In ty (E.1) = nI (79) then nI (0) else (if hrx In ty (E.1) = nI (83) then nI (1) else (if hrx In ty (E.1) = nI (65) then nI (2) else (if hrx In ty (E.1) = nI (76) then nI (3) else (-1)))))) (fun r er => ?_) (fun hJ => ?_)
  · subst er
    refine iv_to (vC (hrx In ty E.1)) rfl ?_
    refine nv_kM (va_runV (As := [.int (vC (hrx In ty E.1))]) (rest := []) ⟨hx, hb, hml, hown, hts⟩ (c_X7_takes l hD E hty hE (vC (hrx In ty E.1))) (cwV 1 hts gX7_grammarCase_X7_takes rfl rfl rfl (by decide +kernel) ⟨Nat.le_of_ble_eq_true rfl, Nat.le_of_ble_eq_true rfl⟩) (nv_pV hK hP (va_recv hK.1 hP (ci := 9) (q0 := 0) rfl rfl)) rfl rfl hl.1 rfl (lv_room (Nat.le_of_ble_eq_true rfl)) dX7_grammarCase_47 ⟨Nat.zero_le _, Nat.zero_le _⟩) hS (fun H locs hP hS => ?_)
    have hP : va_P D vwCl [(h, .inr (9, [.ref aG, .ref aB, .ref aH, .int (nI ch), .ref aS, .int (nI hs), .ref aI, .int (nI ty), .int ea, .int ra, .int (nI wy), .int wd, .ref aL, .int (nI ln), .int (nI th), .int (nI ((tk (vC (hrx In ty E.1)) E).1)), .int (nI ((tk (vC (hrx In ty E.1)) E).2)), .ref aT])), (aG, .inl (cI, 128, .inl (gN G))), (aB, .inl (cI, 128, .inl (gN B))), (aH, .inl (cI, 1024, .inl (gN Hi))), (aS, .inl (cI, 128, .inl (gN Sv))), (aI, .inl (cI, 60, .inl (gN In))), (aL, .inl (cC, 40, .inl (gN Le))), (aT, .inl (cI, 360, .inl To))] H := hP
    exact nv_retM hq hx hb hr hlocks (nar_i _) (rfl) hS hP (by rw [show tk (vC (hrx In ty E.1)) E = st1 In ty 204 E from tk_st (w := 204) (by decide) (by decide)]) dX7_grammarCase_50
  · refine lv_icmp_ne (tgt := 16) hx hb dX7_grammarCase_9 (by decide) (fun c1 => ?_) (fun c1 => ?_)
    · refine lv_iload_n hx hb dX7_grammarCase_16 rfl (lv_at hl 0 rfl) ?_
      refine lv_bipush (v := nI 83) hx hb dX7_grammarCase_17 (by decide) ?_
      refine lv_icmp_ne (tgt := 26) hx hb dX7_grammarCase_19 (by decide) (fun c2 => ?_) (fun c2 => ?_)
      · refine lv_iload_n hx hb dX7_grammarCase_26 rfl (lv_at hl 0 rfl) ?_
        refine lv_bipush (v := nI 65) hx hb dX7_grammarCase_27 (by decide) ?_
        refine lv_icmp_ne (tgt := 36) hx hb dX7_grammarCase_29 (by decide) (fun c3 => ?_) (fun c3 => ?_)
        · refine lv_iload_n hx hb dX7_grammarCase_36 rfl (lv_at hl 0 rfl) ?_
          refine lv_bipush (v := nI 76) hx hb dX7_grammarCase_37 (by decide) ?_
          refine lv_icmp_ne (tgt := 46) hx hb dX7_grammarCase_39 (by decide) (fun c4 => ?_) (fun c4 => ?_)
          · refine lv_iconst (v := (-1)) hx hb dX7_grammarCase_46 (by decide) ?_
            exact hJ _ (by rw [if_neg c1, if_neg c2, if_neg c3, if_neg c4])
          · refine lv_iconst (v := nI 3) hx hb dX7_grammarCase_42 (by decide) ?_
            refine lv_goto (tgt := 47) hx hb dX7_grammarCase_43 (by decide) ?_
            exact hJ _ (by rw [if_neg c1, if_neg c2, if_neg c3, if_pos c4])
        · refine lv_iconst (v := nI 2) hx hb dX7_grammarCase_32 (by decide) ?_
          refine lv_goto (tgt := 47) hx hb dX7_grammarCase_33 (by decide) ?_
          exact hJ _ (by rw [if_neg c1, if_neg c2, if_pos c3])
      · refine lv_iconst (v := nI 1) hx hb dX7_grammarCase_22 (by decide) ?_
        refine lv_goto (tgt := 47) hx hb dX7_grammarCase_23 (by decide) ?_
        exact hJ _ (by rw [if_neg c1, if_pos c2])
    · refine lv_iconst (v := nI 0) hx hb dX7_grammarCase_12 (by decide) ?_
      refine lv_goto (tgt := 47) hx hb dX7_grammarCase_13 (by decide) ?_
      exact hJ _ (if_pos c1).symm

set_option maxHeartbeats 1000000 in
set_option maxRecDepth 100000 in
theorem c_X7_letter (l : Launch) {D : va_G} {cI cC : ClassId} {h aG aB aH aS aI aL aT : Nat} {G B Hi Sv In Le : Nat → Nat} {To : Nat → Int32} {ch hs ty wy ln th : Nat} {ea ra wd : Int32} {A : Nat → Prop} (hD : ∀ (G B Hi Sv In Le : Nat → Nat) (To : Nat → Int32) (fs : List Value), va_D A [(h, .inr (9, fs)), (aG, .inl (cI, 128, .inl (gN G))), (aB, .inl (cI, 128, .inl (gN B))), (aH, .inl (cI, 1024, .inl (gN Hi))), (aS, .inl (cI, 128, .inl (gN Sv))), (aI, .inl (cI, 60, .inl (gN In))), (aL, .inl (cC, 40, .inl (gN Le))), (aT, .inl (cI, 360, .inl To))]) (E : Nat × Nat) (hty : ty ≤ 60) (hE : eOk E)  : Met l yX7_letter wsX7_letter ({ frames := 1, cells := 0, slots := 0, locals := 22 }) (va_Pc [.ref h] (sPre D [(cI, .int), (cC, .char)] [] (fun H => va_P D vwCl [(h, .inr (9, [.ref aG, .ref aB, .ref aH, .int (nI ch), .ref aS, .int (nI hs), .ref aI, .int (nI ty), .int ea, .int ra, .int (nI wy), .int wd, .ref aL, .int (nI ln), .int (nI th), .int (nI (E.1)), .int (nI (E.2)), .ref aT])), (aG, .inl (cI, 128, .inl (gN G))), (aB, .inl (cI, 128, .inl (gN B))), (aH, .inl (cI, 1024, .inl (gN Hi))), (aS, .inl (cI, 128, .inl (gN Sv))), (aI, .inl (cI, 60, .inl (gN In))), (aL, .inl (cC, 40, .inl (gN Le))), (aT, .inl (cI, 360, .inl To))] H))) (mQ D (vE (hrx In ty E.1)) [(h, .inr (9, [.ref aG, .ref aB, .ref aH, .int (nI ch), .ref aS, .int (nI hs), .ref aI, .int (nI ty), .int ea, .int ra, .int (nI wy), .int wd, .ref aL, .int (nI ln), .int (nI th), .int (nI ((st1 In ty 205 E).1)), .int (nI ((st1 In ty 205 E).2)), .ref aT])), (aG, .inl (cI, 128, .inl (gN G))), (aB, .inl (cI, 128, .inl (gN B))), (aH, .inl (cI, 1024, .inl (gN Hi))), (aS, .inl (cI, 128, .inl (gN Sv))), (aI, .inl (cI, 60, .inl (gN In))), (aL, .inl (cC, 40, .inl (gN Le))), (aT, .inl (cI, 360, .inl To))] A) 0 0 A := by
  refine nv_met (cc := cX7_letter) (maxL := 2) (ret := (some .int)) (by decide) rfl (Nat.le_of_ble_eq_true rfl) ?_
  intro p0 e0 s m0 args below meth c0 Q hq hargs hnA hpre ls hl
  obtain ⟨hx, hb, hr, hts, hown, hlocks, hml⟩ := hnA
  obtain ⟨hP, hK⟩ := hpre
  have hown : s.vm.findClass RX7 = some m0.cls := hown
  have hP : va_P D vwCl [(h, .inr (9, [.ref aG, .ref aB, .ref aH, .int (nI ch), .ref aS, .int (nI hs), .ref aI, .int (nI ty), .int ea, .int ra, .int (nI wy), .int wd, .ref aL, .int (nI ln), .int (nI th), .int (nI (E.1)), .int (nI (E.2)), .ref aT])), (aG, .inl (cI, 128, .inl (gN G))), (aB, .inl (cI, 128, .inl (gN B))), (aH, .inl (cI, 1024, .inl (gN Hi))), (aS, .inl (cI, 128, .inl (gN Sv))), (aI, .inl (cI, 60, .inl (gN In))), (aL, .inl (cC, 40, .inl (gN Le))), (aT, .inl (cI, 360, .inl To))] s.heap := hP
  have hl : lv_has ls 2 [(0, .ref h)] := hl
  have hS : va_S A s.heap s.heap [] := va_S.rf
  obtain ⟨hE1, hE2⟩ := id hE
  refine lv_aload_n hx hb dX7_letter_0 rfl (lv_at hl 0 rfl) ?_
  refine nv_kS (va_runV (As := []) (rest := []) ⟨hx, hb, hml, hown, hts⟩ (c_X7_here l hty (hE.1)) (cwV 0 hts gX7_letter_X7_here rfl rfl rfl (by decide +kernel) ⟨Nat.le_of_ble_eq_true rfl, Nat.le_of_ble_eq_true rfl⟩) (nv_pV hK hP (va_recv hK.1 hP (ci := 9) (q0 := 0) rfl rfl)) rfl rfl hl.1 rfl (lv_room (Nat.le_of_ble_eq_true rfl)) dX7_letter_1 ⟨Nat.zero_le _, Nat.zero_le _⟩) ?_
  refine lv_istore_n (lv' := [(1, .int (hrx In ty (E.1))), (0, .ref h)]) hx hb dX7_letter_4 rfl hl (by decide) rfl (fun ls hl => ?_)
  refine lv_aload_n hx hb dX7_letter_5 rfl (lv_at hl 1 rfl) ?_
  refine lv_iload_n hx hb dX7_letter_6 rfl (lv_at hl 0 rfl) ?_
  refine lv_bipush (v := nI 97) hx hb dX7_letter_7 (by decide) ?_
  refine lv_bipush (v := nI 122) hx hb dX7_letter_9 (by decide) ?_
  refine nv_kS (va_runS (As := [.int (hrx In ty (E.1)), .int (nI 97), .int (nI 122)]) (rest := [.ref h]) ⟨hx, hb, hml, hown, hts⟩ (c_X7_in l (hrx In ty (E.1)) (nI (97)) (nI (122))) (va_cwS 3 hts gX7_letter_X7_in rfl rfl rfl (by decide +kernel) ⟨Nat.le_of_ble_eq_true rfl, Nat.le_of_ble_eq_true rfl⟩) (nv_pS hK trivial) rfl rfl hl.1 rfl (lv_room (Nat.le_of_ble_eq_true rfl)) dX7_letter_11 ⟨Nat.zero_le _, Nat.zero_le _⟩) ?_
  refine nv_jn (α := Int32) (fun r => W p0 l e0 ({ frames := 1, cells := 0, slots := 0, locals := 22 }) s m0 args below meth c0 s.heap [] 0 0 Q (F0 m0 25 ls (.int r :: [.ref h]))) ((if nI (97) ≤ hrx In ty (E.1) ∧ hrx In ty (E.1) ≤ nI (122) then (hrx In ty (E.1)) - (nI (97)) else (-1))) (fun r er => ?_) (fun hJ => ?_)
  · subst er
    refine iv_to (vE (hrx In ty E.1)) rfl ?_
    refine nv_kM (va_runV (As := [.int (vE (hrx In ty E.1))]) (rest := []) ⟨hx, hb, hml, hown, hts⟩ (c_X7_takes l hD E hty hE (vE (hrx In ty E.1))) (cwV 1 hts gX7_letter_X7_takes rfl rfl rfl (by decide +kernel) ⟨Nat.le_of_ble_eq_true rfl, Nat.le_of_ble_eq_true rfl⟩) (nv_pV hK hP (va_recv hK.1 hP (ci := 9) (q0 := 0) rfl rfl)) rfl rfl hl.1 rfl (lv_room (Nat.le_of_ble_eq_true rfl)) dX7_letter_25 ⟨Nat.zero_le _, Nat.zero_le _⟩) hS (fun H locs hP hS => ?_)
    have hP : va_P D vwCl [(h, .inr (9, [.ref aG, .ref aB, .ref aH, .int (nI ch), .ref aS, .int (nI hs), .ref aI, .int (nI ty), .int ea, .int ra, .int (nI wy), .int wd, .ref aL, .int (nI ln), .int (nI th), .int (nI ((tk (vE (hrx In ty E.1)) E).1)), .int (nI ((tk (vE (hrx In ty E.1)) E).2)), .ref aT])), (aG, .inl (cI, 128, .inl (gN G))), (aB, .inl (cI, 128, .inl (gN B))), (aH, .inl (cI, 1024, .inl (gN Hi))), (aS, .inl (cI, 128, .inl (gN Sv))), (aI, .inl (cI, 60, .inl (gN In))), (aL, .inl (cC, 40, .inl (gN Le))), (aT, .inl (cI, 360, .inl To))] H := hP
    exact nv_retM hq hx hb hr hlocks (nar_i _) (rfl) hS hP (by rw [show tk (vE (hrx In ty E.1)) E = st1 In ty 205 E from tk_st (w := 205) (by decide) (by decide)]) dX7_letter_28
  · refine nv_ifb_eq (tgt := 24) hx hb dX7_letter_14 (by decide) (fun c1 => ?_) (fun c1 => ?_)
    · refine lv_iconst (v := (-1)) hx hb dX7_letter_24 (by decide) ?_
      exact hJ _ (if_neg c1).symm
    · refine lv_iload_n hx hb dX7_letter_17 rfl (lv_at hl 0 rfl) ?_
      refine lv_bipush (v := nI 97) hx hb dX7_letter_18 (by decide) ?_
      refine lv_isub hx hb dX7_letter_20 ?_
      refine lv_goto (tgt := 25) hx hb dX7_letter_21 (by decide) ?_
      exact hJ _ (if_pos c1).symm
