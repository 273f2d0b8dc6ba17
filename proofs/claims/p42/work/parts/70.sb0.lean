/-! texts: Strings that stand outside what is written, told by their letters; what a StringBuilder holds -/
/-- (the String, its bytes, its letters) -/
abbrev tQ : Type := Nat × Nat × List Nat
def tx (A : Nat → Prop) (q : tQ) (U : State) (H : Heap) : Prop :=
  q.2.2.length < 1000 ∧ (∀ c ∈ q.2.2, c < 128) ∧ va_O "java/lang/String" q.1 A U H ∧ va_OF "java/lang/String" "coder" "B" (.int 0) q.1 A U H ∧ va_OF "java/lang/String" "value" "[B" (.ref q.2.1) q.1 A U H ∧ va_T .byte q.2.1 q.2.2.length (fun j => .int (nI (q.2.2.getD j 0))) A U H
theorem tx.moved {A : Nat → Prop} {q : tQ} {u U : State} {H : Heap} (hvm : u.vm.Alike U.vm) (h : tx A q u H) : tx A q U H := ⟨h.1, h.2.1, va_O.moved hvm h.2.2.1, va_OF.moved hvm h.2.2.2.1, va_OF.moved hvm h.2.2.2.2.1, va_T.moved hvm h.2.2.2.2.2⟩
theorem tx.kept {A : Nat → Prop} {q : tQ} {U : State} {H H1 : Heap} (h : tx A q U H) (hq : ∀ a : Nat, a < H.size → ¬ A a → H1[a]? = H[a]?) : tx A q U H1 := ⟨h.1, h.2.1, h.2.2.1.kept hq, h.2.2.2.1.kept hq, h.2.2.2.2.1.kept hq, h.2.2.2.2.2.kept hq⟩
theorem tx.narrow {A B : Nat → Prop} {q : tQ} {U : State} {H : Heap} (h : tx A q U H) (hAB : ∀ q, B q → A q) : tx B q U H := ⟨h.1, h.2.1, h.2.2.1.narrow hAB, h.2.2.2.1.narrow hAB, h.2.2.2.2.1.narrow hAB, h.2.2.2.2.2.narrow hAB⟩
theorem tx.go {A A1 : Nat → Prop} {q : tQ} {s : State} {H : Heap} {locs : List Loc} (h : tx A q s s.heap) (hS : va_S A s.heap H locs) (hA : ∀ q, A1 q → A q) : tx A1 q s H := (h.kept (fun a h1 h2 => hS.2.1 a h1 h2)).narrow hA
theorem getD_lt {L : List Nat} {n : Nat} (h : ∀ c ∈ L, c < n) (h0 : 0 < n) (k : Nat) : L.getD k 0 < n := by
  rw [List.getD_eq_getElem?_getD]
  cases hk : L[k]? with
  | none => exact h0
  | some c => exact h c (List.mem_of_getElem? hk)
def bK (D : va_G) (cB : ClassId) (U : State) : Prop := va_K D vwCl [(cB, .byte)] U ∧ va_Nw (.castable "[B" "java/lang/Cloneable") U
theorem bK.call {D : va_G} {cB : ClassId} {U : State} {g : JFrame} {mk : MethodId} {a : Array Value} (h : bK D cB U) : bK D cB (U.calling g mk a) := ⟨va_K.moved (u := U) (U := U.calling g mk a) (Vm.Alike.refl U.vm) h.1, va_Nw.same (u := U) (U := U.calling g mk a) rfl rfl h.2⟩
theorem bK.warm {D : va_G} {cB : ClassId} {s U : State} (hW : s.WarmedH U.vm) (h : bK D cB s) : bK D cB U := ⟨va_K.moved hW.alike h.1, va_Nw.warmC hW h.2⟩
theorem bK.nm {D : va_G} {cB : ClassId} {U : State} (h : bK D cB U) : U.vm.findClass "[B" = some cB := (h.1.2 0 _ rfl).2
def sPx (D : va_G) (tys : List (ClassId × FieldType)) (N : List nL) (sa : sA) (A : Nat → Prop) (cB : ClassId) (P : Heap → Prop) (tl : List tQ) : State → Prop := fun U => P U.heap ∧ kT D tys N sa A U U.heap ∧ bK D cB U ∧ ∀ q ∈ tl, tx A q U U.heap
section SPX
variable {s : State} {D : va_G} {tys : List (ClassId × FieldType)} {N : List nL} {sa : sA} {A A1 : Nat → Prop} {H : Heap} {locs : List Loc} {P : Heap → Prop} {As : List Value} {C : String} {b : Addr} {cB : ClassId} {tl : List tQ}
theorem sPx_blind : FrameBlind (va_Pc As (sPx D tys N sa A cB P tl)) := fun _ _ _ _ h => ⟨h.1, h.2.1, h.2.2.1.call, h.2.2.2.1.call, fun q hq => tx.moved (Vm.Alike.refl _) (h.2.2.2.2 q hq)⟩
theorem nx_pS (hT : kT D tys N sa A s s.heap) (hB : bK D cB s) (hX : ∀ q ∈ tl, tx A1 q s H) (hS : va_S A s.heap H locs) (hA : ∀ q, A1 q → A q) (hP : P H) : PreS s H (va_Pc As (sPx D tys N sa A1 cB P tl)) As := ⟨sPx_blind, fun U hU hW => ⟨rfl, by rw [hU]; exact hP, (kT.go hT hS hU hW).narrow hA, hB.warm hW, fun q hq => by rw [hU]; exact (hX q hq).moved hW.alike⟩⟩
theorem nx_pV (hT : kT D tys N sa A s s.heap) (hB : bK D cB s) (hX : ∀ q ∈ tl, tx A1 q s H) (hS : va_S A s.heap H locs) (hA : ∀ q, A1 q → A q) (hP : P H) (hr : ∃ cell : Cell, H[b]? = some cell ∧ cell.vm.isStatics = false ∧ s.vm.findClass C = some cell.cls) : PreV s H C b (va_Pc (.ref b :: As) (sPx D tys N sa A1 cB P tl)) As := ⟨sPx_blind, hr, fun U hU hW => ⟨rfl, by rw [hU]; exact hP, (kT.go hT hS hU hW).narrow hA, hB.warm hW, fun q hq => by rw [hU]; exact (hX q hq).moved hW.alike⟩⟩
end SPX
theorem tx0 {A : Nat → Prop} {s : State} {H : Heap} : ∀ q ∈ ([] : List tQ), tx A q s H := fun q h => nomatch h
theorem tx1 {A : Nat → Prop} {s : State} {H : Heap} {x : tQ} (h : tx A x s H) : ∀ q ∈ [x], tx A q s H := fun q hq => by obtain rfl := List.mem_singleton.mp hq; exact h
theorem va_D2 {A : Nat → Prop} {a b : Nat} {e1 e2 : va_E} (h : a ≠ b) (ha : A a) (hb : A b) : va_D A [(a, e1), (b, e2)] := by
  refine ⟨fun i j p q hi hj e => ?_, fun k q hk => ?_⟩
  · match i, j, hi, hj with
    | 0, 0, _, _ => rfl
    | 1, 1, _, _ => rfl
    | 0, 1, hi, hj => cases hi; cases hj; exact absurd e h
    | 1, 0, hi, hj => cases hi; cases hj; exact absurd e.symm h
    | i + 2, _, hi, _ => simp at hi
    | 0, j + 2, _, hj => simp at hj
    | 1, j + 2, _, hj => simp at hj
  · match k, hk with
    | 0, hk => cases hk; exact ha
    | 1, hk => cases hk; exact hb
    | k + 2, hk => simp at hk
theorem va_D1 {A : Nat → Prop} {a : Nat} {e1 : va_E} (ha : A a) : va_D A [(a, e1)] := by
  refine ⟨fun i j p q hi hj e => ?_, fun k q hk => ?_⟩
  · match i, j, hi, hj with
    | 0, 0, _, _ => rfl
    | i + 1, _, hi, _ => simp at hi
    | 0, j + 1, _, hj => simp at hj
  · match k, hk with
    | 0, hk => cases hk; exact ha
    | k + 1, hk => simp at hk
/-- new cells, from n0 on -/
abbrev aN (n0 : Nat) : Nat → Prop := fun q => n0 ≤ q
theorem aN_sub {n0 n1 : Nat} (h : n0 ≤ n1) : ∀ q, aN n1 q → aN n0 q := fun q hq => Nat.le_trans h hq
/-- a reference is answered -/
def gQn (B : Nat → Heap → Prop) (A : Nat → Prop) : Array Value → State → Outcome → State → Prop := va_Qr (fun (_ : Unit) => True) (fun _ r t => B r t.heap) A
section GQN
variable {p : Program} {l : Launch} {e : Env} {R : Room} {s : State} {m : MethodId} {args : Array Value} {below : List Frame} {meth : Method} {c : Code} {H H0 : Heap} {locs : List Loc} {cells slots : Nat} {Q : State → Prop}
variable {cc : ByteArray} {pc mc ms : Nat} {ls : Array Slot} {rest st0 : List Value} {A A1 : Nat → Prop} {B : Nat → Heap → Prop} {P1 : Heap → Prop} {v : Nat}
theorem nv_retGn {r : Nat} {rt : FieldType} (hq : ∀ t, MQ below (gQn B A) args s mc ms A t → Q t) (hx : p.tables.exec = Jvm.exec) (hb : c.code = cc) (hr : meth.sig.returnType = some rt) (hrt : (∃ n, rt = .object n) ∨ ∃ t, rt = .array t) (hlocks : meth.locks = false) (hc : cells ≤ mc) (hs : slots ≤ ms) (hS : va_S A s.heap H locs) (hB : B r H) (hdg : decode cc pc = .ok (.areturn, 1)) : W p l e R s m args below meth c H locs cells slots Q (F0 m pc ls [.ref r]) :=
  W.mono hq (W.widen hc hs (W.aret hx hb hr hrt (Or.inr ⟨_, rfl⟩) (fun t ht _ => ⟨⟨(), r, rfl, trivial, by subst ht; exact hB⟩, hS.F ht⟩) hS.2.2 hdg hlocks))
theorem nv_kGn {a : Array Value} (hr : va_Run p l e R s m args below meth c H locs cells slots mc ms (F0 m pc ls st0) rest (gQn B A1 a) A1) (hS : va_S A H0 H locs) (hA : ∀ q, A1 q → A q) (k : ∀ (r : Nat) (H1 : Heap) (locs1 : List Loc), B r H1 → (∀ q : Nat, q < H.size → ¬ A1 q → H1[q]? = H[q]?) → va_S A H0 H1 locs1 → W p l e R s m args below meth c H1 locs1 (cells + mc) (slots + ms) Q (F0 m (pc + 3) ls (.ref r :: rest))) : W p l e R s m args below meth c H locs cells slots Q (F0 m pc ls st0) :=
  va_callr hr hS (fun q _ h => hA q h) (fun q h => hA q h) (fun _ r t H1 locs1 ht _ _ hB _ hk hS1 => k r H1 locs1 (by rw [← ht]; exact hB) hk hS1)
theorem nv_retGr2 {rt : FieldType} (hq : ∀ t, MQ below (gQr v P1 A) args s mc ms A t → Q t) (hx : p.tables.exec = Jvm.exec) (hb : c.code = cc) (hr : meth.sig.returnType = some rt) (hrt : (∃ n, rt = .object n) ∨ ∃ t, rt = .array t) (hlocks : meth.locks = false) (hc : cells ≤ mc) (hs : slots ≤ ms) (hS : va_S A s.heap H locs) (hP : P1 H) (hdg : decode cc pc = .ok (.areturn, 1)) : W p l e R s m args below meth c H locs cells slots Q (F0 m pc ls [.ref v]) :=
  W.mono hq (W.widen hc hs (W.aret hx hb hr hrt (Or.inr ⟨_, rfl⟩) (fun t ht _ => ⟨⟨(), v, rfl, trivial, rfl, by subst ht; exact hP⟩, hS.F ht⟩) hS.2.2 hdg hlocks))
theorem nv_kGr2 {a : Array Value} (hr : va_Run p l e R s m args below meth c H locs cells slots mc ms (F0 m pc ls st0) rest (gQr v P1 A1 a) A1) (hS : va_S A H0 H locs) (hA : ∀ q, A1 q → A q) (k : ∀ (H1 : Heap) (locs1 : List Loc), P1 H1 → (∀ q : Nat, q < H.size → ¬ A1 q → H1[q]? = H[q]?) → va_S A H0 H1 locs1 → W p l e R s m args below meth c H1 locs1 (cells + mc) (slots + ms) Q (F0 m (pc + 3) ls (.ref v :: rest))) : W p l e R s m args below meth c H locs cells slots Q (F0 m pc ls st0) :=
  va_callr hr hS (fun q _ h => hA q h) (fun q h => hA q h) (fun _ r t H1 locs1 ht _ _ hB _ hk hS1 => by obtain ⟨e, hB⟩ := hB; subst e; exact k H1 locs1 (by rw [← ht]; exact hB) hk hS1)
theorem nv_retGv2 (hq : ∀ t, MQ below (gQv P1 A) args s mc ms A t → Q t) (hx : p.tables.exec = Jvm.exec) (hb : c.code = cc) (hr : meth.sig.returnType = none) (hlocks : meth.locks = false) (hc : cells ≤ mc) (hs : slots ≤ ms) (hS : va_S A s.heap H locs) (hP : P1 H) (hdg : decode cc pc = .ok (.return_, 1)) : W p l e R s m args below meth c H locs cells slots Q (F0 m pc ls []) :=
  W.mono hq (W.widen hc hs (W.vret hx hb hr (fun t ht _ => ⟨⟨(), rfl, trivial, by subst ht; exact hP⟩, hS.F ht⟩) hS.2.2 hdg hlocks))
end GQN
def sbW (cB : ClassId) (a b m : Nat) (F : Nat → Nat) (n : Nat) : va_W := [(a, .inr (9, [.ref b, .int (nI 0), .int (nI 0), .int (nI n)])), (b, .inl (cB, m, .inl (gN F)))]
/-- a StringBuilder with the letters L -/
def sbP (D : va_G) (cB : ClassId) (n0 a : Nat) (L : List Nat) (H : Heap) : Prop := ∃ (b m : Nat) (F : Nat → Nat), va_P D vwCl (sbW cB a b m F L.length) H ∧ a ≠ b ∧ n0 ≤ a ∧ n0 ≤ b ∧ L.length ≤ m ∧ m ≤ 150 ∧ (∀ j, F j < 128) ∧ ∀ j, j < L.length → F j = L.getD j 0
/-- room for q letters is made -/
def sbC (D : va_G) (cB : ClassId) (n0 a n m0 : Nat) (F0 : Nat → Nat) (q : Nat) (H : Heap) : Prop := ∃ (b m : Nat) (F : Nat → Nat), va_P D vwCl (sbW cB a b m F n) H ∧ a ≠ b ∧ n0 ≤ b ∧ q ≤ m ∧ m0 ≤ m ∧ m ≤ 150 ∧ (∀ j, F j < 128) ∧ ∀ j, j < m0 → F j = F0 j
/-- a String with the letters L -/
def stP (D : va_G) (cB : ClassId) (n0 : Nat) (L : List Nat) (r : Nat) (H : Heap) : Prop := ∃ (v : Nat) (F : Nat → Nat), va_P D vwCl [(r, .inr (0, [.ref v, .int (nI 0), .int (nI 0), .int (nI 0)])), (v, .inl (cB, L.length, .inl (gN F)))] H ∧ n0 ≤ r ∧ n0 ≤ v ∧ ∀ j, j < L.length → F j = L.getD j 0
theorem va_cpy_lt {F G : Nat → Nat} {i j n b : Nat} (hF : ∀ k, F k < b) (hG : ∀ k, G k < b) : ∀ k, va_cpy F G i j n k < b := by
  intro k
  unfold va_cpy
  split
  · exact hF _
  · exact hG _
theorem va_up_lt {F : Nat → Nat} {i v b : Nat} (hF : ∀ k, F k < b) (hv : v < b) : ∀ k, va_up F i v k < b := by
  intro k
  unfold va_up
  split
  · exact hv
  · exact hF _
theorem fit_byte {c : Nat} (h : c < 128) : fits .byte (.int (nI c)) = true := by
  have key : ∀ c, c < 128 → fits .byte (.int (nI c)) = true := by decide +kernel
  exact key c h
theorem nar_byte {c : Nat} (h : c < 128) : vp_nar .byte (nI c) = nI c := by
  have key : ∀ c, c < 128 → vp_nar .byte (nI c) = nI c := by decide +kernel
  exact key c h
theorem getD_app_l {L M : List Nat} {j : Nat} (h : j < L.length) : (L ++ M).getD j 0 = L.getD j 0 := by
  rw [List.getD_eq_getElem?_getD, List.getD_eq_getElem?_getD, List.getElem?_append_left h]
theorem getD_app_r {L M : List Nat} {j : Nat} (h : L.length ≤ j) : (L ++ M).getD j 0 = M.getD (j - L.length) 0 := by
  rw [List.getD_eq_getElem?_getD, List.getD_eq_getElem?_getD, List.getElem?_append_right h]
