/-! the class's house: counters, governed cases, the keys' declensions and genders, endings, doors -/
abbrev hS : Type := (Nat → Nat) × (Nat → Nat) × (Nat → Nat) × (Nat → Nat) × (Nat → Nat) × (Nat → Nat → Nat)
abbrev hs_c (u : hS) : Nat → Nat := u.1
abbrev hs_g (u : hS) : Nat → Nat := u.2.1
abbrev hs_kd (u : hS) : Nat → Nat := u.2.2.1
abbrev hs_kg (u : hS) : Nat → Nat := u.2.2.2.1
abbrev hs_e (u : hS) : Nat → Nat := u.2.2.2.2.1
abbrev hs_d (u : hS) : Nat → Nat → Nat := u.2.2.2.2.2
abbrev hu_c (u : hS) (k v : Nat) : hS := (va_up u.1 k v, u.2)
abbrev hu_g (u : hS) (k v : Nat) : hS := (u.1, va_up u.2.1 k v, u.2.2)
abbrev hu_kd (u : hS) (k v : Nat) : hS := (u.1, u.2.1, va_up u.2.2.1 k v, u.2.2.2)
abbrev hu_kg (u : hS) (k v : Nat) : hS := (u.1, u.2.1, u.2.2.1, va_up u.2.2.2.1 k v, u.2.2.2.2)
abbrev hu_e (u : hS) (k v : Nat) : hS := (u.1, u.2.1, u.2.2.1, u.2.2.2.1, va_up u.2.2.2.2.1 k v, u.2.2.2.2.2)
/-- door i told anew by f -/
def hu_f (F : Nat → Nat → Nat) (i : Nat) (f : Nat → Nat) : Nat → Nat → Nat := fun j => if j = i then f else F j
abbrev hu_d (u : hS) (i : Nat) (f : Nat → Nat) : hS := (u.1, u.2.1, u.2.2.1, u.2.2.2.1, u.2.2.2.2.1, hu_f u.2.2.2.2.2 i f)
/-- a door's cell: declension, gender, number, rooms, threshold, wrong knocks, knocks, latch, open -/
def dc (f : Nat → Nat) : va_E := .inr (2, [.int (nI (f 0)), .int (nI (f 1)), .int (nI (f 2)), .int (nI (f 3)), .int (nI (f 4)), .int (nI (f 5) - nI 1), .int (nI (f 6)), .int (nI (f 7)), .int (nI (f 8)), .int (nI (f 9))])
def hw (cI cD : ClassId) (ad : Nat → Nat) (u : hS) : va_W :=
  [(ad 0, .inr (3, [.ref (ad 1), .ref (ad 2), .ref (ad 3), .ref (ad 4), .ref (ad 5), .int (nI (hs_c u 0)), .int (nI (hs_c u 1)), .int (nI (hs_c u 2)), .int (nI (hs_c u 3)), .int (nI (hs_c u 4)), .int (nI (hs_c u 5)), .int (nI (hs_c u 6))])),
   (ad 1, .inl (cD, 8, .inr (.inr (.inr (.inr (fun i => some (ad (6 + i)))))))), (ad 2, .inl (cI, 6, .inl (gN (hs_g u)))), (ad 3, .inl (cI, 5, .inl (gN (hs_kd u)))), (ad 4, .inl (cI, 5, .inl (gN (hs_kg u)))), (ad 5, .inl (cI, 24, .inl (gN (hs_e u)))),
   (ad 6, dc (hs_d u 0)), (ad 7, dc (hs_d u 1)), (ad 8, dc (hs_d u 2)), (ad 9, dc (hs_d u 3)), (ad 10, dc (hs_d u 4)), (ad 11, dc (hs_d u 5)), (ad 12, dc (hs_d u 6)), (ad 13, dc (hs_d u 7))]
theorem hw_at {cI cD : ClassId} {ad : Nat → Nat} {u : hS} (i : Nat) (h : i < 8) : (hw cI cD ad u)[6 + i]? = some (ad (6 + i), dc (hs_d u i)) := by
  rcases (show i = 0 ∨ i = 1 ∨ i = 2 ∨ i = 3 ∨ i = 4 ∨ i = 5 ∨ i = 6 ∨ i = 7 by omega) with rfl | rfl | rfl | rfl | rfl | rfl | rfl | rfl <;> rfl
theorem hw_put {D : va_G} {cl : List vw_C} {H : Heap} {cI cD : ClassId} {ad : Nat → Nat} {u : hS} {f : Nat → Nat} (i : Nat) (h : i < 8) (hP : va_P D cl ((hw cI cD ad u).set (6 + i) (ad (6 + i), dc f)) H) : va_P D cl (hw cI cD ad (hu_d u i f)) H := by
  have e : (hw cI cD ad u).set (6 + i) (ad (6 + i), dc f) = hw cI cD ad (hu_d u i f) := by
    rcases (show i = 0 ∨ i = 1 ∨ i = 2 ∨ i = 3 ∨ i = 4 ∨ i = 5 ∨ i = 6 ∨ i = 7 by omega) with rfl | rfl | rfl | rfl | rfl | rfl | rfl | rfl <;> rfl
  rw [← e]; exact hP
theorem hw_fst {cI cD : ClassId} {ad : Nat → Nat} {u v : hS} : (hw cI cD ad u).map Prod.fst = (hw cI cD ad v).map Prod.fst := rfl
/-- the class's house is the house G: what is beyond its counts may be anything -/
def hRel (u : hS) (G : Nat → Nat) : Prop :=
  (hs_c u 0 = G 0 ∧ hs_c u 1 = G 1 ∧ hs_c u 2 = G 2 ∧ hs_c u 3 = G 4 ∧ hs_c u 4 = G 5 ∧ hs_c u 5 = G 6 ∧ hs_c u 6 = G 7) ∧ (∀ k, k < 24 → hs_e u k = G (8 + k)) ∧ (∀ t, t < G 1 → hs_g u t = G (112 + t)) ∧ (∀ k, k < G 2 → hs_kd u k = G (118 + k) ∧ hs_kg u k = G (123 + k)) ∧
  (∀ d, d < G 0 → hs_d u d 0 = G (32 + d) ∧ hs_d u d 1 = G (40 + d) ∧ hs_d u d 2 = G (48 + d) ∧ hs_d u d 3 = G (88 + d) ∧ hs_d u d 4 = G (96 + d) ∧ hs_d u d 5 = G (56 + d) ∧ hs_d u d 6 = G (64 + d) ∧ hs_d u d 7 = G (104 + d) ∧ hs_d u d 8 = G (72 + d) ∧ hs_d u d 9 = G (80 + d))
section HR
variable {u : hS} {G : Nat → Nat}
theorem hRel.c0 (h : hRel u G) : hs_c u 0 = G 0 := h.1.1
theorem hRel.c1 (h : hRel u G) : hs_c u 1 = G 1 := h.1.2.1
theorem hRel.c2 (h : hRel u G) : hs_c u 2 = G 2 := h.1.2.2.1
theorem hRel.c3 (h : hRel u G) : hs_c u 3 = G 4 := h.1.2.2.2.1
theorem hRel.c4 (h : hRel u G) : hs_c u 4 = G 5 := h.1.2.2.2.2.1
theorem hRel.c5 (h : hRel u G) : hs_c u 5 = G 6 := h.1.2.2.2.2.2.1
theorem hRel.c6 (h : hRel u G) : hs_c u 6 = G 7 := h.1.2.2.2.2.2.2
theorem hRel.e (h : hRel u G) {k : Nat} (hk : k < 24) : hs_e u k = G (8 + k) := h.2.1 k hk
theorem hRel.g (h : hRel u G) {t : Nat} (ht : t < G 1) : hs_g u t = G (112 + t) := h.2.2.1 t ht
theorem hRel.kd (h : hRel u G) {k : Nat} (hk : k < G 2) : hs_kd u k = G (118 + k) := (h.2.2.2.1 k hk).1
theorem hRel.kg (h : hRel u G) {k : Nat} (hk : k < G 2) : hs_kg u k = G (123 + k) := (h.2.2.2.1 k hk).2
theorem hRel.d0 (h : hRel u G) {d : Nat} (hd : d < G 0) : hs_d u d 0 = G (32 + d) := (h.2.2.2.2 d hd).1
theorem hRel.d1 (h : hRel u G) {d : Nat} (hd : d < G 0) : hs_d u d 1 = G (40 + d) := (h.2.2.2.2 d hd).2.1
theorem hRel.d2 (h : hRel u G) {d : Nat} (hd : d < G 0) : hs_d u d 2 = G (48 + d) := (h.2.2.2.2 d hd).2.2.1
theorem hRel.d3 (h : hRel u G) {d : Nat} (hd : d < G 0) : hs_d u d 3 = G (88 + d) := (h.2.2.2.2 d hd).2.2.2.1
theorem hRel.d4 (h : hRel u G) {d : Nat} (hd : d < G 0) : hs_d u d 4 = G (96 + d) := (h.2.2.2.2 d hd).2.2.2.2.1
theorem hRel.d5 (h : hRel u G) {d : Nat} (hd : d < G 0) : hs_d u d 5 = G (56 + d) := (h.2.2.2.2 d hd).2.2.2.2.2.1
theorem hRel.d6 (h : hRel u G) {d : Nat} (hd : d < G 0) : hs_d u d 6 = G (64 + d) := (h.2.2.2.2 d hd).2.2.2.2.2.2.1
theorem hRel.d7 (h : hRel u G) {d : Nat} (hd : d < G 0) : hs_d u d 7 = G (104 + d) := (h.2.2.2.2 d hd).2.2.2.2.2.2.2.1
theorem hRel.d8 (h : hRel u G) {d : Nat} (hd : d < G 0) : hs_d u d 8 = G (72 + d) := (h.2.2.2.2 d hd).2.2.2.2.2.2.2.2.1
theorem hRel.d9 (h : hRel u G) {d : Nat} (hd : d < G 0) : hs_d u d 9 = G (80 + d) := (h.2.2.2.2 d hd).2.2.2.2.2.2.2.2.2
end HR
theorem iR_pred {z n : Nat} (h : z ≤ n) (hn : n < 2 ^ 31) : iR (nI z - nI 1) n ↔ ¬ z = 0 := by
  unfold iR
  by_cases h0 : z = 0
  · subst h0
    have e : (nI 0 - nI 1).toInt = -1 := by decide
    rw [e]
    constructor
    · intro q; omega
    · intro q; omega
  · rw [pk_sub (by omega), nI_toInt (by omega)]
    constructor
    · intro _; exact h0
    · intro _; omega
/-- the claim's literals that are looked into: oig sd OSAL aeiou and the nine patterns -/
def sByt : List (List Int32) := [[111, 105, 103], [115, 100], [79, 83, 65, 76], [97, 101, 105, 111, 117], [100, 111, 111, 114, 35, 71, 78, 35, 35], [115, 105, 108, 108, 67], [103, 111, 118, 101, 114, 110, 35, 67], [115, 101, 116, 35, 64, 84], [101, 110, 100, 35, 67, 78, 61, 69], [107, 101, 121, 35, 71], [107, 110, 111, 99, 107, 35, 58, 71, 78, 67], [115, 104, 117, 116, 35], [102, 114, 101, 101, 35, 62, 35]]
def sLen : List Nat := [3, 2, 4, 5, 9, 5, 8, 6, 8, 5, 10, 5, 7]
def sRf : List (String × Nat × String × Nat) := [(RX1, 60, "aeiou", 3), (RX1, 108, "oig", 0), (RX1, 113, "sd", 1), (RX2, 70, "door#GN##", 4), (RX2, 72, "sillC", 5), (RX2, 74, "govern#C", 6), (RX2, 76, "set#@T", 7), (RX2, 78, "end#CN=E", 8), (RX2, 80, "key#G", 9), (RX2, 82, "knock#:GNC", 10), (RX2, 84, "shut#", 11), (RX2, 86, "free#>#", 12), (RX2, 96, "oig", 0), (RX2, 102, "sd", 1), (RX2, 104, "OSAL", 2)]
def nN : List nL := [(RX1, 78, yX6_isBelow, RX6), (RX5, 32, yX6_isBelow, RX6), (RX1, 30, yX0_init, RX6), (RX6, 28, yX5_init, RX6), (RX6, 35, yX4_init, RX6), (RX6, 42, yX2_init, RX6)]
abbrev sA : Type := (Nat → Nat) × (Nat → Nat)
/-- statics that are read: strings are compact, what a failed index would be told by, what a new exception takes -/
def kG (A : Nat → Prop) (U : State) (H : Heap) : Prop := va_Z "java/lang/String" "COMPACT_STRINGS" "Z" (.int 1) A U H ∧ va_Zq "jdk/internal/util/Preconditions" "SIOOBE_FORMATTER" "Ljava/util/function/BiFunction;" A U H ∧ vx_Zq Bundle.tN "UNASSIGNED_STACK" Bundle.steD A U H ∧ vx_Zq Bundle.tN "SUPPRESSED_SENTINEL" Bundle.listD A U H
theorem kG.moved {A : Nat → Prop} {u U : State} {H : Heap} (hvm : u.vm.Alike U.vm) (h : kG A u H) : kG A U H := ⟨va_Z.moved hvm h.1, va_Zq.moved hvm h.2.1, vx_Zq.moved hvm h.2.2.1, vx_Zq.moved hvm h.2.2.2⟩
theorem kG.kept {A : Nat → Prop} {U : State} {H H1 : Heap} (h : kG A U H) (hq : ∀ a : Nat, a < H.size → ¬ A a → H1[a]? = H[a]?) : kG A U H1 := ⟨h.1.kept hq, h.2.1.kept hq, h.2.2.1.kept hq, h.2.2.2.kept hq⟩
theorem kG.narrow {A B : Nat → Prop} {U : State} {H : Heap} (h : kG A U H) (hAB : ∀ q, B q → A q) : kG B U H := ⟨h.1.narrow hAB, h.2.1.narrow hAB, h.2.2.1.narrow hAB, h.2.2.2.narrow hAB⟩
/-- the texts of what is thrown -/
def sMs : List (Nat × String) := [(170, "a door has no such number"), (184, "there is no such threshold"), (194, "a threshold has no such number"), (196, "there is no such declension or case"), (241, "there is no such gender or case"), (265, "there is no way"), (276, "no door leads to one room more"), (278, "there is no such measure"), (283, "there is no such place"), (312, "the line has no such index"), (320, "nothing was refused"), (347, "there is no such account"), (351, "there are no doors"), (357, "there were no knocks"), (359, "a byte is not from 32 to 126"), (361, "there would be too many characters"), (375, "the input is malformed"), (392, "an order is refused"), (398, "no input was malformed"), (400, "no input was refused"), (402, "there is no change that can be undone"), (407, "there is no snapshot"), (413, "there is no such door"), (415, "there is no such room"), (417, "there is no such declension"), (419, "there is nothing such"), (421, "there is nothing of that number"), (423, "it is refused")]
/-- what is thrown -/
def xNs : List String := ["java/lang/IllegalArgumentException", "java/lang/IndexOutOfBoundsException", "java/lang/UnsupportedOperationException", "java/util/NoSuchElementException", "java/lang/IllegalStateException", "java/lang/ArithmeticException"]
def xDs : List MethodName := [Bundle.initS "java/lang/RuntimeException", Bundle.initS "java/lang/Exception", Bundle.initS Bundle.tN]
/-- the static facts of the class's methods: classes, nest mates, string constants -/
def kT (D : va_G) (tys : List (ClassId × FieldType)) (N : List nL) (sa : sA) (A : Nat → Prop) (U : State) (H : Heap) : Prop := kS D tys N U ∧ vk_S 13 sLen sByt sa.1 sa.2 A U H ∧ (∀ q ∈ sRf, vk_R q.1 q.2.1 q.2.2.1 (sa.1 q.2.2.2) U) ∧ kG A U H ∧ (∀ q ∈ sMs, ∃ a, vk_R RX6 q.1 q.2 a U) ∧ (∀ X ∈ xNs, va_Nw (.castable X X) U) ∧ (∀ x ∈ xDs, va_Nw (.declares x) U) ∧ va_AO RX0 U ∧ va_AO RX1 U
def tPre (D : va_G) (tys : List (ClassId × FieldType)) (N : List nL) (sa : sA) (A : Nat → Prop) (P : Heap → Prop) : State → Prop := fun U => P U.heap ∧ kT D tys N sa A U U.heap
theorem kT.narrow {D : va_G} {tys : List (ClassId × FieldType)} {N : List nL} {sa : sA} {A B : Nat → Prop} {U : State} {H : Heap} (h : kT D tys N sa A U H) (hAB : ∀ q, B q → A q) : kT D tys N sa B U H := ⟨h.1, h.2.1.narrow hAB, h.2.2.1, h.2.2.2.1.narrow hAB, h.2.2.2.2⟩
theorem kT.ms {D : va_G} {tys : List (ClassId × FieldType)} {N : List nL} {sa : sA} {A : Nat → Prop} {U : State} {H : Heap} (h : kT D tys N sa A U H) (k : Nat) (t : String) (hm : (k, t) ∈ sMs) : ∃ a, vk_R RX6 k t a U := h.2.2.2.2.1 _ hm
section KT
variable {s : State} {D : va_G} {tys : List (ClassId × FieldType)} {N : List nL} {sa : sA} {A : Nat → Prop} {H : Heap} {locs : List Loc} {P : Heap → Prop} {As : List Value} {C : String} {b : Addr}
theorem kT.call {U : State} {g : JFrame} {mk : MethodId} {a : Array Value} {H : Heap} (h : kT D tys N sa A U H) : kT D tys N sa A (U.calling g mk a) H := ⟨h.1.call, vk_S.moved (u := U) (U := U.calling g mk a) (Vm.Alike.refl U.vm) h.2.1, fun q hq => vk_R.same (u := U) (U := U.calling g mk a) rfl (h.2.2.1 q hq), kG.moved (u := U) (U := U.calling g mk a) (Vm.Alike.refl U.vm) h.2.2.2.1, fun q hq => (h.2.2.2.2.1 q hq).elim (fun z hz => ⟨z, vk_R.same (u := U) (U := U.calling g mk a) rfl hz⟩), fun q hq => va_Nw.same rfl (u := U) (U := U.calling g mk a) rfl (h.2.2.2.2.2.1 q hq), fun q hq => va_Nw.same rfl (u := U) (U := U.calling g mk a) rfl (h.2.2.2.2.2.2.1 q hq), va_AO.moved (u := U) (U := U.calling g mk a) (Vm.Alike.refl U.vm) h.2.2.2.2.2.2.2.1, va_AO.moved (u := U) (U := U.calling g mk a) (Vm.Alike.refl U.vm) h.2.2.2.2.2.2.2.2⟩
theorem tPre_blind : FrameBlind (va_Pc As (tPre D tys N sa A P)) := fun _ _ _ _ h => ⟨h.1, h.2.1, h.2.2.call⟩
theorem kT.go {U : State} (h : kT D tys N sa A s s.heap) (hS : va_S A s.heap H locs) (hU : U.heap = H) (hW : s.WarmedH U.vm) : kT D tys N sa A U U.heap := by
  rw [hU]
  exact ⟨h.1.warm hW, vk_S.moved hW.alike (vk_S.kept h.2.1 (fun a h1 h2 => hS.2.1 a h1 h2)), fun q hq => vk_R.warm hW (h.2.2.1 q hq), kG.moved hW.alike (h.2.2.2.1.kept (fun a h1 h2 => hS.2.1 a h1 h2)), fun q hq => (h.2.2.2.2.1 q hq).elim (fun z hz => ⟨z, vk_R.warm hW hz⟩), fun q hq => va_Nw.warmC hW (h.2.2.2.2.2.1 q hq), fun q hq => va_Nw.warmD hW (h.2.2.2.2.2.2.1 q hq), va_AO.moved hW.alike h.2.2.2.2.2.2.2.1, va_AO.moved hW.alike h.2.2.2.2.2.2.2.2⟩
theorem nt_pS (hT : kT D tys N sa A s s.heap) (hS : va_S A s.heap H locs) (hP : P H) : PreS s H (va_Pc As (tPre D tys N sa A P)) As := ⟨tPre_blind, fun U hU hW => ⟨rfl, by rw [hU]; exact hP, kT.go hT hS hU hW⟩⟩
theorem nt_pV (hT : kT D tys N sa A s s.heap) (hS : va_S A s.heap H locs) (hP : P H) (hr : ∃ cell : Cell, H[b]? = some cell ∧ cell.vm.isStatics = false ∧ s.vm.findClass C = some cell.cls) : PreV s H C b (va_Pc (.ref b :: As) (tPre D tys N sa A P)) As := ⟨tPre_blind, hr, fun U hU hW => ⟨rfl, by rw [hU]; exact hP, kT.go hT hS hU hW⟩⟩
end KT
section NA
variable {p : Program} {l : Launch} {e : Env} {R : Room} {s : State} {m : MethodId} {args : Array Value} {below : List Frame} {meth : Method} {c : Code} {H : Heap} {locs : List Loc} {cells slots : Nat} {Q : State → Prop}
variable {cc : ByteArray} {pc : Nat} {ls : Array Slot} {rest : List Value} {D : va_G} {cl : List vw_C} {ws : va_W} {tys : List (ClassId × FieldType)}
/-- a ref out of an array of refs -/
theorem nv_aldq (hx : p.tables.exec = Jvm.exec) (hb : c.code = cc) (hK : va_K D cl tys s) (hP : va_P D cl ws H) (q0 t0 : Nat) {a : Nat} {cA : ClassId} {C : String} {n : Nat} {f : Nat → Option Nat} (ha : ws[q0]? = some (a, .inl (cA, n, .inr (.inr (.inr (.inr f)))))) (ht : tys[t0]? = some (cA, .object C)) {i : Nat} (hi : i < n) (hn : n < 2 ^ 31) (hdg : decode cc pc = .ok (.aaload, 1))
    (kk : W p l e R s m args below meth c H locs cells slots Q (F0 m (pc + 1) ls (va_rf (f i) :: rest))) : W p l e R s m args below meth c H locs cells slots Q (F0 m pc ls (.int (nI i) :: .ref a :: rest)) := by
  refine va_aldq hx hb hK hP q0 t0 ha ht (vp_in_nI hi hn) hdg ?_
  rw [nI_clamp (by omega)]
  exact kk
end NA
