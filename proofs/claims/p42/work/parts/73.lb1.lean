/-! the law's static facts: bytes, its literals, exceptions of which neither is another -/
def lRf : List (Nat × String × List Nat) := [(94, "", []), (99, "oig", [111, 105, 103]), (124, "end0Sd=", [101, 110, 100, 48, 83, 100, 61]), (126, ";end0Sd=", [59, 101, 110, 100, 48, 83, 100, 61]), (148, "knock9:osO", [107, 110, 111, 99, 107, 57, 58, 111, 115, 79]), (150, "sx", [115, 120]), (156, "door0os1", [100, 111, 111, 114, 48, 111, 115, 49]), (158, "set0@x", [115, 101, 116, 48, 64, 120]), (160, "kx", [107, 120]), (162, "sillA;", [115, 105, 108, 108, 65, 59]), (164, "knock0:ox", [107, 110, 111, 99, 107, 48, 58, 111, 120]), (166, "free0", [102, 114, 101, 101, 48]), (168, "end0Os=A", [101, 110, 100, 48, 79, 115, 61, 65]), (170, "key0o1", [107, 101, 121, 48, 111, 49]), (172, "z", [122]), (177, "aiue/eoai", [97, 105, 117, 101, 47, 101, 111, 97, 105]), (197, "0", [48]), (199, "s01;door0", [115, 48, 49, 59, 100, 111, 111, 114, 48]), (201, "s12;sillL;set1@0;key0", [115, 49, 50, 59, 115, 105, 108, 108, 76, 59, 115, 101, 116, 49, 64, 48, 59, 107, 101, 121, 48]), (206, "sa0-1", [115, 97, 48, 45, 49]), (208, "se1-2@0", [115, 101, 49, 45, 50, 64, 48]), (246, "/", [47]), (248, "aeiou", [97, 101, 105, 111, 117])]
def xC3 : List String := ["java/lang/IllegalArgumentException", "java/lang/IndexOutOfBoundsException", "java/lang/UnsupportedOperationException"]
def lX (D : va_G) (cB : ClassId) (A : Nat → Prop) (U : State) (H : Heap) : Prop := bK D cB U ∧ (∀ a ∈ xC3, ∀ b ∈ xC3, a ≠ b → va_Nc a b U) ∧ ∀ q ∈ lRf, ∃ r v : Nat, vk_R RL q.1 q.2.1 r U ∧ tx A (r, v, q.2.2) U H
theorem lX.call {D : va_G} {cB : ClassId} {A : Nat → Prop} {U : State} {H : Heap} {g : JFrame} {mk : MethodId} {a : Array Value} (h : lX D cB A U H) : lX D cB A (U.calling g mk a) H := ⟨h.1.call, fun a ha b hb hn => va_Nc.moved (Vm.Alike.refl _) (h.2.1 a ha b hb hn), fun q hq => by
  obtain ⟨r, v, h1, h2⟩ := h.2.2 q hq
  exact ⟨r, v, vk_R.same (u := U) rfl h1, h2.moved (Vm.Alike.refl _)⟩⟩
theorem lX.go {D : va_G} {cB : ClassId} {A A1 : Nat → Prop} {s U : State} {H : Heap} {locs : List Loc} (h : lX D cB A s s.heap) (hS : va_S A s.heap H locs) (hA : ∀ q, A1 q → A q) (hW : s.WarmedH U.vm) : lX D cB A1 U H := ⟨h.1.warm hW, fun a ha b hb hn => va_Nc.moved hW.alike (h.2.1 a ha b hb hn), fun q hq => by
  obtain ⟨r, v, h1, h2⟩ := h.2.2 q hq
  exact ⟨r, v, vk_R.warm hW h1, (h2.go hS hA).moved hW.alike⟩⟩
def lPre (D : va_G) (tys : List (ClassId × FieldType)) (N : List nL) (sa : sA) (A : Nat → Prop) (cB : ClassId) (P : Heap → Prop) (tl : List tQ) : State → Prop := fun U => P U.heap ∧ kT D tys N sa A U U.heap ∧ lX D cB A U U.heap ∧ ∀ q ∈ tl, tx A q U U.heap
section LPRE
variable {s : State} {D : va_G} {tys : List (ClassId × FieldType)} {N : List nL} {sa : sA} {A A1 : Nat → Prop} {H : Heap} {locs : List Loc} {P : Heap → Prop} {As : List Value} {cB : ClassId} {tl : List tQ}
theorem lPre_blind : FrameBlind (va_Pc As (lPre D tys N sa A cB P tl)) := fun _ _ _ _ h => ⟨h.1, h.2.1, h.2.2.1.call, h.2.2.2.1.call, fun q hq => tx.moved (Vm.Alike.refl _) (h.2.2.2.2 q hq)⟩
theorem nl_pS (hT : kT D tys N sa A s s.heap) (hX : lX D cB A s s.heap) (htl : ∀ q ∈ tl, tx A1 q s H) (hS : va_S A s.heap H locs) (hA : ∀ q, A1 q → A q) (hP : P H) : PreS s H (va_Pc As (lPre D tys N sa A1 cB P tl)) As := ⟨lPre_blind, fun U hU hW => ⟨rfl, by rw [hU]; exact hP, (kT.go hT hS hU hW).narrow hA, by rw [hU]; exact hX.go hS hA hW, fun q hq => by rw [hU]; exact (htl q hq).moved hW.alike⟩⟩
end LPRE
section LPS
variable {p : Program} {l : Launch} {e : Env} {R : Room} {s : State} {m : MethodId} {args : Array Value} {below : List Frame} {meth : Method} {c : Code} {H : Heap} {locs : List Loc} {cells slots : Nat} {Q : State → Prop}
variable {cc : ByteArray} {pc : Nat} {ls : Array Slot} {rest : List Value} {E own : String}
/-- rows of a table that don't stand over pc, or take what is not E -/
abbrev psT (args : Array Value) (s : State) (own E : String) (pc : Nat) (z : ExceptionTableEntry) : Prop := covers z pc = false ∨ (z.catchType ≠ 0 ∧ ∃ nm : String, (Cond.classLink own z.catchType nm).before args s = true ∧ va_Nc E nm s)
theorem ps_app {a b : List ExceptionTableEntry} (h1 : ∀ z ∈ a, psT args s own E pc z) (h2 : ∀ z ∈ b, psT args s own E pc z) : ∀ z ∈ a ++ b, psT args s own E pc z := List.forall_mem_append.mpr ⟨h1, h2⟩
theorem ps_no {a : List ExceptionTableEntry} (h : a.all (fun z => !covers z pc) = true) : ∀ z ∈ a, psT args s own E pc z := fun z hz => Or.inl ((Bool.not_eq_true' _).mp (List.all_eq_true.mp h z hz))
theorem ps_cl {a : List ExceptionTableEntry} {k : Nat} {nm : String} (h : a.all (fun z => z.catchType == k) = true) (h0 : k ≠ 0) (hl : (Cond.classLink own k nm).before args s = true) (hn : va_Nc E nm s) : ∀ z ∈ a, psT args s own E pc z := fun z hz => Or.inr (by
  have : z.catchType = k := by simpa using List.all_eq_true.mp h z hz
  rw [this]
  exact ⟨h0, nm, hl, hn⟩)
/-- whether an int is 1, as an int -/
theorem nv_eq1 {x : Int32} (hx : p.tables.exec = Jvm.exec) (hb : c.code = cc) (d0 : decode cc pc = .ok (.if_icmp .ne 7, 3)) (d1 : decode cc (pc + 3) = .ok (.iconst 1, 1)) (d2 : decode cc (pc + 3 + 1) = .ok (.goto 4, 3)) (d3 : decode cc (pc + 7) = .ok (.iconst 0, 1))
    (k : W p l e R s m args below meth c H locs cells slots Q (F0 m (pc + 8) ls (.int (nI (bI (x = nI 1))) :: rest))) : W p l e R s m args below meth c H locs cells slots Q (F0 m pc ls (.int (nI 1) :: .int x :: rest)) := by
  refine lv_icmp_ne (tgt := pc + 7) hx hb d0 (by omega) (fun h => ?_) (fun h => ?_)
  · rw [bI_f h] at k
    exact lv_iconst (v := nI 0) hx hb d3 (by decide) k
  · rw [bI_t h] at k
    exact lv_iconst (v := nI 1) hx hb d1 (by decide) (lv_goto (tgt := pc + 8) hx hb d2 (by omega) k)
end LPS
/-- the printed words of act and of what calls it lack two classes of its handlers: they stand in the tables -/
def aW : List Cond := [.classLink RL 77 "java/lang/IllegalArgumentException", .classLink RL 79 "java/lang/IndexOutOfBoundsException"]
theorem goodIn_m {a b ws : List Cond} (h : GoodIn a ws) (hm : ∀ w ∈ a, w ∈ b) : GoodIn b ws := fun w hw => ⟨hm w (h w hw).1, (h w hw).2⟩
def wsM_act : List Cond := wsL_act ++ aW
def wsM_build : List Cond := wsL_build ++ aW
theorem wsM_a : ∀ w ∈ wsL_act, w ∈ wsM_act := fun _ h => List.mem_append_left _ h
theorem wsM_b : ∀ w ∈ wsL_build, w ∈ wsM_build := fun _ h => List.mem_append_left _ h
theorem ggM_build_L_act : GoodIn wsM_build wsM_act := goodIn_app (goodIn_m ggL_build_L_act wsM_b) (goodIn_sub (fun _ h => List.mem_append_right _ h) (by decide +kernel))
set_option maxRecDepth 100000 in
theorem gM_build_L_act : GoodIn wsM_build (va_wsS RL 30 yL_act wsM_act) := goodIn_app (goodIn_of _ (by decide +kernel)) ggM_build_L_act
/-- what act answers: n: the place of what says that it is refused -/
def aR (v : V) (n : Nat) : Int32 := if v.1 = 0 then v.2.2.2.1 else if v.1 = n then -2 else -3
