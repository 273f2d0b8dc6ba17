/-! a method that returns or throws: th is the throw's number (0: none), ns the classes' names -/
def gQX (th : Nat) (v : Int32) (P1 : Heap → Prop) (A : Nat → Prop) : Array Value → State → Outcome → State → Prop := va_Qi (fun (r : Int32) (_ : Unit) => th = 0 ∧ r = v) (fun _ t => P1 t.heap) A
def gQXv (th : Nat) (P1 : Heap → Prop) (A : Nat → Prop) : Array Value → State → Outcome → State → Prop := va_Qv (fun (_ : Unit) => th = 0) (fun _ t => P1 t.heap) A
def gQXd (th : Nat) (v : UInt64) (P1 : Heap → Prop) (A : Nat → Prop) : Array Value → State → Outcome → State → Prop := va_Qd (fun (r : UInt64) (_ : Unit) => th = 0 ∧ r = v) (fun _ t => P1 t.heap) A
def gQXf (th : Nat) (v : UInt32) (P1 : Heap → Prop) (A : Nat → Prop) : Array Value → State → Outcome → State → Prop := va_Qf (fun (r : UInt32) (_ : Unit) => th = 0 ∧ r = v) (fun _ t => P1 t.heap) A
def xQ (ns : List String) (th : Nat) (P1 : Heap → Prop) (A : Nat → Prop) : String → State → State → Prop := vx_X (fun (_ : Unit) => True) (fun E _ t => ¬ th = 0 ∧ E = ns.getD (th - 1) "" ∧ P1 t.heap) A
section XB
variable {p : Program} {l : Launch} {e : Env} {R : Room} {s : State} {m : MethodId} {args : Array Value} {below : List Frame} {meth : Method} {c : Code} {H : Heap} {locs : List Loc} {cells slots : Nat} {Q : State → Prop}
variable {cc : ByteArray} {pc mc ms mc1 ms1 : Nat} {ls : Array Slot} {rest st0 : List Value} {A A1 : Nat → Prop}
variable {th th2 : Nat} {ns ns2 : List String} {v : Int32} {P1 P2 : Heap → Prop} {Qc : Array Value → State → Outcome → State → Prop} {XC : String → State → State → Prop}
theorem vx_W.mono {Q1 Q2 : State → Prop} {g : JFrame} {q : Addr} (h : ∀ t, Q1 t → Q2 t) (k : vx_W p l e R s m args below meth c H locs cells slots Q1 g q) : vx_W p l e R s m args below meth c H locs cells slots Q2 g q := by
  intro T hT X
  obtain ⟨t, a, b⟩ := k T hT X
  exact ⟨t, a, h t b⟩
theorem nv_metX {l : Launch} {y : MethodName} {ws ws' : List Cond} {rm : Room} {Pre : State → Prop} {Qc : Array Value → State → Outcome → State → Prop} {XC : String → State → State → Prop} {mc ms : Nat} {free : Addr → Prop} {cc : ByteArray} {maxL : Nat} {ret : Option FieldType} {As : List Value} (hy : plainName y.cls = true) (hw : ws = Cond.code y cc maxL ret :: ws') (hl : (lg_sl As).length ≤ maxL)
    (body : ∀ p e s m args below meth c (Q : State → Prop), (∀ t, vx_MQ below Qc XC args s mc ms free t → Q t) → args = As.toArray → nA p s m args meth c cc maxL ret ws y.cls → (∀ x ∈ c.exceptionTable.toList, False) → Pre s → ∀ ls, lv_has ls maxL (lv_args 0 As) →
      W p l e rm s m args below meth c s.heap [] 0 0 Q (F0 m 0 ls [])) : vx_Met l y ws rm (va_Pc As Pre) Qc XC mc ms free := by
  refine vx_ofW (cc := cc) (maxL := maxL) (ret := ret) hy hw ?_
  intro p e s m args below meth c s₁ B hml ht hv
  obtain ⟨rfl, hp⟩ := hv
  have h := body p e s m _ below meth c _ (fun t h => h) rfl ⟨B.exec, B.bytes, B.returns, atoms_spec (ws := ws) B.pre, findClass_of_methodNamed B.named, B.notSynchronized, hml⟩ ht hp _ (lv_entry As (n := maxL) hl)
  rw [lg_entry_eq]
  exact h
theorem nv_retGX {x : Int32} {ty : FieldType} (hq : ∀ t, vx_MQ below (gQX th v P1 A) XC args s mc ms A t → Q t) (hx : p.tables.exec = Jvm.exec) (hb : c.code = cc) (hr : meth.sig.returnType = some ty) (hlocks : meth.locks = false) (hc : cells ≤ mc) (hs : slots ≤ ms) (hn : narrow ty (.int x) = .int x) (h0 : th = 0) (he : x = v) (hS : va_S A s.heap H locs) (hP : P1 H) (hdg : decode cc pc = .ok (.ireturn, 1)) : W p l e R s m args below meth c H locs cells slots Q (F0 m pc ls [.int x]) :=
  W.mono hq (W.widen hc hs (vx_ret (W.zret hx hb hr hn (fun t ht _ => ⟨⟨x, (), rfl, ⟨h0, he⟩, by subst ht; exact hP⟩, hS.F ht⟩) hS.2.2 hdg hlocks)))
theorem nv_retGXv (hq : ∀ t, vx_MQ below (gQXv th P1 A) XC args s mc ms A t → Q t) (hx : p.tables.exec = Jvm.exec) (hb : c.code = cc) (hr : meth.sig.returnType = none) (hlocks : meth.locks = false) (hc : cells ≤ mc) (hs : slots ≤ ms) (h0 : th = 0) (hS : va_S A s.heap H locs) (hP : P1 H) (hdg : decode cc pc = .ok (.return_, 1)) : W p l e R s m args below meth c H locs cells slots Q (F0 m pc ls []) :=
  W.mono hq (W.widen hc hs (vx_ret (W.vret hx hb hr (fun t ht _ => ⟨⟨(), rfl, h0, by subst ht; exact hP⟩, hS.F ht⟩) hS.2.2 hdg hlocks)))
theorem nv_retGXd {x v : UInt64} (hq : ∀ t, vx_MQ below (gQXd th v P1 A) XC args s mc ms A t → Q t) (hx : p.tables.exec = Jvm.exec) (hb : c.code = cc) (hr : meth.sig.returnType = some .double) (hlocks : meth.locks = false) (hc : cells ≤ mc) (hs : slots ≤ ms) (h0 : th = 0) (he : x = v) (hS : va_S A s.heap H locs) (hP : P1 H) (hdg : decode cc pc = .ok (.dreturn, 1)) : W p l e R s m args below meth c H locs cells slots Q (F0 m pc ls [.double x]) :=
  W.mono hq (W.widen hc hs (vx_ret (W.dret hx hb hr (fun t ht _ => ⟨⟨x, (), rfl, ⟨h0, he⟩, by subst ht; exact hP⟩, hS.F ht⟩) hS.2.2 hdg hlocks)))
theorem nv_retGXf {x v : UInt32} (hq : ∀ t, vx_MQ below (gQXf th v P1 A) XC args s mc ms A t → Q t) (hx : p.tables.exec = Jvm.exec) (hb : c.code = cc) (hr : meth.sig.returnType = some .float) (hlocks : meth.locks = false) (hc : cells ≤ mc) (hs : slots ≤ ms) (h0 : th = 0) (he : x = v) (hS : va_S A s.heap H locs) (hP : P1 H) (hdg : decode cc pc = .ok (.freturn, 1)) : W p l e R s m args below meth c H locs cells slots Q (F0 m pc ls [.float x]) :=
  W.mono hq (W.widen hc hs (vx_ret (W.fret hx hb hr (fun t ht _ => ⟨⟨x, (), rfl, ⟨h0, he⟩, by subst ht; exact hP⟩, hS.F ht⟩) hS.2.2 hdg hlocks)))
theorem nv_retGr {v : Nat} {n : String} (hq : ∀ t, MQ below (gQr v P1 A) args s cells slots A t → Q t) (hx : p.tables.exec = Jvm.exec) (hb : c.code = cc) (hr : meth.sig.returnType = some (.object n)) (hlocks : meth.locks = false) (hS : va_S A s.heap H locs) (hP : P1 H) (hdg : decode cc pc = .ok (.areturn, 1)) : W p l e R s m args below meth c H locs cells slots Q (F0 m pc ls [.ref v]) :=
  W.mono hq (W.aret hx hb hr (Or.inl ⟨_, rfl⟩) (Or.inr ⟨_, rfl⟩) (fun t ht _ => ⟨⟨(), v, rfl, trivial, rfl, by subst ht; exact hP⟩, hS.F ht⟩) hS.2.2 hdg hlocks)
/-- what an exception's way out owes -/
theorem nv_outX {E : String} {ce : Cell} {q9 : Addr} (hq : ∀ t, vx_MQ below Qc (xQ ns2 th2 P2 A) args s mc ms A t → Q t) (hout : ∀ x ∈ c.exceptionTable.toList, False) (hlocks : meth.locks = false) (hS : va_S A s.heap H locs) (h0 : ¬ th2 = 0) (hE : E = ns2.getD (th2 - 1) "") (hP : P2 H) (hc : cells ≤ mc) (hs : slots ≤ ms) (hcell : H[q9]? = some ce) (hv : ce.vm = .none) (hcl : s.vm.findClass E = some ce.cls) : vx_W p l e R s m args below meth c H locs cells slots Q (F0 m pc ls rest) q9 :=
  vx_W.mono hq (vx_out (fun x hx => (hout x hx).elim) hlocks hcell hv hcl (fun t ht _ => ⟨(), trivial, ⟨h0, hE, by rw [ht]; exact hP⟩, hS.F ht⟩) hS.2.2 hc hs)
/-- behind a call that may throw: what it throws goes on -/
theorem nv_kGX {a : Array Value} (hr : vx_Run p l e R s m args below meth c H locs cells slots mc1 ms1 (F0 m pc ls st0) rest (gQX th v P1 A1 a) (xQ ns th P1 A1) A1) (hS : va_S A s.heap H locs) (hA : ∀ q, A1 q → A q) (hq : ∀ t, vx_MQ below Qc (xQ ns2 th2 P2 A) args s mc ms A t → Q t) (hout : ∀ x ∈ c.exceptionTable.toList, False) (hlocks : meth.locks = false) (hc : cells + mc1 ≤ mc) (hs : slots + ms1 ≤ ms)
    (hx : ∀ H1, ¬ th = 0 → P1 H1 → cFr A1 H H1 → ¬ th2 = 0 ∧ ns.getD (th - 1) "" = ns2.getD (th2 - 1) "" ∧ P2 H1)
    (k : ∀ (H1 : Heap) (locs1 : List Loc), th = 0 → P1 H1 → cFr A1 H H1 → va_S A s.heap H1 locs1 → W p l e R s m args below meth c H1 locs1 (cells + mc1) (slots + ms1) Q (F0 m (pc + 3) ls (.int v :: rest))) : W p l e R s m args below meth c H locs cells slots Q (F0 m pc ls st0) := by
  refine vx_calli hr hS (fun q _ h => hA q h) (fun q h => hA q h) (fun q _ h => hA q h) (fun E ce q9 u t H1 locs1 ht _ _ hB _ hk hS1 hcell hv hcl => ?_) (fun r u t H1 locs1 ht _ hp hB _ hk hS1 => ?_)
  · obtain ⟨h0, hE, hP⟩ := hB
    rw [ht] at hP
    obtain ⟨k0, kE, kP⟩ := hx H1 h0 hP hk
    exact nv_outX hq hout hlocks hS1 k0 (hE.trans kE) kP hc hs hcell hv hcl
  · obtain ⟨h0, rfl⟩ := hp
    exact k H1 locs1 h0 (by rw [← ht]; exact hB) hk hS1
theorem nv_kGXv {a : Array Value} (hr : vx_Run p l e R s m args below meth c H locs cells slots mc1 ms1 (F0 m pc ls st0) rest (gQXv th P1 A1 a) (xQ ns th P1 A1) A1) (hS : va_S A s.heap H locs) (hA : ∀ q, A1 q → A q) (hq : ∀ t, vx_MQ below Qc (xQ ns2 th2 P2 A) args s mc ms A t → Q t) (hout : ∀ x ∈ c.exceptionTable.toList, False) (hlocks : meth.locks = false) (hc : cells + mc1 ≤ mc) (hs : slots + ms1 ≤ ms)
    (hx : ∀ H1, ¬ th = 0 → P1 H1 → cFr A1 H H1 → ¬ th2 = 0 ∧ ns.getD (th - 1) "" = ns2.getD (th2 - 1) "" ∧ P2 H1)
    (k : ∀ (H1 : Heap) (locs1 : List Loc), th = 0 → P1 H1 → cFr A1 H H1 → va_S A s.heap H1 locs1 → W p l e R s m args below meth c H1 locs1 (cells + mc1) (slots + ms1) Q (F0 m (pc + 3) ls rest)) : W p l e R s m args below meth c H locs cells slots Q (F0 m pc ls st0) := by
  refine vx_callv hr hS (fun q _ h => hA q h) (fun q h => hA q h) (fun q _ h => hA q h) (fun E ce q9 u t H1 locs1 ht _ _ hB _ hk hS1 hcell hv hcl => ?_) (fun u t H1 locs1 ht _ hp hB _ hk hS1 => ?_)
  · obtain ⟨h0, hE, hP⟩ := hB
    rw [ht] at hP
    obtain ⟨k0, kE, kP⟩ := hx H1 h0 hP hk
    exact nv_outX hq hout hlocks hS1 k0 (hE.trans kE) kP hc hs hcell hv hcl
  · exact k H1 locs1 hp (by rw [← ht]; exact hB) hk hS1
/-- new X(text), thrown out of a method of the class -/
theorem nv_throwW {D : va_G} {tys : List (ClassId × FieldType)} {N : List nL} {sa : sA} {ws : List Cond} {cls text : String} {names : List String} {ik is ic : Nat} (hq : ∀ t, vx_MQ below Qc (xQ ns th P1 A) args s mc ms A t → Q t) (hx : p.tables.exec = Jvm.exec) (hb : c.code = cc) (hl9 : l.stackTraces = false) (hown : s.vm.findClass RX6 = some m.cls) (hts : ∀ w ∈ ws, w.before args s = true) (hT : kT D tys N sa A s s.heap)
    (hcls : Bundle.fit cls = true ∧ ∀ n ∈ names, Bundle.fit n = true) (hk : Cond.classLink RX6 ik cls ∈ ws ∧ Cond.initialized cls ∈ ws) (hm : (is, text) ∈ sMs ∧ cls ∈ xNs) (hgw : ∀ w ∈ (vx_atS RX6 ic cls names).filter goodWord, w ∈ ws) (hbad : ((vx_atS RX6 ic cls names).filter (fun w => !goodWord w)).all (fun w => decide (w ∈ Cond.castable cls cls :: xDs.map Cond.declares)) = true) (hgood : (Cond.classLink RX6 ik cls :: Cond.initialized cls :: vx_atS RX6 ic cls names).all vx_ot = true)
    (hS : va_S A s.heap H locs) (hsize : ls.size = c.maxLocals) (d0 : decode cc pc = .ok (.new ik, 3)) (d3 : decode cc (pc + 3) = .ok (.dup, 1)) (d4 : decode cc (pc + 4) = .ok (.ldc_w is, 3)) (d7 : decode cc (pc + 7) = .ok (.invokespecial ic, 3)) (d10 : decode cc (pc + 10) = .ok (.athrow, 1)) (hout : ∀ x ∈ c.exceptionTable.toList, False)
    (hRf : names.length + 3 < R.frames) (hRl : (rest.map fun v => v.category).sum + (13 * (names.length + 1) + 43) ≤ R.locals) (hRc : cells + 1 ≤ R.cells) (hRs : slots + 6 ≤ R.slots) (hlocks : meth.locks = false) (hc : cells + 1 ≤ mc) (hs : slots + 6 ≤ ms) (h0 : ¬ th = 0) (hE : cls = ns.getD (th - 1) "") (hP : ∀ H1 : Heap, (∀ q : Nat, q < H.size → H1[q]? = H[q]?) → P1 H1) : W p l e R s m args below meth c H locs cells slots Q (F0 m pc ls rest) := by
  obtain ⟨sa9, hstr⟩ := hT.ms is text hm.1
  refine W.mono hq (vx_throwSW hx hb hl9 hown hcls.1 hcls.2 (hts _ hk.1) (hts _ hk.2) hstr (vx_hat (fun w hw => hts w (hgw w hw)) (fun w hw => of_decide_eq_true (List.all_eq_true.mp hbad w hw)) (vx_c (va_tabs rfl rfl (hT.2.2.2.2.2.1 cls hm.2)) (fun w hw => by obtain ⟨x, hx9, rfl⟩ := List.mem_map.mp hw; exact va_tabs rfl rfl (hT.2.2.2.2.2.2.1 x hx9)))) (fun w hw => List.all_eq_true.mp hgood w hw) hT.2.2.2.1.2.2.1 hT.2.2.2.1.2.2.2 hS hsize d0 d3 d4 d7 d10 (fun x hx => (hout x hx).elim) hRf hRl hRc hRs hlocks (fun t _ hz hk9 => ⟨(), trivial, ⟨h0, hE, hP t.heap hk9⟩, ⟨Nat.le_trans hS.1 hz, fun q h1 h2 => (hk9 q (Nat.lt_of_lt_of_le h1 hS.1)).trans (hS.2.1 q h1 h2)⟩⟩) hS.2.2 hc hs)
theorem nv_throwS {D : va_G} {tys : List (ClassId × FieldType)} {N : List nL} {sa : sA} {ws : List Cond} {cls text : String} {names : List String} {ik is ic : Nat} (hq : ∀ t, vx_MQ below Qc (xQ ns th P1 A) args s mc ms A t → Q t) (hx : p.tables.exec = Jvm.exec) (hb : c.code = cc) (hl9 : l.stackTraces = false) (hown : s.vm.findClass RX6 = some m.cls) (hts : ∀ w ∈ ws, w.before args s = true) (hT : kT D tys N sa A s s.heap)
    (hcls : Bundle.fit cls = true ∧ ∀ n ∈ names, Bundle.fit n = true) (hk : Cond.classLink RX6 ik cls ∈ ws ∧ Cond.initialized cls ∈ ws) (hm : (is, text) ∈ sMs ∧ cls ∈ xNs) (hgw : ∀ w ∈ (vx_atS RX6 ic cls names).filter goodWord, w ∈ ws) (hbad : ((vx_atS RX6 ic cls names).filter (fun w => !goodWord w)).all (fun w => decide (w ∈ Cond.castable cls cls :: xDs.map Cond.declares)) = true) (hgood : (Cond.classLink RX6 ik cls :: Cond.initialized cls :: vx_atS RX6 ic cls names).all vx_ot = true)
    (hS : va_S A s.heap H locs) (hsize : ls.size = c.maxLocals) (d0 : decode cc pc = .ok (.new ik, 3)) (d3 : decode cc (pc + 3) = .ok (.dup, 1)) (d4 : decode cc (pc + 4) = .ok (.ldc is, 2)) (d6 : decode cc (pc + 6) = .ok (.invokespecial ic, 3)) (d9 : decode cc (pc + 9) = .ok (.athrow, 1)) (hout : ∀ x ∈ c.exceptionTable.toList, False)
    (hRf : names.length + 3 < R.frames) (hRl : (rest.map fun v => v.category).sum + (13 * (names.length + 1) + 43) ≤ R.locals) (hRc : cells + 1 ≤ R.cells) (hRs : slots + 6 ≤ R.slots) (hlocks : meth.locks = false) (hc : cells + 1 ≤ mc) (hs : slots + 6 ≤ ms) (h0 : ¬ th = 0) (hE : cls = ns.getD (th - 1) "") (hP : ∀ H1 : Heap, (∀ q : Nat, q < H.size → H1[q]? = H[q]?) → P1 H1) : W p l e R s m args below meth c H locs cells slots Q (F0 m pc ls rest) := by
  obtain ⟨sa9, hstr⟩ := hT.ms is text hm.1
  refine W.mono hq (vx_throwS hx hb hl9 hown hcls.1 hcls.2 (hts _ hk.1) (hts _ hk.2) hstr (vx_hat (fun w hw => hts w (hgw w hw)) (fun w hw => of_decide_eq_true (List.all_eq_true.mp hbad w hw)) (vx_c (va_tabs rfl rfl (hT.2.2.2.2.2.1 cls hm.2)) (fun w hw => by obtain ⟨x, hx9, rfl⟩ := List.mem_map.mp hw; exact va_tabs rfl rfl (hT.2.2.2.2.2.2.1 x hx9)))) (fun w hw => List.all_eq_true.mp hgood w hw) hT.2.2.2.1.2.2.1 hT.2.2.2.1.2.2.2 hS hsize d0 d3 d4 d6 d9 (fun x hx => (hout x hx).elim) hRf hRl hRc hRs hlocks (fun t _ hz hk9 => ⟨(), trivial, ⟨h0, hE, hP t.heap hk9⟩, ⟨Nat.le_trans hS.1 hz, fun q h1 h2 => (hk9 q (Nat.lt_of_lt_of_le h1 hS.1)).trans (hS.2.1 q h1 h2)⟩⟩) hS.2.2 hc hs)
end XB

set_option maxRecDepth 100000 in
theorem xAE_bad : ((vx_atS RX6 353 "java/lang/ArithmeticException" ["java/lang/RuntimeException", "java/lang/Exception"]).filter (fun w => !goodWord w)).all (fun w => decide (w ∈ Cond.castable "java/lang/ArithmeticException" "java/lang/ArithmeticException" :: xDs.map Cond.declares)) = true := by decide +kernel
set_option maxRecDepth 100000 in
theorem xAE_ok : (Cond.classLink RX6 349 "java/lang/ArithmeticException" :: Cond.initialized "java/lang/ArithmeticException" :: vx_atS RX6 353 "java/lang/ArithmeticException" ["java/lang/RuntimeException", "java/lang/Exception"]).all vx_ot = true := by decide +kernel
theorem xAE_fit : Bundle.fit "java/lang/ArithmeticException" = true ∧ ∀ n ∈ ["java/lang/RuntimeException", "java/lang/Exception"], Bundle.fit n = true := by decide +kernel

set_option maxRecDepth 100000 in
theorem xIAE_bad : ((vx_atS RX6 172 "java/lang/IllegalArgumentException" ["java/lang/RuntimeException", "java/lang/Exception"]).filter (fun w => !goodWord w)).all (fun w => decide (w ∈ Cond.castable "java/lang/IllegalArgumentException" "java/lang/IllegalArgumentException" :: xDs.map Cond.declares)) = true := by decide +kernel
set_option maxRecDepth 100000 in
theorem xIAE_ok : (Cond.classLink RX6 168 "java/lang/IllegalArgumentException" :: Cond.initialized "java/lang/IllegalArgumentException" :: vx_atS RX6 172 "java/lang/IllegalArgumentException" ["java/lang/RuntimeException", "java/lang/Exception"]).all vx_ot = true := by decide +kernel
theorem xIAE_fit : Bundle.fit "java/lang/IllegalArgumentException" = true ∧ ∀ n ∈ ["java/lang/RuntimeException", "java/lang/Exception"], Bundle.fit n = true := by decide +kernel

set_option maxRecDepth 100000 in
theorem xISE_bad : ((vx_atS RX6 322 "java/lang/IllegalStateException" ["java/lang/RuntimeException", "java/lang/Exception"]).filter (fun w => !goodWord w)).all (fun w => decide (w ∈ Cond.castable "java/lang/IllegalStateException" "java/lang/IllegalStateException" :: xDs.map Cond.declares)) = true := by decide +kernel
set_option maxRecDepth 100000 in
theorem xISE_ok : (Cond.classLink RX6 318 "java/lang/IllegalStateException" :: Cond.initialized "java/lang/IllegalStateException" :: vx_atS RX6 322 "java/lang/IllegalStateException" ["java/lang/RuntimeException", "java/lang/Exception"]).all vx_ot = true := by decide +kernel
theorem xISE_fit : Bundle.fit "java/lang/IllegalStateException" = true ∧ ∀ n ∈ ["java/lang/RuntimeException", "java/lang/Exception"], Bundle.fit n = true := by decide +kernel

set_option maxRecDepth 100000 in
theorem xIOOBE_bad : ((vx_atS RX6 186 "java/lang/IndexOutOfBoundsException" ["java/lang/RuntimeException", "java/lang/Exception"]).filter (fun w => !goodWord w)).all (fun w => decide (w ∈ Cond.castable "java/lang/IndexOutOfBoundsException" "java/lang/IndexOutOfBoundsException" :: xDs.map Cond.declares)) = true := by decide +kernel
set_option maxRecDepth 100000 in
theorem xIOOBE_ok : (Cond.classLink RX6 182 "java/lang/IndexOutOfBoundsException" :: Cond.initialized "java/lang/IndexOutOfBoundsException" :: vx_atS RX6 186 "java/lang/IndexOutOfBoundsException" ["java/lang/RuntimeException", "java/lang/Exception"]).all vx_ot = true := by decide +kernel
theorem xIOOBE_fit : Bundle.fit "java/lang/IndexOutOfBoundsException" = true ∧ ∀ n ∈ ["java/lang/RuntimeException", "java/lang/Exception"], Bundle.fit n = true := by decide +kernel

set_option maxRecDepth 100000 in
theorem xUOE_bad : ((vx_atS RX6 394 "java/lang/UnsupportedOperationException" ["java/lang/RuntimeException", "java/lang/Exception"]).filter (fun w => !goodWord w)).all (fun w => decide (w ∈ Cond.castable "java/lang/UnsupportedOperationException" "java/lang/UnsupportedOperationException" :: xDs.map Cond.declares)) = true := by decide +kernel
set_option maxRecDepth 100000 in
theorem xUOE_ok : (Cond.classLink RX6 390 "java/lang/UnsupportedOperationException" :: Cond.initialized "java/lang/UnsupportedOperationException" :: vx_atS RX6 394 "java/lang/UnsupportedOperationException" ["java/lang/RuntimeException", "java/lang/Exception"]).all vx_ot = true := by decide +kernel
theorem xUOE_fit : Bundle.fit "java/lang/UnsupportedOperationException" = true ∧ ∀ n ∈ ["java/lang/RuntimeException", "java/lang/Exception"], Bundle.fit n = true := by decide +kernel

set_option maxRecDepth 100000 in
theorem xNSEE_bad : ((vx_atS RX6 267 "java/util/NoSuchElementException" ["java/lang/RuntimeException", "java/lang/Exception"]).filter (fun w => !goodWord w)).all (fun w => decide (w ∈ Cond.castable "java/util/NoSuchElementException" "java/util/NoSuchElementException" :: xDs.map Cond.declares)) = true := by decide +kernel
set_option maxRecDepth 100000 in
theorem xNSEE_ok : (Cond.classLink RX6 263 "java/util/NoSuchElementException" :: Cond.initialized "java/util/NoSuchElementException" :: vx_atS RX6 267 "java/util/NoSuchElementException" ["java/lang/RuntimeException", "java/lang/Exception"]).all vx_ot = true := by decide +kernel
theorem xNSEE_fit : Bundle.fit "java/util/NoSuchElementException" = true ∧ ∀ n ∈ ["java/lang/RuntimeException", "java/lang/Exception"], Bundle.fit n = true := by decide +kernel
