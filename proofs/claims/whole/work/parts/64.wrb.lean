/-- the entry of a method with a table of handlers -/
theorem nv_metH {l : Launch} {y : MethodName} {ws ws' : List Cond} {rm : Room} {Pre : State → Prop} {Qc : Array Value → State → Outcome → State → Prop} {XC : String → State → State → Prop} {mc ms : Nat} {free : Addr → Prop} {cc : ByteArray} {maxL : Nat} {ret : Option FieldType} {hh : List (Nat × Nat × Nat × Nat)} {As : List Value} (hy : plainName y.cls = true) (hw : ws = Cond.codeWith y cc maxL ret hh :: ws') (hl : (lg_sl As).length ≤ maxL)
    (body : ∀ p e s m args below meth c (Q : State → Prop), (∀ t, vx_MQ below Qc XC args s mc ms free t → Q t) → args = As.toArray → nA p s m args meth c cc maxL ret ws y.cls → c.exceptionTable.toList = tableOf hh → Pre s → ∀ ls, lv_has ls maxL (lv_args 0 As) →
      W p l e rm s m args below meth c s.heap [] 0 0 Q (F0 m 0 ls [])) : vx_Met l y ws rm (va_Pc As Pre) Qc XC mc ms free := by
  refine vx_ofWH (cc := cc) (maxL := maxL) (ret := ret) (hh := hh) hy hw ?_
  intro p e s m args below meth c s₁ B hml hv
  obtain ⟨rfl, hp⟩ := hv
  have ht := vx_table (x := y) B (atoms_spec (ws := ws) B.pre _ (by rw [hw]; exact List.mem_cons_self))
  have h := body p e s m _ below meth c _ (fun t h => h) rfl ⟨B.exec, B.bytes, B.returns, atoms_spec (ws := ws) B.pre, findClass_of_methodNamed B.named, B.notSynchronized, hml⟩ ht hp _ (lv_entry As (n := maxL) hl)
  rw [lg_entry_eq]
  exact h
