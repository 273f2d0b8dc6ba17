/-! the law's wrappers: their base -/
/-- exceptions of which neither is another -/
def xCs : List String := ["java/lang/IllegalArgumentException", "java/lang/IndexOutOfBoundsException", "java/lang/UnsupportedOperationException", "java/util/NoSuchElementException", "java/lang/IllegalStateException", "java/lang/ArithmeticException"]
def lX (D : va_G) (cL cB : ClassId) (U : State) : Prop := va_K D vwCl [(cL, .long), (cB, .double)] U ∧ ∀ a ∈ xCs, ∀ b ∈ xCs, a ≠ b → va_Nc a b U
theorem lX.moved {D : va_G} {cL cB : ClassId} {u U : State} (hvm : u.vm.Alike U.vm) (h : lX D cL cB u) : lX D cL cB U := ⟨va_K.moved hvm h.1, fun a ha b hb hn => va_Nc.moved hvm (h.2 a ha b hb hn)⟩
theorem lX.call {D : va_G} {cL cB : ClassId} {U : State} {g : JFrame} {mk : MethodId} {a : Array Value} (h : lX D cL cB U) : lX D cL cB (U.calling g mk a) := lX.moved (u := U) (U := U.calling g mk a) (Vm.Alike.refl U.vm) h
def lPre (D : va_G) (tys : List (ClassId × FieldType)) (N : List nL) (sa : sA) (A : Nat → Prop) (cL cB : ClassId) (P : Heap → Prop) : State → Prop := fun U => P U.heap ∧ kT D tys N sa A U U.heap ∧ lX D cL cB U
/-- the array of one long, one double -/
def outL (D : va_G) (cL : ClassId) (o : Nat) (q : Int64 → Prop) (H : Heap) : Prop := ∃ f : Nat → Int64, q (f 0) ∧ va_P D vwCl [(o, .inl (cL, 1, .inr (.inl f)))] H
def outB (D : va_G) (cB : ClassId) (o : Nat) (q : UInt64 → Prop) (H : Heap) : Prop := ∃ f : Nat → UInt64, q (f 0) ∧ va_P D vwCl [(o, .inl (cB, 1, .inr (.inr (.inr (.inl f)))))] H
/-- what a wrapper may change: the object's cells, the array -/
def lA (AD : Nat → Nat) (o : Nat) : Nat → Prop := fun q => cRg AD 0 165 q ∨ q = o
/-- nothing is thrown -/
def noX : String → State → State → Prop := vx_X (fun (_ : Unit) => False) (fun _ _ _ => True) (fun _ => False)
theorem nv_th1 {t : Nat} (h0 : ¬ t = 0) (h : t ≤ 1) : t = 1 := by omega
theorem nv_th2 {t : Nat} (h0 : ¬ t = 0) (h : t ≤ 2) : t = 1 ∨ t = 2 := by omega
theorem nv_th3 {t : Nat} (h0 : ¬ t = 0) (h : t ≤ 3) : t = 1 ∨ t = 2 ∨ t = 3 := by omega
/-- a float that is a number is a number as a double -/
theorem nf_f2d {x : UInt32} (h : vf_n32 x) : vf_n64 (FP.f2d x) := by
  unfold vf_n32 at h
  rw [UInt32.le_iff_toNat_le, UInt32.toNat_and] at h
  have h1 : (0x7fffffff : UInt32).toNat = 2 ^ 31 - 1 := by decide
  have h2 : (0x7f800000 : UInt32).toNat = 2139095040 := by decide
  rw [h1, h2, Nat.and_two_pow_sub_one_eq_mod] at h
  have hd := fq_n32 h
  have hi : ∀ s, FP.Core.encode FP.Core.b64 (.inf s) % 9223372036854775808 ≤ 9218868437227405312 ∧ FP.Core.encode FP.Core.b64 (.inf s) < 18446744073709551616 := by intro s; cases s <;> decide +kernel
  have hc : FP.Core.convert FP.Core.b32 FP.Core.b64 x.toNat % 9223372036854775808 ≤ 9218868437227405312 ∧ FP.Core.convert FP.Core.b32 FP.Core.b64 x.toNat < 18446744073709551616 := by
    unfold FP.Core.convert
    cases hq : FP.Core.decode FP.Core.b32 x.toNat with
    | nan => exact absurd hq hd
    | inf s => exact hi s
    | fin s c q => exact fq_e64
  have hn : ¬ FP.Core.fIsNaN x = true := by
    unfold FP.Core.fIsNaN FP.Core.isNaN
    intro q
    exact hd (of_decide_eq_true q)
  have e : FP.f2d x = FP.Core.f2d x := by unfold FP.f2d; exact if_neg hn
  rw [e]
  unfold vf_n64
  rw [UInt64.le_iff_toNat_le, UInt64.toNat_and]
  have h3 : (0x7fffffffffffffff : UInt64).toNat = 2 ^ 63 - 1 := by decide
  have h4 : (0x7ff0000000000000 : UInt64).toNat = 9218868437227405312 := by decide
  rw [h3, h4, Nat.and_two_pow_sub_one_eq_mod]
  have h5 : (FP.Core.f2d x).toNat = FP.Core.convert FP.Core.b32 FP.Core.b64 x.toNat := Nat.mod_eq_of_lt hc.2
  rw [h5]
  exact hc.1
theorem nf_share {k : Nat} {x : Int32} (h : k < 8192) : vf_n32 (if k = 0 then FP.fconst0 else FP.fdiv (FP.i2f x) (FP.i2f (nI k))) := by
  by_cases h0 : k = 0
  · rw [if_pos h0]; unfold vf_n32; decide +kernel
  · rw [if_neg h0]; exact nf_knocks h h0
section WQ
variable {D : va_G} {AD : Nat → Nat} {H H1 : Heap} {cI cC cD cR cL cB : ClassId} {G Sv Hi In Le : Nat → Nat} {hs ch ty wy ln o : Nat} {ea ra wd : Int32} {v : V} {q : Int64 → Prop} {qb : UInt64 → Prop} {A1 : Nat → Prop}
theorem cOn_W : cOn AD 0 165 (cW D cI cC cD cR AD G Sv Hi In Le hs ch ty wy ln ea ra wd) :=
  cOn.and cOn_Ob (cOn.and (cOn_hO 1) (cOn.and cOn_In cOn_Re (by decide : 15 ≤ 162) (Nat.le_refl 165) (Nat.le_refl 15) (by decide)) (Nat.le_refl 1) (by decide) (by decide) (Nat.le_refl 165)) (Nat.le_refl 0) (by decide) (by decide) (Nat.le_refl 165)
theorem cOn_Wv : cOn AD 0 165 (cWv D cI cC cD cR AD G Sv Hi In Le hs ch ty wy ln ea ra wd v) := cOn_W
theorem outL.kept (h : outL D cL o q H) (hK : cFr A1 H H1) (hn : ¬ A1 o) : outL D cL o q H1 := by
  obtain ⟨f, h1, h2⟩ := h
  exact ⟨f, h1, h2.kept (fun k p hk => by
    have hlt := vx_lt h2 hk
    have e : p.1 = o := by
      match k, hk with
      | 0, hk => cases hk; rfl
      | k + 1, hk => simp at hk
    exact hK p.1 hlt (by rw [e]; exact hn))⟩
theorem outB.kept (h : outB D cB o qb H) (hK : cFr A1 H H1) (hn : ¬ A1 o) : outB D cB o qb H1 := by
  obtain ⟨f, h1, h2⟩ := h
  exact ⟨f, h1, h2.kept (fun k p hk => by
    have hlt := vx_lt h2 hk
    have e : p.1 = o := by
      match k, hk with
      | 0, hk => cases hk; rfl
      | k + 1, hk => simp at hk
    exact hK p.1 hlt (by rw [e]; exact hn))⟩
theorem outL.imp {q2 : Int64 → Prop} (h : outL D cL o q H) (hq : ∀ y, q y → q2 y) : outL D cL o q2 H := by
  obtain ⟨f, h1, h2⟩ := h
  exact ⟨f, hq _ h1, h2⟩
theorem outB.imp {q2 : UInt64 → Prop} (h : outB D cB o qb H) (hq : ∀ y, qb y → q2 y) : outB D cB o q2 H := by
  obtain ⟨f, h1, h2⟩ := h
  exact ⟨f, hq _ h1, h2⟩
/-- the object's world beside a store into the array -/
theorem cOn.out {P : Heap → Prop} (hc : cOn AD 0 165 P) (ho : ¬ cRg AD 0 165 o) (hK : ∀ q : Nat, q ≠ o → H1[q]? = H[q]?) (hP : P H) : P H1 :=
  hc (fun q => q = o) H H1 (fun i _ hi e => ho ⟨i, Nat.zero_le _, hi, e.symm⟩) (fun q _ hn => hK q hn) hP
end WQ
section WR
variable {p : Program} {l : Launch} {e : Env} {R : Room} {s : State} {m : MethodId} {args : Array Value} {below : List Frame} {meth : Method} {c : Code} {H : Heap} {locs : List Loc} {cells slots : Nat} {Q : State → Prop}
variable {cc : ByteArray} {pc mc ms mc1 ms1 : Nat} {ls : Array Slot} {rest st0 : List Value} {A A1 : Nat → Prop} {D : va_G} {tys : List (ClassId × FieldType)} {N : List nL} {sa : sA} {cL cB : ClassId} {P : Heap → Prop} {As : List Value}
variable {th : Nat} {ns : List String} {v : Int32} {P1 : Heap → Prop} {Qc : Array Value → State → Outcome → State → Prop} {XC : String → State → State → Prop} {H0 : Heap} {o : Nat}
theorem lPre_blind : FrameBlind (va_Pc As (lPre D tys N sa A cL cB P)) := fun _ _ _ _ h => ⟨h.1, h.2.1, h.2.2.1.call, h.2.2.2.call⟩
theorem nl_pS (hT : kT D tys N sa A s s.heap) (hX : lX D cL cB s) (hS : va_S A s.heap H locs) (hA : ∀ q, A1 q → A q) (hP : P H) : PreS s H (va_Pc As (lPre D tys N sa A1 cL cB P)) As := ⟨lPre_blind, fun U hU hW => ⟨rfl, by rw [hU]; exact hP, (kT.go hT hS hU hW).narrow hA, hX.moved hW.alike⟩⟩
/-- behind a call that may throw, in a method with a table -/
theorem nv_kLX {a : Array Value} (hr : vx_Run p l e R s m args below meth c H locs cells slots mc1 ms1 (F0 m pc ls st0) rest (gQX th v P1 A1 a) (xQ ns th P1 A1) A1) (hS : va_S A s.heap H locs) (hA : ∀ q, A1 q → A q)
    (kx : ∀ (E : String) (ce : Cell) (q9 : Addr) (H1 : Heap) (locs1 : List Loc), ¬ th = 0 → E = ns.getD (th - 1) "" → P1 H1 → cFr A1 H H1 → va_S A s.heap H1 locs1 → H1[q9]? = some ce → ce.vm = .none → s.vm.findClass E = some ce.cls → vx_W p l e R s m args below meth c H1 locs1 (cells + mc1) (slots + ms1) Q (F0 m pc ls rest) q9)
    (k : ∀ (H1 : Heap) (locs1 : List Loc), th = 0 → P1 H1 → cFr A1 H H1 → va_S A s.heap H1 locs1 → W p l e R s m args below meth c H1 locs1 (cells + mc1) (slots + ms1) Q (F0 m (pc + 3) ls (.int v :: rest))) : W p l e R s m args below meth c H locs cells slots Q (F0 m pc ls st0) := by
  refine vx_calli hr hS (fun q _ h => hA q h) (fun q h => hA q h) (fun q _ h => hA q h) (fun E ce q9 u t H1 locs1 ht _ _ hB _ hk hS1 hcell hv hcl => ?_) (fun r u t H1 locs1 ht _ hp hB _ hk hS1 => ?_)
  · obtain ⟨h0, hE, hP⟩ := hB
    rw [ht] at hP
    exact kx E ce q9 H1 locs1 h0 hE hP hk hS1 hcell hv hcl
  · obtain ⟨h0, rfl⟩ := hp
    exact k H1 locs1 h0 (by rw [← ht]; exact hB) hk hS1
theorem nv_kLXd {a : Array Value} {v : UInt64} (hr : vx_Run p l e R s m args below meth c H locs cells slots mc1 ms1 (F0 m pc ls st0) rest (gQXd th v P1 A1 a) (xQ ns th P1 A1) A1) (hS : va_S A s.heap H locs) (hA : ∀ q, A1 q → A q)
    (kx : ∀ (E : String) (ce : Cell) (q9 : Addr) (H1 : Heap) (locs1 : List Loc), ¬ th = 0 → E = ns.getD (th - 1) "" → P1 H1 → cFr A1 H H1 → va_S A s.heap H1 locs1 → H1[q9]? = some ce → ce.vm = .none → s.vm.findClass E = some ce.cls → vx_W p l e R s m args below meth c H1 locs1 (cells + mc1) (slots + ms1) Q (F0 m pc ls rest) q9)
    (k : ∀ (H1 : Heap) (locs1 : List Loc), th = 0 → P1 H1 → cFr A1 H H1 → va_S A s.heap H1 locs1 → W p l e R s m args below meth c H1 locs1 (cells + mc1) (slots + ms1) Q (F0 m (pc + 3) ls (.double v :: rest))) : W p l e R s m args below meth c H locs cells slots Q (F0 m pc ls st0) := by
  refine vx_calld hr hS (fun q _ h => hA q h) (fun q h => hA q h) (fun q _ h => hA q h) (fun E ce q9 u t H1 locs1 ht _ _ hB _ hk hS1 hcell hv hcl => ?_) (fun r u t H1 locs1 ht _ hp hB _ hk hS1 => ?_)
  · obtain ⟨h0, hE, hP⟩ := hB
    rw [ht] at hP
    exact kx E ce q9 H1 locs1 h0 hE hP hk hS1 hcell hv hcl
  · obtain ⟨h0, rfl⟩ := hp
    exact k H1 locs1 h0 (by rw [← ht]; exact hB) hk hS1
theorem nv_kLXf {a : Array Value} {v : UInt32} (hr : vx_Run p l e R s m args below meth c H locs cells slots mc1 ms1 (F0 m pc ls st0) rest (gQXf th v P1 A1 a) (xQ ns th P1 A1) A1) (hS : va_S A s.heap H locs) (hA : ∀ q, A1 q → A q)
    (kx : ∀ (E : String) (ce : Cell) (q9 : Addr) (H1 : Heap) (locs1 : List Loc), ¬ th = 0 → E = ns.getD (th - 1) "" → P1 H1 → cFr A1 H H1 → va_S A s.heap H1 locs1 → H1[q9]? = some ce → ce.vm = .none → s.vm.findClass E = some ce.cls → vx_W p l e R s m args below meth c H1 locs1 (cells + mc1) (slots + ms1) Q (F0 m pc ls rest) q9)
    (k : ∀ (H1 : Heap) (locs1 : List Loc), th = 0 → P1 H1 → cFr A1 H H1 → va_S A s.heap H1 locs1 → W p l e R s m args below meth c H1 locs1 (cells + mc1) (slots + ms1) Q (F0 m (pc + 3) ls (.float v :: rest))) : W p l e R s m args below meth c H locs cells slots Q (F0 m pc ls st0) := by
  refine vx_callf hr hS (fun q _ h => hA q h) (fun q h => hA q h) (fun q _ h => hA q h) (fun E ce q9 u t H1 locs1 ht _ _ hB _ hk hS1 hcell hv hcl => ?_) (fun r u t H1 locs1 ht _ hp hB _ hk hS1 => ?_)
  · obtain ⟨h0, hE, hP⟩ := hB
    rw [ht] at hP
    exact kx E ce q9 H1 locs1 h0 hE hP hk hS1 hcell hv hcl
  · obtain ⟨h0, rfl⟩ := hp
    exact k H1 locs1 h0 (by rw [← ht]; exact hB) hk hS1
/-- a long into the array of one -/
theorem nv_lastO {x : Int64} (hx : p.tables.exec = Jvm.exec) (hb : c.code = cc) (hK : va_K D vwCl tys s) (t0 : Nat) (ht : tys[t0]? = some (cL, .long)) {q1 : Int64 → Prop} (hO : outL D cL o q1 H) (hS : va_S A H0 H locs) (hA : A o) (hdg : decode cc pc = .ok (.lastore, 1))
    (kk : ∀ (H1 : Heap) (locs1 : List Loc), outL D cL o (fun y => y = x) H1 → (∀ q : Nat, q ≠ o → H1[q]? = H[q]?) → va_S A H0 H1 locs1 → W p l e R s m args below meth c H1 locs1 cells slots Q (F0 m (pc + 1) ls rest)) : W p l e R s m args below meth c H locs cells slots Q (F0 m pc ls (.long x :: .int (nI 0) :: .ref o :: rest)) := by
  obtain ⟨f, -, hP⟩ := hO
  have hi : (nI 0).toNatClampNeg = 0 := nI_clamp (by decide)
  refine W.last hx hb (hP 0 _ rfl) ((hK.2 t0 _ ht).1 1 (fun j => .long (f j))) (fun q => by cases q) (by show ¬ (nI 0 < 0 ∨ (arrV _ _ _).slots.size ≤ _); rw [arrV_size]; exact vp_in_nI (Nat.succ_pos 0) (show (1 : Nat) < 2 ^ 31 by decide)) rfl rfl hdg fun H1 e z oq => ?_
  refine kk H1 _ ⟨vp_updL f (nI 0).toNatClampNeg x, by rw [hi]; simp [vp_updL], fun k q hk => ?_⟩ oq (hS.put z oq hA)
  match k, hk with
  | 0, hk =>
    cases hk
    show H1[o]? = some (vp_cell _ _)
    rw [e]
    rw [vp_cell_l, vp_cell_l, arrV_store]
    congr 2
    funext q
    by_cases hq : q = (nI 0).toNatClampNeg
    · subst hq
      simp [updV, vp_updL]
    · simp [updV, vp_updL, hq]
  | k + 1, hk => simp at hk
theorem nv_dastO {x : UInt64} (hx : p.tables.exec = Jvm.exec) (hb : c.code = cc) (hK : va_K D vwCl tys s) (t0 : Nat) (ht : tys[t0]? = some (cB, .double)) {q1 : UInt64 → Prop} (hO : outB D cB o q1 H) (hS : va_S A H0 H locs) (hA : A o) (hdg : decode cc pc = .ok (.dastore, 1))
    (kk : ∀ (H1 : Heap) (locs1 : List Loc), outB D cB o (fun y => y = x) H1 → (∀ q : Nat, q ≠ o → H1[q]? = H[q]?) → va_S A H0 H1 locs1 → W p l e R s m args below meth c H1 locs1 cells slots Q (F0 m (pc + 1) ls rest)) : W p l e R s m args below meth c H locs cells slots Q (F0 m pc ls (.double x :: .int (nI 0) :: .ref o :: rest)) := by
  obtain ⟨f, -, hP⟩ := hO
  have hi : (nI 0).toNatClampNeg = 0 := nI_clamp (by decide)
  refine W.dast hx hb (hP 0 _ rfl) ((hK.2 t0 _ ht).1 1 (fun j => .double (f j))) (fun q => by cases q) (by show ¬ (nI 0 < 0 ∨ (arrV _ _ _).slots.size ≤ _); rw [arrV_size]; exact vp_in_nI (Nat.succ_pos 0) (show (1 : Nat) < 2 ^ 31 by decide)) rfl rfl hdg fun H1 e z oq => ?_
  refine kk H1 _ ⟨vf_upd f (nI 0).toNatClampNeg x, by rw [hi]; simp [vf_upd], fun k q hk => ?_⟩ oq (hS.put z oq hA)
  match k, hk with
  | 0, hk =>
    cases hk
    show H1[o]? = some (vp_cell _ _)
    rw [e]
    rw [vp_cell_d, vp_cell_d, arrV_store]
    congr 2
    funext q
    by_cases hq : q = (nI 0).toNatClampNeg
    · subst hq
      simp [updV, vf_upd]
    · simp [updV, vf_upd, hq]
  | k + 1, hk => simp at hk
/-- a wrapper's end -/
theorem nv_retL {x v : Int32} (hq : ∀ t, vx_MQ below (gQ v P1 A) XC args s mc ms A t → Q t) (hx : p.tables.exec = Jvm.exec) (hb : c.code = cc) (hr : meth.sig.returnType = some .int) (hlocks : meth.locks = false) (hc : cells ≤ mc) (hs : slots ≤ ms) (he : x = v) (hS : va_S A s.heap H locs) (hP : P1 H) (hdg : decode cc pc = .ok (.ireturn, 1)) : W p l e R s m args below meth c H locs cells slots Q (F0 m pc ls [.int x]) :=
  W.mono hq (W.widen hc hs (vx_ret (W.zret hx hb hr rfl (fun t ht _ => ⟨⟨x, (), rfl, he, by subst ht; exact hP⟩, hS.F ht⟩) hS.2.2 hdg hlocks)))
/-- the rows of a table that don't take E -/
theorem nv_pass {E : String} {hh : List (Nat × Nat × Nat × Nat)} {own : String} (h : ∀ x ∈ hh, x.2.2.2 ≠ 0 ∧ ∃ nm : String, (Cond.classLink own x.2.2.2 nm).before args s = true ∧ va_Nc E nm s) :
    ∀ z ∈ tableOf hh, covers z pc = false ∨ (z.catchType ≠ 0 ∧ ∃ nm : String, (Cond.classLink own z.catchType nm).before args s = true ∧ va_Nc E nm s) := by
  intro z hz
  obtain ⟨x, hx1, rfl⟩ := List.mem_map.mp hz
  exact Or.inr (h x hx1)
/-- a boolean as a long -/
theorem nv_b2l {P9 : Prop} [Decidable P9] (hx : p.tables.exec = Jvm.exec) (hb : c.code = cc) (d0 : decode cc pc = .ok (.ifCond .eq 7, 3)) (d1 : decode cc (pc + 3) = .ok (.lconst 1, 1)) (d2 : decode cc (pc + 3 + 1) = .ok (.goto 4, 3)) (d3 : decode cc (pc + 7) = .ok (.lconst 0, 1))
    (k : W p l e R s m args below meth c H locs cells slots Q (F0 m (pc + 8) ls (.long (nI (bI P9)).toInt64 :: rest))) : W p l e R s m args below meth c H locs cells slots Q (F0 m pc ls (.int (nI (bI P9)) :: rest)) := by
  refine nv_ifb_eq (tgt := pc + 7) hx hb d0 (by omega) (fun h => ?_) (fun h => ?_)
  · exact lv_lconst hx hb d3 (by rw [bI_f h]; decide) k
  · exact lv_lconst hx hb d1 rfl (lv_goto (tgt := pc + 8) hx hb d2 (by omega) (by rw [bI_t h] at k; exact k))
/-- whether an int isn't 0, as an int -/
theorem nv_bool {x : Int32} (hx : p.tables.exec = Jvm.exec) (hb : c.code = cc) (d0 : decode cc pc = .ok (.ifCond .eq 7, 3)) (d1 : decode cc (pc + 3) = .ok (.iconst 1, 1)) (d2 : decode cc (pc + 3 + 1) = .ok (.goto 4, 3)) (d3 : decode cc (pc + 7) = .ok (.iconst 0, 1))
    (k : W p l e R s m args below meth c H locs cells slots Q (F0 m (pc + 8) ls (.int (nI (if x = 0 then 0 else 1)) :: rest))) : W p l e R s m args below meth c H locs cells slots Q (F0 m pc ls (.int x :: rest)) := by
  refine lv_if_eq (tgt := pc + 7) hx hb d0 (by omega) (fun h => ?_) (fun h => ?_)
  · rw [if_pos h] at k
    exact lv_iconst (v := nI 0) hx hb d3 (by decide) k
  · rw [if_neg h] at k
    exact lv_iconst (v := nI 1) hx hb d1 (by decide) (lv_goto (tgt := pc + 8) hx hb d2 (by omega) k)
end WR
