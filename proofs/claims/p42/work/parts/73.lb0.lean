/-- the entry of a method with a table of handlers -/
theorem nv_metH {l : Launch} {y : MethodName} {ws ws' : List Cond} {rm : Room} {Pre : State → Prop} {Qc : Array Value → State → Outcome → State → Prop} {XC : String → State → State → Prop} {mc ms : Nat} {free : Addr → Prop} {cc : ByteArray} {maxL : Nat} {ret : Option FieldType} {hh : List (Nat × Nat × Nat × Nat)} {As : List Value} (hy : plainName y.cls = true) (hw : ws = Cond.codeWith y cc maxL ret hh :: ws') (hl : (lg_sl As).length ≤ maxL)
    (body : ∀ p e s m args below meth c (Q : State → Prop), (∀ t, vx_MQ below Qc XC args s mc ms free t → Q t) → args = As.toArray → nA p s m args meth c cc maxL ret ws y.cls → c.exceptionTable.toList = tableOf hh → Pre s → ∀ ls, lv_has ls maxL (lv_args 0 As) →
      W p l e rm s m args below meth c s.heap [] 0 0 Q (F0 m 0 ls [])) : vx_Met l y ws rm (va_Pc As Pre) Qc XC mc ms free := by
  refine vx_ofWH (cc := cc) (maxL := maxL) (ret := ret) (hh := hh) hy hw ?_
  intro p e s m args below meth c s₁ B hml hv
  obtain ⟨rfl, hp⟩ := hv
  have ht := vx_table (x := y) B (atoms_spec (ws := ws) B.pre _ (by rw [hw]; exact List.mem_cons_self))
  have h := body p e s m _ below meth c _ (fun t h => h) rfl ⟨B.exec, B.bytes, B.returns, atoms_spec (ws := ws) B.pre, findClass_of_methodNamed B.named, B.notSynchronized, hml⟩ ht hp _ (lv_entry As (n := maxL) hl)
  rw [lg_entry_eq]
  exact h
/-! the law's wrappers: their base -/
/-- exceptions of which neither is another -/
def xCs : List String := ["java/lang/IllegalArgumentException", "java/lang/IndexOutOfBoundsException", "java/lang/UnsupportedOperationException", "java/util/NoSuchElementException", "java/lang/IllegalStateException", "java/lang/ArithmeticException"]
/-- nothing is thrown -/
def noX : String → State → State → Prop := vx_X (fun (_ : Unit) => False) (fun _ _ _ => True) (fun _ => False)
theorem nv_th1 {t : Nat} (h0 : ¬ t = 0) (h : t ≤ 1) : t = 1 := by omega
theorem nv_th2 {t : Nat} (h0 : ¬ t = 0) (h : t ≤ 2) : t = 1 ∨ t = 2 := by omega
theorem nv_th3 {t : Nat} (h0 : ¬ t = 0) (h : t ≤ 3) : t = 1 ∨ t = 2 ∨ t = 3 := by omega
/-- a float that is a number is a number as a double -/
theorem nf_f2d {x : UInt32} (h : vf_n32 x) : vf_n64 (FP.f2d x) := by
  unfold vf_n32 at h
  rw [UInt32.le_iff_toNat_le, UInt32.toNat_and] at h
  have h1 : (0x7fffffff : UInt32).toNat = 2 ^ 31 - 1 := by decide
  have h2 : (0x7f800000 : UInt32).toNat = 2139095040 := by decide
  rw [h1, h2, Nat.and_two_pow_sub_one_eq_mod] at h
  have hd := fq_n32 h
  have hi : ∀ s, FP.Core.encode FP.Core.b64 (.inf s) % 9223372036854775808 ≤ 9218868437227405312 ∧ FP.Core.encode FP.Core.b64 (.inf s) < 18446744073709551616 := by intro s; cases s <;> decide +kernel
  have hc : FP.Core.convert FP.Core.b32 FP.Core.b64 x.toNat % 9223372036854775808 ≤ 9218868437227405312 ∧ FP.Core.convert FP.Core.b32 FP.Core.b64 x.toNat < 18446744073709551616 := by
    unfold FP.Core.convert
    cases hq : FP.Core.decode FP.Core.b32 x.toNat with
    | nan => exact absurd hq hd
    | inf s => exact hi s
    | fin s c q => exact fq_e64
  have hn : ¬ FP.Core.fIsNaN x = true := by
    unfold FP.Core.fIsNaN FP.Core.isNaN
    intro q
    exact hd (of_decide_eq_true q)
  have e : FP.f2d x = FP.Core.f2d x := by unfold FP.f2d; exact if_neg hn
  rw [e]
  unfold vf_n64
  rw [UInt64.le_iff_toNat_le, UInt64.toNat_and]
  have h3 : (0x7fffffffffffffff : UInt64).toNat = 2 ^ 63 - 1 := by decide
  have h4 : (0x7ff0000000000000 : UInt64).toNat = 9218868437227405312 := by decide
  rw [h3, h4, Nat.and_two_pow_sub_one_eq_mod]
  have h5 : (FP.Core.f2d x).toNat = FP.Core.convert FP.Core.b32 FP.Core.b64 x.toNat := Nat.mod_eq_of_lt hc.2
  rw [h5]
  exact hc.1
theorem nf_share {k : Nat} {x : Int32} (h : k < 8192) : vf_n32 (if k = 0 then FP.fconst0 else FP.fdiv (FP.i2f x) (FP.i2f (nI k))) := by
  by_cases h0 : k = 0
  · rw [if_pos h0]; unfold vf_n32; decide +kernel
  · rw [if_neg h0]; exact nf_knocks h h0
section WQ
variable {D : va_G} {AD : Nat → Nat} {H H1 : Heap} {cI cC cD cR cL cB : ClassId} {G Sv Hi In Le : Nat → Nat} {hs ch ty wy ln o : Nat} {ea ra wd : Int32} {v : V} {q : Int64 → Prop} {qb : UInt64 → Prop} {A1 : Nat → Prop}
theorem cOn_W : cOn AD 0 165 (cW D cI cC cD cR AD G Sv Hi In Le hs ch ty wy ln ea ra wd) :=
  cOn.and cOn_Ob (cOn.and (cOn_hO 1) (cOn.and cOn_In cOn_Re (by decide : 15 ≤ 162) (Nat.le_refl 165) (Nat.le_refl 15) (by decide)) (Nat.le_refl 1) (by decide) (by decide) (Nat.le_refl 165)) (Nat.le_refl 0) (by decide) (by decide) (Nat.le_refl 165)
theorem cOn_Wv : cOn AD 0 165 (cWv D cI cC cD cR AD G Sv Hi In Le hs ch ty wy ln ea ra wd v) := cOn_W
end WQ
section WR
variable {p : Program} {l : Launch} {e : Env} {R : Room} {s : State} {m : MethodId} {args : Array Value} {below : List Frame} {meth : Method} {c : Code} {H : Heap} {locs : List Loc} {cells slots : Nat} {Q : State → Prop}
variable {cc : ByteArray} {pc mc ms mc1 ms1 : Nat} {ls : Array Slot} {rest st0 : List Value} {A A1 : Nat → Prop} {D : va_G} {tys : List (ClassId × FieldType)} {N : List nL} {sa : sA} {cL cB : ClassId} {P : Heap → Prop} {As : List Value}
variable {th : Nat} {ns : List String} {v : Int32} {P1 : Heap → Prop} {Qc : Array Value → State → Outcome → State → Prop} {XC : String → State → State → Prop} {H0 : Heap} {o : Nat}
/-- behind a call that may throw, in a method with a table -/
theorem nv_kLX {a : Array Value} (hr : vx_Run p l e R s m args below meth c H locs cells slots mc1 ms1 (F0 m pc ls st0) rest (gQX th v P1 A1 a) (xQ ns th P1 A1) A1) (hS : va_S A s.heap H locs) (hA : ∀ q, A1 q → A q)
    (kx : ∀ (E : String) (ce : Cell) (q9 : Addr) (H1 : Heap) (locs1 : List Loc), ¬ th = 0 → E = ns.getD (th - 1) "" → P1 H1 → cFr A1 H H1 → va_S A s.heap H1 locs1 → H1[q9]? = some ce → ce.vm = .none → s.vm.findClass E = some ce.cls → vx_W p l e R s m args below meth c H1 locs1 (cells + mc1) (slots + ms1) Q (F0 m pc ls rest) q9)
    (k : ∀ (H1 : Heap) (locs1 : List Loc), th = 0 → P1 H1 → cFr A1 H H1 → va_S A s.heap H1 locs1 → W p l e R s m args below meth c H1 locs1 (cells + mc1) (slots + ms1) Q (F0 m (pc + 3) ls (.int v :: rest))) : W p l e R s m args below meth c H locs cells slots Q (F0 m pc ls st0) := by
  refine vx_calli hr hS (fun q _ h => hA q h) (fun q h => hA q h) (fun q _ h => hA q h) (fun E ce q9 u t H1 locs1 ht _ _ hB _ hk hS1 hcell hv hcl => ?_) (fun r u t H1 locs1 ht _ hp hB _ hk hS1 => ?_)
  · obtain ⟨h0, hE, hP⟩ := hB
    rw [ht] at hP
    exact kx E ce q9 H1 locs1 h0 hE hP hk hS1 hcell hv hcl
  · obtain ⟨h0, rfl⟩ := hp
    exact k H1 locs1 h0 (by rw [← ht]; exact hB) hk hS1
theorem nv_kLXd {a : Array Value} {v : UInt64} (hr : vx_Run p l e R s m args below meth c H locs cells slots mc1 ms1 (F0 m pc ls st0) rest (gQXd th v P1 A1 a) (xQ ns th P1 A1) A1) (hS : va_S A s.heap H locs) (hA : ∀ q, A1 q → A q)
    (kx : ∀ (E : String) (ce : Cell) (q9 : Addr) (H1 : Heap) (locs1 : List Loc), ¬ th = 0 → E = ns.getD (th - 1) "" → P1 H1 → cFr A1 H H1 → va_S A s.heap H1 locs1 → H1[q9]? = some ce → ce.vm = .none → s.vm.findClass E = some ce.cls → vx_W p l e R s m args below meth c H1 locs1 (cells + mc1) (slots + ms1) Q (F0 m pc ls rest) q9)
    (k : ∀ (H1 : Heap) (locs1 : List Loc), th = 0 → P1 H1 → cFr A1 H H1 → va_S A s.heap H1 locs1 → W p l e R s m args below meth c H1 locs1 (cells + mc1) (slots + ms1) Q (F0 m (pc + 3) ls (.double v :: rest))) : W p l e R s m args below meth c H locs cells slots Q (F0 m pc ls st0) := by
  refine vx_calld hr hS (fun q _ h => hA q h) (fun q h => hA q h) (fun q _ h => hA q h) (fun E ce q9 u t H1 locs1 ht _ _ hB _ hk hS1 hcell hv hcl => ?_) (fun r u t H1 locs1 ht _ hp hB _ hk hS1 => ?_)
  · obtain ⟨h0, hE, hP⟩ := hB
    rw [ht] at hP
    exact kx E ce q9 H1 locs1 h0 hE hP hk hS1 hcell hv hcl
  · obtain ⟨h0, rfl⟩ := hp
    exact k H1 locs1 h0 (by rw [← ht]; exact hB) hk hS1
theorem nv_kLXf {a : Array Value} {v : UInt32} (hr : vx_Run p l e R s m args below meth c H locs cells slots mc1 ms1 (F0 m pc ls st0) rest (gQXf th v P1 A1 a) (xQ ns th P1 A1) A1) (hS : va_S A s.heap H locs) (hA : ∀ q, A1 q → A q)
    (kx : ∀ (E : String) (ce : Cell) (q9 : Addr) (H1 : Heap) (locs1 : List Loc), ¬ th = 0 → E = ns.getD (th - 1) "" → P1 H1 → cFr A1 H H1 → va_S A s.heap H1 locs1 → H1[q9]? = some ce → ce.vm = .none → s.vm.findClass E = some ce.cls → vx_W p l e R s m args below meth c H1 locs1 (cells + mc1) (slots + ms1) Q (F0 m pc ls rest) q9)
    (k : ∀ (H1 : Heap) (locs1 : List Loc), th = 0 → P1 H1 → cFr A1 H H1 → va_S A s.heap H1 locs1 → W p l e R s m args below meth c H1 locs1 (cells + mc1) (slots + ms1) Q (F0 m (pc + 3) ls (.float v :: rest))) : W p l e R s m args below meth c H locs cells slots Q (F0 m pc ls st0) := by
  refine vx_callf hr hS (fun q _ h => hA q h) (fun q h => hA q h) (fun q _ h => hA q h) (fun E ce q9 u t H1 locs1 ht _ _ hB _ hk hS1 hcell hv hcl => ?_) (fun r u t H1 locs1 ht _ hp hB _ hk hS1 => ?_)
  · obtain ⟨h0, hE, hP⟩ := hB
    rw [ht] at hP
    exact kx E ce q9 H1 locs1 h0 hE hP hk hS1 hcell hv hcl
  · obtain ⟨h0, rfl⟩ := hp
    exact k H1 locs1 h0 (by rw [← ht]; exact hB) hk hS1
/-- a wrapper's end -/
theorem nv_retL {x v : Int32} (hq : ∀ t, vx_MQ below (gQ v P1 A) XC args s mc ms A t → Q t) (hx : p.tables.exec = Jvm.exec) (hb : c.code = cc) (hr : meth.sig.returnType = some .int) (hlocks : meth.locks = false) (hc : cells ≤ mc) (hs : slots ≤ ms) (he : x = v) (hS : va_S A s.heap H locs) (hP : P1 H) (hdg : decode cc pc = .ok (.ireturn, 1)) : W p l e R s m args below meth c H locs cells slots Q (F0 m pc ls [.int x]) :=
  W.mono hq (W.widen hc hs (vx_ret (W.zret hx hb hr rfl (fun t ht _ => ⟨⟨x, (), rfl, he, by subst ht; exact hP⟩, hS.F ht⟩) hS.2.2 hdg hlocks)))
/-- the rows of a table that don't take E -/
theorem nv_pass {E : String} {hh : List (Nat × Nat × Nat × Nat)} {own : String} (h : ∀ x ∈ hh, x.2.2.2 ≠ 0 ∧ ∃ nm : String, (Cond.classLink own x.2.2.2 nm).before args s = true ∧ va_Nc E nm s) :
    ∀ z ∈ tableOf hh, covers z pc = false ∨ (z.catchType ≠ 0 ∧ ∃ nm : String, (Cond.classLink own z.catchType nm).before args s = true ∧ va_Nc E nm s) := by
  intro z hz
  obtain ⟨x, hx1, rfl⟩ := List.mem_map.mp hz
  exact Or.inr (h x hx1)
end WR
/-- the numbers that both are told by, behind k calls -/
def lF (k : Nat) (G Sv Hi In Le : Nat → Nat) (hs ch ty wy ln : Nat) : Prop := ∃ b, gWf b G ∧ 25 ≤ b ∧ b + ty ≤ 25 + 4 * k ∧ k ≤ 512 ∧ ch ≤ 8 ∧ (∀ j, j < ch → gWf b (hAt Hi j)) ∧ hs ≤ 1 ∧ (hs = 1 → gWf b Sv) ∧ ty ≤ 60 ∧ (∀ i, i < ty → In i < 128) ∧ ln ≤ 16 ∧ (∀ i, i < ln → Le i < 65536) ∧ wy < 2 ^ 31
theorem gWf_ext {b : Nat} {G F : Nat → Nat} (h : gWf b G) (e : ∀ k, k < 128 → F k = G k) : gWf b F := by
  obtain ⟨h0, h1, h2, h3, h4, h5, h6, h7, h8, h9, h10⟩ := h
  refine ⟨h0, fun k hk => by rw [e k hk]; exact h1 k hk, by rw [e 0 (by decide)]; exact h2, by rw [e 1 (by decide)]; exact h3, by rw [e 2 (by decide)]; exact h4, fun k hk => by rw [e (8 + k) (by omega)]; exact h5 k hk, fun d hd => ?_, fun t ht => by rw [e (112 + t) (by omega)]; exact h7 t ht, fun k hk => by rw [e (118 + k) (by omega), e (123 + k) (by omega)]; exact h8 k hk, by rw [e 3 (by decide), e 4 (by decide), e 5 (by decide)]; exact h9, ?_⟩
  · have := h6 d hd
    unfold gWd at this ⊢
    rw [e (32 + d) (by omega), e (40 + d) (by omega), e (48 + d) (by omega), e (56 + d) (by omega), e (64 + d) (by omega), e (72 + d) (by omega), e (80 + d) (by omega), e (88 + d) (by omega), e (96 + d) (by omega), e (104 + d) (by omega), e 0 (by decide), e 1 (by decide)]
    exact this
  · rw [e 3 (by decide), h10]
    exact sm_congr (fun k hk => (e (104 + k) (by omega)).symm)
section LF
variable {k : Nat} {G Sv Hi In Le : Nat → Nat} {hs ch ty wy ln : Nat}
theorem lF.next (hF : lF k G Sv Hi In Le hs ch ty wy ln) (hk : k < 512) : lF (k + 1) G Sv Hi In Le hs ch ty wy ln := by
  obtain ⟨b, h1, h2, h3, h4, h5⟩ := hF
  exact ⟨b, h1, h2, by omega, by omega, h5⟩
theorem hist_push {b : Nat} (hG : gWf b G) (hch : ch ≤ 8) (hHi : ∀ j, j < ch → gWf b (hAt Hi j)) : ∀ j, j < (if ch = 8 then 8 else ch + 1) → gWf b (hAt (hPush Hi G ch) j) := by
  intro j hj
  by_cases h8 : ch = 8
  · subst h8
    rw [if_pos rfl] at hj
    by_cases e : j = 7
    · subst e
      exact gWf_ext hG (fun k hk => hPush_new (n := 8) hk)
    · exact gWf_ext (hHi (j + 1) (by omega)) (fun k hk => hPush_old8 (by omega) hk)
  · rw [if_neg h8] at hj
    by_cases e : j = ch
    · have h := fun k (hk : k < 128) => hPush_new (Hi := Hi) (G := G) (n := ch) hk
      rw [if_neg h8] at h
      rw [e]
      exact gWf_ext hG h
    · exact gWf_ext (hHi j (by omega)) (fun k hk => hPush_old h8 (by omega) hk)
/-- behind a change -/
theorem lF.change (hF : lF k G Sv Hi In Le hs ch ty wy ln) (hk : k < 512) (v : V) (hv : ∀ b, gWf b G → 25 ≤ b → b + 1 < 2 ^ 20 → gWf (b + 1) v.2.2.2.2) (hw : v.2.1 ≤ 100) : lF (k + 1) v.2.2.2.2 Sv (if v.1 = 0 then hPush Hi G ch else Hi) In Le hs (if v.1 = 0 then (if ch = 8 then 8 else ch + 1) else ch) ty (vWy v wy) ln := by
  obtain ⟨b, h1, h2, h3, h4, h5, h6, h7, h8, h9, h10, h11, h12, h13⟩ := hF
  have hb : b + 1 < 2 ^ 20 := by omega
  refine ⟨b + 1, hv b h1 h2 hb, by omega, by omega, by omega, ?_, ?_, h7, fun q => gWf_mono (h8 q) (by omega) hb, h9, h10, h11, h12, ?_⟩
  · split
    · split <;> omega
    · exact h5
  · intro j hj
    refine gWf_mono (b := b) ?_ (by omega) hb
    by_cases q : v.1 = 0
    · rw [if_pos q] at hj ⊢
      exact hist_push h1 h5 h6 j hj
    · rw [if_neg q] at hj ⊢
      exact h6 j hj
  · unfold vWy
    split
    · exact h13
    · omega
end LF
abbrev lAN (s : State) : Nat → Prop := fun q => s.heap.size ≤ q
section LR
variable {p : Program} {l : Launch} {e : Env} {R : Room} {s : State} {m : MethodId} {args : Array Value} {below : List Frame} {meth : Method} {c : Code} {H : Heap} {locs : List Loc} {cells slots : Nat} {Q : State → Prop}
variable {cc : ByteArray} {pc mc1 ms1 : Nat} {ls : Array Slot} {rest st0 : List Value} {A A1 : Nat → Prop} {D : va_G} {tys : List (ClassId × FieldType)} {cL cB : ClassId} {v : Int32} {P1 : Heap → Prop} {H0 H1 : Heap} {o oD : Nat} {w1 : va_W} {AD : Nat → Nat}
theorem nv_kN {a : Array Value} (hr : vx_Run p l e R s m args below meth c H locs cells slots mc1 ms1 (F0 m pc ls st0) rest (gQ v P1 A1 a) noX A1) (hS : va_S A H0 H locs) (hA : ∀ q, A1 q → A q)
    (k : ∀ (H1 : Heap) (locs1 : List Loc), P1 H1 → cFr A1 H H1 → va_S A H0 H1 locs1 → W p l e R s m args below meth c H1 locs1 (cells + mc1) (slots + ms1) Q (F0 m (pc + 3) ls (.int v :: rest))) : W p l e R s m args below meth c H locs cells slots Q (F0 m pc ls st0) := by
  refine vx_calli hr hS (fun q _ h => hA q h) (fun q h => hA q h) (fun q _ h => h.elim) (fun E ce q9 u t H1 locs1 ht _ hf _ _ _ _ _ _ _ => hf.elim) (fun r u t H1 locs1 ht _ hp hB _ hk hS1 => ?_)
  rw [hp]
  exact k H1 locs1 (by rw [← ht]; exact hB) hk hS1
/-- an int of the script -/
theorem nv_sld {b9 L j : Nat} {xs : Nat → Int32} (hx : p.tables.exec = Jvm.exec) (hb : c.code = cc) (hX : va_X b9 L xs s s.heap) (hbl : b9 < s.heap.size) (hS : va_S (lAN s) s.heap H locs) (hj : j < L) (hL : L ≤ 3072) (hdg : decode cc pc = .ok (.iaload, 1))
    (k : W p l e R s m args below meth c H locs cells slots Q (F0 m (pc + 1) ls (.int (xs j) :: rest))) : W p l e R s m args below meth c H locs cells slots Q (F0 m pc ls (.int (nI j) :: .ref b9 :: rest)) :=
  va_sld hx hb hX hbl (Nat.not_le.mpr hbl) hS (vp_in_nI hj (by omega)) hdg (by rw [nI_clamp (by omega)]; exact k)
theorem nv_n0 {t : Nat} (ht : t ≤ 3) (h0 : nI t = 0) : t = 0 := (nI_eq (by omega) (by decide)).mp (h0.trans nI_0.symm)
theorem nv_iaddl {a n : Nat} : nI a + nI n = nI (a + n) := by
  show Int32.ofNat a + Int32.ofNat n = Int32.ofNat (a + n)
  exact (Int32.ofNat_add a n).symm
end LR
theorem cmp_refl (i : Int) : compare i i = Ordering.eq := by simp [compare, compareOfLessAndEq]
theorem dc_same {x : UInt64} (h : vf_n64 x) : Op.cmpValue (FP.dcmp x x) .l = 0 := by
  unfold vf_n64 at h
  rw [UInt64.le_iff_toNat_le, UInt64.toNat_and] at h
  have h3 : (0x7fffffffffffffff : UInt64).toNat = 2 ^ 63 - 1 := by decide
  have h4 : (0x7ff0000000000000 : UInt64).toNat = 9218868437227405312 := by decide
  rw [h3, h4, Nat.and_two_pow_sub_one_eq_mod] at h
  have hd := fq_n64 h
  have key : ∀ d : FP.Core.Datum, d ≠ .nan → FP.Core.order d d = some .eq := by
    intro d hn
    cases d with
    | nan => exact absurd rfl hn
    | inf s => exact congrArg some (cmp_refl _)
    | fin s c q => exact congrArg some (cmp_refl _)
  have e : FP.dcmp x x = some .eq := key _ hd
  rw [e]
  rfl
theorem vDoor_w (G : Nat → Nat) (a g : Int32) (z : Nat) (x y : Int32) : (vDoor G a g z x y).2.1 ≤ 100 := by
  unfold vDoor; repeat' split
  all_goals simp [vErr, vRef, vOk]
theorem vSill_w (G : Nat → Nat) (c : Int32) : (vSill G c).2.1 ≤ 100 := by
  unfold vSill; repeat' split
  all_goals simp [vErr, vRef, vOk]
theorem vGovern_w (G : Nat → Nat) (t c : Int32) : (vGovern G t c).2.1 ≤ 100 := by
  unfold vGovern; repeat' split
  all_goals simp [vErr, vRef, vOk]
theorem vSet_w (G : Nat → Nat) (d t : Int32) : (vSet G d t).2.1 ≤ 100 := by
  unfold vSet; repeat' split
  all_goals simp [vErr, vRef, vOk]
theorem vTell_w (G : Nat → Nat) (a c : Int32) (z : Nat) (x : Int32) : (vTell G a c z x).2.1 ≤ 100 := by
  unfold vTell; repeat' split
  all_goals simp [vErr, vRef, vOk]
theorem vKey_w (G : Nat → Nat) (a g : Int32) : (vKey G a g).2.1 ≤ 100 := by
  unfold vKey; repeat' split
  all_goals simp [vErr, vRef, vOk]
theorem vKnock_w (G : Nat → Nat) (d g : Int32) (z : Nat) (c : Int32) : (vKnock G d g z c).2.1 ≤ 100 := by
  unfold vKnock; repeat' split
  all_goals simp [vErr, vRef, vOk]
theorem vShut_w (G : Nat → Nat) (d : Int32) : (vShut G d).2.1 ≤ 100 := by
  unfold vShut; repeat' split
  all_goals simp [vErr, vRef, vOk]
theorem vFree_w (G : Nat → Nat) (k d : Int32) : (vFree G k d).2.1 ≤ 100 := by
  unfold vFree; repeat' split
  all_goals simp [vErr, vRef, vOk]
theorem vOrd_w100 (G : Nat → Nat) (k : Nat) (a b c d e : Int32) : (vOrd k a b c d e G).2.1 ≤ 100 := by
  unfold vOrd
  split
  · exact vDoor_w _ _ _ _ _ _
  · exact vSill_w _ _
  · exact vGovern_w _ _ _
  · exact vSet_w _ _ _
  · exact vTell_w _ _ _ _ _
  · exact vKey_w _ _ _
  · exact vKnock_w _ _ _ _ _
  · exact vShut_w _ _
  · exact vFree_w _ _ _
section LF2
variable {k : Nat} {G Sv Hi In Le : Nat → Nat} {hs ch ty wy ln : Nat}
theorem lF.clear (hF : lF k G Sv Hi In Le hs ch ty wy ln) (hk : k < 512) : lF (k + 1) gNew Sv Hi In Le hs 0 ty wy ln := by
  obtain ⟨b, h1, h2, h3, h4, h5, h6, h7, h8, h9, h10, h11, h12, h13⟩ := hF
  exact ⟨b, gWf_mono gWf_new h2 h1.1, h2, by omega, by omega, by omega, fun j hj => absurd hj (Nat.not_lt_zero j), h7, h8, h9, h10, h11, h12, h13⟩
theorem lF.undo (hF : lF k G Sv Hi In Le hs ch ty wy ln) (hk : k < 512) : lF (k + 1) (if ch = 0 then G else hAt Hi (ch - 1)) Sv Hi In Le hs (ch - 1) ty wy ln := by
  obtain ⟨b, h1, h2, h3, h4, h5, h6, h7, h8, h9, h10, h11, h12, h13⟩ := hF
  refine ⟨b, ?_, h2, by omega, by omega, by omega, fun j hj => h6 j (by omega), h7, h8, h9, h10, h11, h12, h13⟩
  split
  · exact h1
  · exact h6 _ (by omega)
theorem lF.snapshot (hF : lF k G Sv Hi In Le hs ch ty wy ln) (hk : k < 512) : lF (k + 1) G G Hi In Le 1 ch ty wy ln := by
  obtain ⟨b, h1, h2, h3, h4, h5, h6, h7, h8, h9, h10, h11, h12, h13⟩ := hF
  exact ⟨b, h1, h2, by omega, by omega, h5, h6, Nat.le_refl 1, fun _ => h1, h9, h10, h11, h12, h13⟩
theorem lF.restore (hF : lF k G Sv Hi In Le hs ch ty wy ln) (hk : k < 512) : lF (k + 1) (if hs = 0 then G else Sv) Sv Hi In Le hs (if hs = 0 then ch else 0) ty wy ln := by
  obtain ⟨b, h1, h2, h3, h4, h5, h6, h7, h8, h9, h10, h11, h12, h13⟩ := hF
  refine ⟨b, ?_, h2, by omega, by omega, ?_, ?_, h7, h8, h9, h10, h11, h12, h13⟩
  · split
    · exact h1
    · exact h8 (by omega)
  · split <;> omega
  · intro j hj
    split at hj
    · exact h6 j hj
    · exact absurd hj (Nat.not_lt_zero j)
theorem wrL_lt : ∀ {l : List Nat} {F : Nat → Nat} {n i : Nat}, (∀ c, c ∈ l → c < 65536) → n ≤ i → i < n + l.length → wrL l F n i < 65536
  | [], F, n, i, _, h1, h2 => absurd h2 (by simp; omega)
  | c :: l, F, n, i, hl, h1, h2 => by
    show wrL l (va_up F n c) (n + 1) i < 65536
    by_cases e : i = n
    · subst e
      have key : ∀ (l : List Nat) (F : Nat → Nat) (m : Nat), i < m → wrL l F m i = F i := by
        intro l
        induction l with
        | nil => intro F m _; rfl
        | cons d l ih =>
          intro F m hm
          show wrL l (va_up F m d) (m + 1) i = F i
          rw [ih _ _ (by omega)]
          exact if_neg (by omega)
      rw [key l _ _ (Nat.lt_succ_self i), show va_up F i c i = c from if_pos rfl]
      exact hl c List.mem_cons_self
    · exact wrL_lt (fun d hd => hl d (List.mem_cons_of_mem _ hd)) (by omega) (by simp at h2; omega)
theorem lF.text (hF : lF k G Sv Hi In Le hs ch ty wy ln) (hk : k < 512) {l : List Nat} (hl : l.length ≤ 16) (hc : ∀ c, c ∈ l → c < 65536) : lF (k + 1) G Sv Hi In (wrL l Le 0) hs ch ty wy l.length := by
  obtain ⟨b, h1, h2, h3, h4, h5, h6, h7, h8, h9, h10, h11, h12, h13⟩ := hF
  exact ⟨b, h1, h2, by omega, by omega, h5, h6, h7, h8, h9, h10, hl, fun i hi => wrL_lt hc (Nat.zero_le i) (by omega), h13⟩
theorem apI_F {F : Nat → Nat} {n : Nat} {p : Int32} (hF : ∀ i, i < n → F i < 128) : ∀ m, (∀ j, j < m → bC p j ≤ 1) → n ≤ (apI F n p m).2 ∧ (apI F n p m).2 ≤ n + m ∧ ∀ i, i < (apI F n p m).2 → (apI F n p m).1 i < 128
  | 0, _ => ⟨Nat.le_refl n, Nat.le_refl n, hF⟩
  | m + 1, h => by
    obtain ⟨h1, h2, h3⟩ := apI_F hF m (fun j hj => h j (by omega))
    unfold apI
    by_cases e : bO p m = 0
    · rw [if_pos e]; exact ⟨h1, by omega, h3⟩
    · rw [if_neg e]
      refine ⟨by show n ≤ (apI F n p m).2 + 1; omega, by show (apI F n p m).2 + 1 ≤ n + (m + 1); omega, fun i hi => ?_⟩
      have hi : i < (apI F n p m).2 + 1 := hi
      show va_up (apI F n p m).1 (apI F n p m).2 (bO p m) i < 128
      unfold va_up
      by_cases e2 : i = (apI F n p m).2
      · rw [if_pos e2]
        have h4 := h m (Nat.lt_succ_self m)
        unfold bC at h4
        rw [if_neg e] at h4
        split at h4
        · omega
        · omega
      · rw [if_neg e2]; exact h3 i (by omega)
theorem lF.append (hF : lF k G Sv Hi In Le hs ch ty wy ln) (hk : k < 512) (p : Int32) : lF (k + 1) G Sv Hi (if 4 < sm (bC p) 4 then In else (if 60 < ty + sm (bC p) 4 then In else (apI In ty p 4).1)) Le hs ch (if 4 < sm (bC p) 4 then ty else (if 60 < ty + sm (bC p) 4 then ty else (apI In ty p 4).2)) wy ln := by
  by_cases c1 : 4 < sm (bC p) 4
  · rw [if_pos c1, if_pos c1]; exact hF.next hk
  · rw [if_neg c1, if_neg c1]
    by_cases c2 : 60 < ty + sm (bC p) 4
    · rw [if_pos c2, if_pos c2]; exact hF.next hk
    · rw [if_neg c2, if_neg c2]
      obtain ⟨b, h1, h2, h3, h4, h5, h6, h7, h8, h9, h10, h11, h12, h13⟩ := hF
      have hb : ∀ j, j < 4 → bC p j ≤ 1 := by
        intro j hj
        have hm := sm_mono (f := bC p) (a := j + 1) (b := 4) (by omega)
        rw [sm] at hm
        have h5 : bC p j ≤ 4 := by omega
        unfold bC at h5 ⊢
        split
        · omega
        · rename_i q; rw [if_neg q] at h5; split
          · omega
          · rename_i q2; rw [if_neg q2] at h5; omega
      have e1 := apI_F h10 4 hb
      have e2 := apI_n (F := In) (n := ty) (Nat.not_lt.mp c1) 4 (Nat.le_refl 4)
      exact ⟨b, h1, h2, by omega, by omega, h5, h6, h7, h8, by omega, e1.2.2, h11, h12, h13⟩
theorem lF.read (hF : lF k G Sv Hi In Le hs ch ty wy ln) (hk : k < 512) : lF (k + 1) (if mal In ty then G else (if rS In ty G < kL In ty + 1 then G else (GS In ty G (kL In ty + 1)))) Sv (if mal In ty then Hi else (if rS In ty G < kL In ty + 1 then Hi else (hPush Hi G ch))) In Le hs (if mal In ty then ch else (if rS In ty G < kL In ty + 1 then ch else (if ch = 8 then 8 else ch + 1))) 0 (if mal In ty then wy else (if rS In ty G < kL In ty + 1 then vWy (vS In ty G (rS In ty G)) wy else wy)) ln := by
  obtain ⟨b, h1, h2, h3, h4, h5, h6, h7, h8, h9, h10, h11, h12, h13⟩ := hF
  by_cases c1 : mal In ty
  · rw [if_pos c1, if_pos c1, if_pos c1, if_pos c1]
    exact ⟨b, h1, h2, by omega, by omega, h5, h6, h7, h8, by omega, fun i hi => absurd hi (Nat.not_lt_zero i), h11, h12, h13⟩
  · rw [if_neg c1, if_neg c1, if_neg c1, if_neg c1]
    by_cases c2 : rS In ty G < kL In ty + 1
    · rw [if_pos c2, if_pos c2, if_pos c2, if_pos c2]
      refine ⟨b, h1, h2, by omega, by omega, h5, h6, h7, h8, by omega, fun i hi => absurd hi (Nat.not_lt_zero i), h11, h12, ?_⟩
      have := vOrd_w100 (GS In ty G (rS In ty G)) (kd In ty (sn In ty (rS In ty G))) (oV In ty (sn In ty (rS In ty G)) 1) (oV In ty (sn In ty (rS In ty G)) 2) (oV In ty (sn In ty (rS In ty G)) 3) (oV In ty (sn In ty (rS In ty G)) 4) (oV In ty (sn In ty (rS In ty G)) 5)
      have hw : (vS In ty G (rS In ty G)).2.1 ≤ 100 := this
      unfold vWy
      split
      · exact h13
      · omega
    · rw [if_neg c2, if_neg c2, if_neg c2, if_neg c2]
      have e1 := kL_gd (F := In) h9
      have e2 := (sn_ok e1.2.1)
      have hb : b + 32 < 2 ^ 20 := by omega
      have e3 := gWf_GS c1 h9 h1 h2 hb (kL In ty + 1) (Nat.le_refl _)
      refine ⟨b + (kL In ty + 1), e3, by omega, by omega, by omega, ?_, ?_, h7, fun q => gWf_mono (h8 q) (by omega) e3.1, by omega, fun i hi => absurd hi (Nat.not_lt_zero i), h11, h12, h13⟩
      · split <;> omega
      · intro j hj
        exact gWf_mono (hist_push h1 h5 h6 j hj) (by omega) e3.1
end LF2
theorem nv_b01 (x : Int32) : (if x = 0 then 0 else 1 : Nat) ≤ 1 := by split <;> decide
theorem nd_mean {k : Nat} {x : Int32} (h : k ≤ 8) : vf_n64 (if k = 0 then FP.dconst0 else FP.ddiv (FP.i2d x) (FP.i2d (nI k))) := by
  by_cases h0 : k = 0
  · rw [if_pos h0]; unfold vf_n64; decide +kernel
  · rw [if_neg h0]; exact nd_doors h h0
theorem iR_lt {x : Int32} {n : Nat} (h : iR x n) (hn : n < 2 ^ 31) : tN x < n := by
  obtain ⟨k, hk, rfl⟩ := iR_of h hn
  rw [tN_nI (by omega)]
  exact hk
theorem enD_lt {b : Nat} {G : Nat → Nat} (hG : gWf b G) {a : Nat} (ha : a < 3) : ∀ c, c ∈ enD G a → c < 65536 := by
  intro c hc
  have h5 := hG.2.2.2.2.2.1
  have key : ∀ k z, k < 4 → z < 2 → 97 + G (gEndAt a k z) < 65536 := by
    intro k z hk hz
    have := h5 (2 * (4 * a + k) + z) (by omega)
    unfold gEndAt
    rw [show 8 + 2 * (4 * a + k) + z = 8 + (2 * (4 * a + k) + z) by omega]
    omega
  unfold enD enH at hc
  simp only [List.mem_append, List.mem_cons, List.not_mem_nil, or_false] at hc
  rcases hc with (rfl | rfl | rfl | rfl) | rfl | rfl | rfl | rfl | rfl
  all_goals first | exact key _ _ (by decide) (by decide) | decide
theorem lnD_lt {b : Nat} {G : Nat → Nat} (hG : gWf b G) {d : Nat} (hd : d < G 0) : ∀ c, c ∈ lnD G d → c < 65536 := by
  intro c hc
  have h0 := hG.2.2.1
  have h1 := hG.2.2.2.1
  obtain ⟨w_a, w_g, w_n, w_s, w_w, w_l, w_o, w_x, w_y, w_r⟩ := hG.door (d := d) (by omega)
  have he : gEnd G d ≤ 25 := by
    have h5 := hG.2.2.2.2.2.1
    have hcc := gWf_case hG (d := d) (by omega)
    unfold gEnd gEndAt
    rw [show 8 + 2 * (4 * G (32 + d) + gCase G d) + G (48 + d) = 8 + (2 * (4 * G (32 + d) + gCase G d) + G (48 + d)) by omega]
    exact h5 _ (by omega)
  unfold lnD at hc
  simp only [List.mem_append, List.mem_cons] at hc
  rcases hc with rfl | rfl | rfl | rfl | rfl | rfl | hc | hc
  · unfold gl; split
    · decide
    · split <;> decide
  · split <;> decide
  · omega
  · omega
  · decide
  · omega
  · split at hc
    · exact absurd hc List.not_mem_nil
    · simp only [List.mem_cons, List.not_mem_nil, or_false] at hc
      rcases hc with rfl | rfl
      · decide
      · omega
  · split at hc
    · simp only [List.mem_cons, List.not_mem_nil, or_false] at hc
      rw [hc]; decide
    · split at hc
      · exact absurd hc List.not_mem_nil
      · simp only [List.mem_cons, List.not_mem_nil, or_false] at hc
        rcases hc with rfl | rfl
        · decide
        · omega
theorem nv_atlt {D : va_G} {AD : Nat → Nat} {H : Heap} {ws : va_W} {b n i : Nat} (hP : va_P D vwCl ws H) (hw : cAt AD b n ws) (hlen : ws.length = n) (hi : i < n) : AD (b + i) < H.size := by
  have hk : ws[i]? = some (ws[i]'(by omega)) := List.getElem?_eq_getElem (by omega)
  obtain ⟨_, e⟩ := hw i _ hk
  rw [← e]
  exact vx_lt hP hk
/-- the class's cells lie in the heap -/
theorem cW_lt {D : va_G} {cI cC cD cR : ClassId} {AD : Nat → Nat} {G Sv Hi In Le : Nat → Nat} {hs ch ty wy ln : Nat} {ea ra wd : Int32} {H : Heap} (h : cW D cI cC cD cR AD G Sv Hi In Le hs ch ty wy ln ea ra wd H) : ∀ i, i < 165 → AD i < H.size := by
  obtain ⟨hOb, ⟨u1, _, _, h1⟩, ⟨V, SA, o, pl, vc, _, hIn⟩, ⟨u2, _, _, h2⟩, ⟨f, _, hPa, hRi⟩, ⟨P, Q9, hWk⟩, ⟨F, _, _, hTx⟩⟩ := h
  intro i hi
  rcases (show i = 0 ∨ (1 ≤ i ∧ i < 15) ∨ (15 ≤ i ∧ i < 29) ∨ (29 ≤ i ∧ i < 31) ∨ (31 ≤ i ∧ i < 157) ∨ (157 ≤ i ∧ i < 160) ∨ (160 ≤ i ∧ i < 162) ∨ 162 ≤ i by omega) with q | q | q | q | q | q | q | q
  · have := nv_atlt (b := 0) (n := 1) (i := 0) hOb cAt_1 rfl (by omega)
    rwa [show 0 + 0 = i by omega] at this
  · have := nv_atlt (n := 14) (i := i - 1) h1 (cAt_hw 1) rfl (by omega)
    rwa [show 1 + (i - 1) = i by omega] at this
  · have := nv_atlt (n := 14) (i := i - 15) h2 (cAt_hw 15) rfl (by omega)
    rwa [show 15 + (i - 15) = i by omega] at this
  · have := nv_atlt (b := 29) (n := 2) (i := i - 29) hPa cAt_2 rfl (by omega)
    rwa [show 29 + (i - 29) = i by omega] at this
  · obtain ⟨u, _, h3, _⟩ := hRi ((i - 31) / 14) (by omega)
    have := nv_atlt (n := 14) (i := (i - 31) % 14) h3 (cAt_hw (31 + 14 * ((i - 31) / 14))) rfl (by omega)
    rwa [show 31 + 14 * ((i - 31) / 14) + (i - 31) % 14 = i by omega] at this
  · have := nv_atlt (b := 157) (n := 3) (i := i - 157) hWk cAt_3 rfl (by omega)
    rwa [show 157 + (i - 157) = i by omega] at this
  · have := nv_atlt (b := 160) (n := 2) (i := i - 160) hTx cAt_2 rfl (by omega)
    rwa [show 160 + (i - 160) = i by omega] at this
  · have := nv_atlt (b := 162) (n := 3) (i := i - 162) hIn cAt_3 rfl (by omega)
    rwa [show 162 + (i - 162) = i by omega] at this
