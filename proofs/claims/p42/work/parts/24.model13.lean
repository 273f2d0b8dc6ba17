/-! quotients of ints are numbers: by the encoding alone -/
theorem fq_fin {w p : Nat} {f : FP.Core.Fmt} (hf : f = ⟨w, p⟩) {s : Bool} {num den : Nat} {e : Int} : (∃ c q, FP.Core.roundRatio f s num den e = .fin s c q ∧ (c < 2 ^ p ∨ c = f.tails ∨ c = 0) ∧ (f.qmin ≤ q ∧ (q ≤ f.qmax ∨ q = f.qmin))) ∨ FP.Core.roundRatio f s num den e = .inf s := by
  subst hf
  unfold FP.Core.roundRatio
  split
  · exact Or.inl ⟨0, _, rfl, Or.inr (Or.inr rfl), Int.le_refl _, Or.inr rfl⟩
  · unfold FP.Core.roundAt FP.Core.settle FP.Core.bound
    have h1 : FP.Core.Fmt.qmin ⟨w, p⟩ ≤ FP.Core.quantum ⟨w, p⟩ num den e := Int.le_max_left _ _
    split
    · rename_i h
      split
      · rename_i h2; exact Or.inl ⟨_, _, rfl, Or.inl h, h1, Or.inl h2⟩
      · exact Or.inr rfl
    · split
      · rename_i h2; exact Or.inl ⟨_, _, rfl, Or.inr (Or.inl rfl), by omega, Or.inl h2⟩
      · exact Or.inr rfl
theorem fq_e64 {s : Bool} {num den : Nat} {e : Int} : FP.Core.encode FP.Core.b64 (FP.Core.roundRatio FP.Core.b64 s num den e) % 9223372036854775808 ≤ 9218868437227405312 ∧ FP.Core.encode FP.Core.b64 (FP.Core.roundRatio FP.Core.b64 s num den e) < 18446744073709551616 := by
  have t1 : FP.Core.Fmt.tails FP.Core.b64 = 4503599627370496 := by decide +kernel
  have t2 : FP.Core.Fmt.exps FP.Core.b64 = 2048 := by decide +kernel
  have t3 : FP.Core.Fmt.qmin FP.Core.b64 = -1074 := by decide +kernel
  have t4 : FP.Core.Fmt.qmax FP.Core.b64 = 971 := by decide +kernel
  have hs : s.toNat ≤ 1 := by cases s <;> decide
  rcases fq_fin (w := 11) (p := 53) (f := FP.Core.b64) rfl (s := s) (num := num) (den := den) (e := e) with ⟨c, q, h, hc, h1, h2⟩ | h
  · rw [h]
    rw [t3] at h1 h2
    rw [t1] at hc
    rw [t4] at h2
    have hc2 : c < 9007199254740992 := by
      rcases hc with hc | hc | hc
      · exact hc
      · omega
      · omega
    unfold FP.Core.encode FP.Core.assemble
    simp only [t1, t2, t3]
    split <;> omega
  · rw [h]
    unfold FP.Core.encode FP.Core.assemble
    simp only [t1, t2]
    omega
theorem fq_e32 {s : Bool} {num den : Nat} {e : Int} : FP.Core.encode FP.Core.b32 (FP.Core.roundRatio FP.Core.b32 s num den e) % 2147483648 ≤ 2139095040 ∧ FP.Core.encode FP.Core.b32 (FP.Core.roundRatio FP.Core.b32 s num den e) < 4294967296 := by
  have t1 : FP.Core.Fmt.tails FP.Core.b32 = 8388608 := by decide +kernel
  have t2 : FP.Core.Fmt.exps FP.Core.b32 = 256 := by decide +kernel
  have t3 : FP.Core.Fmt.qmin FP.Core.b32 = -149 := by decide +kernel
  have t4 : FP.Core.Fmt.qmax FP.Core.b32 = 104 := by decide +kernel
  have hs : s.toNat ≤ 1 := by cases s <;> decide
  rcases fq_fin (w := 8) (p := 24) (f := FP.Core.b32) rfl (s := s) (num := num) (den := den) (e := e) with ⟨c, q, h, hc, h1, h2⟩ | h
  · rw [h]
    rw [t3] at h1 h2
    rw [t1] at hc
    rw [t4] at h2
    have hc2 : c < 16777216 := by
      rcases hc with hc | hc | hc
      · exact hc
      · omega
      · omega
    unfold FP.Core.encode FP.Core.assemble
    simp only [t1, t2, t3]
    split <;> omega
  · rw [h]
    unfold FP.Core.encode FP.Core.assemble
    simp only [t1, t2]
    omega
theorem fq_n64 {n : Nat} (h : n % 9223372036854775808 ≤ 9218868437227405312) : FP.Core.decode FP.Core.b64 n ≠ .nan := by
  have t1 : FP.Core.Fmt.tails FP.Core.b64 = 4503599627370496 := by decide +kernel
  have t2 : FP.Core.Fmt.exps FP.Core.b64 = 2048 := by decide +kernel
  unfold FP.Core.decode FP.Core.fieldE FP.Core.fieldT
  rw [t1, t2]
  split
  · split
    · exact fun q => FP.Core.Datum.noConfusion q
    · omega
  · split
    · exact fun q => FP.Core.Datum.noConfusion q
    · exact fun q => FP.Core.Datum.noConfusion q
theorem fq_n32 {n : Nat} (h : n % 2147483648 ≤ 2139095040) : FP.Core.decode FP.Core.b32 n ≠ .nan := by
  have t1 : FP.Core.Fmt.tails FP.Core.b32 = 8388608 := by decide +kernel
  have t2 : FP.Core.Fmt.exps FP.Core.b32 = 256 := by decide +kernel
  unfold FP.Core.decode FP.Core.fieldE FP.Core.fieldT
  rw [t1, t2]
  split
  · split
    · exact fun q => FP.Core.Datum.noConfusion q
    · omega
  · split
    · exact fun q => FP.Core.Datum.noConfusion q
    · exact fun q => FP.Core.Datum.noConfusion q
/-- a number other than 0 -/
def fq_nz : FP.Core.Datum → Bool
  | .fin _ c _ => c != 0
  | _ => false
theorem fq_q {f : FP.Core.Fmt} {x y : FP.Core.Datum} (hx : x ≠ .nan) (hy : fq_nz y = true) : (∃ s num den e, FP.Core.quotient f x y = FP.Core.roundRatio f s num den e) ∨ ∃ s, FP.Core.quotient f x y = .inf s := by
  cases y with
  | nan => exact absurd hy (by decide)
  | inf s => exact absurd hy (by simp [fq_nz])
  | fin t d r =>
    have hd : d ≠ 0 := by simpa [fq_nz] using hy
    cases x with
    | nan => exact absurd rfl hx
    | inf s => exact Or.inr ⟨_, rfl⟩
    | fin s c q => exact Or.inl ⟨s != t, c, d, q - r, if_neg hd⟩
theorem nd_div {a b : Int32} (h : fq_nz (FP.Core.decode FP.Core.b64 (FP.i2d b).toNat) = true) : vf_n64 (FP.ddiv (FP.i2d a) (FP.i2d b)) := by
  have ha : FP.Core.decode FP.Core.b64 (FP.i2d a).toNat ≠ .nan := by
    have h1 := fq_e64 (s := decide (a.toInt < 0)) (num := a.toInt.natAbs) (den := 1) (e := 0)
    have h2 : (FP.i2d a).toNat = FP.Core.encode FP.Core.b64 (FP.Core.roundRatio FP.Core.b64 (decide (a.toInt < 0)) a.toInt.natAbs 1 0) := Nat.mod_eq_of_lt h1.2
    rw [h2]
    exact fq_n64 h1.1
  have hi : ∀ s, FP.Core.encode FP.Core.b64 (.inf s) % 9223372036854775808 ≤ 9218868437227405312 ∧ FP.Core.encode FP.Core.b64 (.inf s) < 18446744073709551616 := by intro s; cases s <;> decide +kernel
  have hq : FP.Core.div FP.Core.b64 (FP.i2d a).toNat (FP.i2d b).toNat % 9223372036854775808 ≤ 9218868437227405312 ∧ FP.Core.div FP.Core.b64 (FP.i2d a).toNat (FP.i2d b).toNat < 18446744073709551616 := by
    unfold FP.Core.div
    rcases fq_q (f := FP.Core.b64) ha h with ⟨s, num, den, e, q⟩ | ⟨s, q⟩
    · rw [q]; exact fq_e64
    · rw [q]; exact hi s
  unfold vf_n64
  rw [UInt64.le_iff_toNat_le, UInt64.toNat_and]
  have h1 : (0x7fffffffffffffff : UInt64).toNat = 2 ^ 63 - 1 := by decide
  have h2 : (0x7ff0000000000000 : UInt64).toNat = 9218868437227405312 := by decide
  rw [h1, h2, Nat.and_two_pow_sub_one_eq_mod]
  have h3 : (FP.ddiv (FP.i2d a) (FP.i2d b)).toNat = FP.Core.div FP.Core.b64 (FP.i2d a).toNat (FP.i2d b).toNat := Nat.mod_eq_of_lt hq.2
  rw [h3]
  exact hq.1
theorem nf_div {a b : Int32} (h : fq_nz (FP.Core.decode FP.Core.b32 (FP.i2f b).toNat) = true) : vf_n32 (FP.fdiv (FP.i2f a) (FP.i2f b)) := by
  have ha : FP.Core.decode FP.Core.b32 (FP.i2f a).toNat ≠ .nan := by
    have h1 := fq_e32 (s := decide (a.toInt < 0)) (num := a.toInt.natAbs) (den := 1) (e := 0)
    have h2 : (FP.i2f a).toNat = FP.Core.encode FP.Core.b32 (FP.Core.roundRatio FP.Core.b32 (decide (a.toInt < 0)) a.toInt.natAbs 1 0) := Nat.mod_eq_of_lt h1.2
    rw [h2]
    exact fq_n32 h1.1
  have hi : ∀ s, FP.Core.encode FP.Core.b32 (.inf s) % 2147483648 ≤ 2139095040 ∧ FP.Core.encode FP.Core.b32 (.inf s) < 4294967296 := by intro s; cases s <;> decide +kernel
  have hq : FP.Core.div FP.Core.b32 (FP.i2f a).toNat (FP.i2f b).toNat % 2147483648 ≤ 2139095040 ∧ FP.Core.div FP.Core.b32 (FP.i2f a).toNat (FP.i2f b).toNat < 4294967296 := by
    unfold FP.Core.div
    rcases fq_q (f := FP.Core.b32) ha h with ⟨s, num, den, e, q⟩ | ⟨s, q⟩
    · rw [q]; exact fq_e32
    · rw [q]; exact hi s
  unfold vf_n32
  rw [UInt32.le_iff_toNat_le, UInt32.toNat_and]
  have h1 : (0x7fffffff : UInt32).toNat = 2 ^ 31 - 1 := by decide
  have h2 : (0x7f800000 : UInt32).toNat = 2139095040 := by decide
  rw [h1, h2, Nat.and_two_pow_sub_one_eq_mod]
  have h3 : (FP.fdiv (FP.i2f a) (FP.i2f b)).toNat = FP.Core.div FP.Core.b32 (FP.i2f a).toNat (FP.i2f b).toNat := Nat.mod_eq_of_lt hq.2
  rw [h3]
  exact hq.1
theorem fq_8 : ∀ k, k < 9 → k ≠ 0 → fq_nz (FP.Core.decode FP.Core.b64 (FP.i2d (nI k)).toNat) = true := by decide +kernel
set_option maxRecDepth 100000 in
theorem fq_13 : ∀ i, i < 128 → ∀ j, j < 64 → i + j ≠ 0 → fq_nz (FP.Core.decode FP.Core.b32 (FP.i2f (nI (64 * i + j))).toNat) = true := by decide +kernel
theorem nd_doors {x : Int32} {k : Nat} (h : k ≤ 8) (h0 : ¬ k = 0) : vf_n64 (FP.ddiv (FP.i2d x) (FP.i2d (nI k))) := nd_div (fq_8 k (by omega) h0)
theorem nf_knocks {x : Int32} {k : Nat} (h : k < 8192) (h0 : ¬ k = 0) : vf_n32 (FP.fdiv (FP.i2f x) (FP.i2f (nI k))) := by
  have h1 := fq_13 (k / 64) (by omega) (k % 64) (by omega) (by omega)
  rw [show 64 * (k / 64) + k % 64 = k by omega] at h1
  exact nf_div h1
theorem nI_n0 {a : Nat} (ha : a < 2 ^ 31) (h : ¬ a = 0) : nI a ≠ 0 := fun q => h ((nI_eq ha (by decide)).mp q)
def mQd (D : va_G) (v : UInt64) (w1 : va_W) (A : Nat → Prop) : Array Value → State → Outcome → State → Prop := va_Qd (fun (r : UInt64) (_ : Unit) => r = v) (fun _ t => va_P D vwCl w1 t.heap) A
def mQf (D : va_G) (v : UInt32) (w1 : va_W) (A : Nat → Prop) : Array Value → State → Outcome → State → Prop := va_Qf (fun (r : UInt32) (_ : Unit) => r = v) (fun _ t => va_P D vwCl w1 t.heap) A
section NF
variable {p : Program} {l : Launch} {e : Env} {R : Room} {s : State} {m : MethodId} {args : Array Value} {below : List Frame} {meth : Method} {c : Code} {H : Heap} {locs : List Loc} {cells slots : Nat} {Q : State → Prop}
variable {cc : ByteArray} {pc : Nat} {ls : Array Slot} {rest : List Value} {D : va_G} {A : Nat → Prop} {H0 : Heap} {w0 w1 : va_W}
theorem nv_retMd {x v : UInt64} {w : va_W} (hq : ∀ t, MQ below (mQd D v w1 A) args s cells slots A t → Q t) (hx : p.tables.exec = Jvm.exec) (hb : c.code = cc) (hr : meth.sig.returnType = some .double) (hlocks : meth.locks = false) (he : x = v) (hS : va_S A s.heap H locs) (hP : va_P D vwCl w H) (hw : w = w1) (hdg : decode cc pc = .ok (.dreturn, 1)) : W p l e R s m args below meth c H locs cells slots Q (F0 m pc ls [.double x]) :=
  W.mono hq (W.dret hx hb hr (fun t ht _ => ⟨⟨x, (), rfl, he, by subst hw; subst ht; exact hP⟩, hS.F ht⟩) hS.2.2 hdg hlocks)
theorem nv_retMf {x v : UInt32} {w : va_W} (hq : ∀ t, MQ below (mQf D v w1 A) args s cells slots A t → Q t) (hx : p.tables.exec = Jvm.exec) (hb : c.code = cc) (hr : meth.sig.returnType = some .float) (hlocks : meth.locks = false) (he : x = v) (hS : va_S A s.heap H locs) (hP : va_P D vwCl w H) (hw : w = w1) (hdg : decode cc pc = .ok (.freturn, 1)) : W p l e R s m args below meth c H locs cells slots Q (F0 m pc ls [.float x]) :=
  W.mono hq (W.fret hx hb hr (fun t ht _ => ⟨⟨x, (), rfl, he, by subst hw; subst ht; exact hP⟩, hS.F ht⟩) hS.2.2 hdg hlocks)
/-- a new array, of the one class that arrays of its type have -/
theorem nv_newa {cl : List vw_C} {ws : va_W} {tys : List (ClassId × FieldType)} (hx : p.tables.exec = Jvm.exec) (hb : c.code = cc) {atype : ArrayType} (harr : (Cond.arrayClass (newarray.typeOf atype)).before args s = true) {ty : FieldType} (hty : newarray.typeOf atype = ty) (hK : va_K D cl tys s) (hP : va_P D cl ws H) (hD : va_D A ws) (hS : va_S A H0 H locs) (hA : ∀ q, H0.size ≤ q → A q) (t0 : Nat) {cA : ClassId} (ht : tys[t0]? = some (cA, ty))
    {n : Nat} {a0 : vp_A} (ha : ∀ cA : ClassId, vp_cell cA a0 = arrV cA n (fun _ => defaultValue ty)) (hn : n < 2 ^ 31) (hbytes : n * componentBytes ty ≤ 536870912) (hcells : cells + 1 ≤ R.cells) (hslots : slots + n ≤ R.slots) (hdg : decode cc pc = .ok (.newarray atype, 2))
    (kk : ∀ (q : Nat) (H1 : Heap), va_P D cl (ws ++ [(q, .inl (cA, a0))]) H1 → va_D A (ws ++ [(q, .inl (cA, a0))]) → va_S A H0 H1 locs →
      W p l e R s m args below meth c H1 locs (cells + 1) (slots + n) Q (F0 m (pc + 2) ls (.ref q :: rest))) : W p l e R s m args below meth c H locs cells slots Q (F0 m pc ls (.int (nI n) :: rest)) := by
  refine va_newa hx hb harr hty hK hP hD hS hA ha (fun q => ?_) (nI_clamp hn) hbytes hcells hslots hdg (fun q cB H1 hK1 hP1 hD1 hS1 => ?_)
  · have q1 := Int32.lt_iff_toInt_lt.mp q
    rw [nI_toInt hn, Int32.toInt_zero] at q1
    omega
  · have e1 := (hK.2 t0 _ ht).2
    have e2 := (hK1.2 tys.length (cB, ty) (by rw [List.getElem?_append_right (Nat.le_refl _), Nat.sub_self]; rfl)).2
    have e : cB = cA := by
      subst hty
      cases atype <;> exact Option.some.inj (e2.symm.trans e1)
    subst e
    exact kk q H1 hP1 hD1 hS1
end NF
theorem nv_metN {l : Launch} {y : MethodName} {ws ws' : List Cond} {rm : Room} {Pre : State → Prop} {Qc : Array Value → State → Outcome → State → Prop} {mc ms : Nat} {free : Addr → Prop} {cc : ByteArray} {maxL : Nat} {ret : Option FieldType} {As : List Value} (hy : plainName y.cls = true) (hw : ws = Cond.code y cc maxL ret :: ws') (hl : (lg_sl As).length ≤ maxL)
    (body : ∀ p e s m args below meth c (Q : State → Prop), (∀ t, MQ below Qc args s mc ms free t → Q t) → args = As.toArray → meth.name = y.name → nA p s m args meth c cc maxL ret ws y.cls → Pre s → ∀ ls, lv_has ls maxL (lv_args 0 As) →
      W p l e rm s m args below meth c s.heap [] 0 0 Q (F0 m 0 ls [])) : Met l y ws rm (va_Pc As Pre) Qc mc ms free := by
  refine Met.ofW (cc := cc) (maxL := maxL) (ret := ret) hy hw ?_
  intro p e s m args below meth c s₁ B hml hv
  obtain ⟨rfl, hp⟩ := hv
  have h := body p e s m _ below meth c _ (fun t h => h) rfl (name_of_methodNamed B.named B.method).1 ⟨B.exec, B.bytes, B.returns, atoms_spec (ws := ws) B.pre, findClass_of_methodNamed B.named, B.notSynchronized, hml⟩ hp _ (lv_entry As (n := maxL) hl)
  rw [lg_entry_eq]
  exact h
theorem nd_same {A : Nat → Prop} {ws ws' : va_W} (h : va_D A ws) (e : ws.map Prod.fst = ws'.map Prod.fst) : va_D A ws' := by
  have g : ∀ (k : Nat) (q : Nat × va_E), ws'[k]? = some q → ∃ q', ws[k]? = some q' ∧ q'.1 = q.1 := by
    intro k q hk
    have h1 := congrArg (fun z => z[k]?) e
    simp only [List.getElem?_map, hk, Option.map_some] at h1
    cases h2 : ws[k]? with
    | none => rw [h2] at h1; cases h1
    | some q' => rw [h2] at h1; exact ⟨q', rfl, Option.some.inj h1⟩
  refine ⟨fun i j x y hi hj hxy => ?_, fun k q hk => ?_⟩
  · obtain ⟨x1, a1, a2⟩ := g i x hi
    obtain ⟨y1, b1, b2⟩ := g j y hj
    exact h.1 i j x1 y1 a1 b1 (by rw [a2, b2]; exact hxy)
  · obtain ⟨q1, a1, a2⟩ := g k q hk
    rw [← a2]; exact h.2 k q1 a1
