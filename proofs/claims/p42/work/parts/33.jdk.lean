theorem nv_and255 {a : Nat} (h : a < 256) : nI a &&& nI 255 = nI a := by
  rw [nb_and]
  congr 1
  apply Nat.eq_of_testBit_eq
  intro j
  rw [Nat.testBit_and, show (255 : Nat) = 2 ^ 8 - 1 from rfl, Nat.testBit_two_pow_sub_one]
  by_cases hj : j < 8
  · simp [hj]
  · rw [Nat.testBit_lt_two_pow (Nat.lt_of_lt_of_le h (Nat.pow_le_pow_right (show 0 < 2 by decide) (show 8 ≤ j by omega)))]; rfl
/-- the sign at the place k of the literal i -/
def sch (i k : Nat) : Nat := ((sByt.getD i []).getD k 0).toNatClampNeg
theorem sch_eq : ∀ i, i < 13 → ∀ k, k < sLen.getD i 0 → (sByt.getD i []).getD k 0 = nI (sch i k) ∧ 0 < sch i k ∧ sch i k < 127 := by decide +kernel
theorem sLen_lt : ∀ i, i < 13 → sLen.getD i 0 < 11 := by decide +kernel
/-- indexOf -/
def sIx (i c : Nat) : Int32 := if fd (fun k => sch i k = c) (sLen.getD i 0) < sLen.getD i 0 then nI (fd (fun k => sch i k = c) (sLen.getD i 0)) else -1

theorem i2b_n (a : Nat) (h : a < 128) : (nI a).toInt8.toInt32 = nI a := by
  have key : ∀ a, a < 128 → (nI a).toInt8.toInt32 = nI a := by decide +kernel
  exact key a h
/-- a method of a class some of whose methods are run otherwise, but not this one -/
theorem nv_metF {l : Launch} {y : MethodName} {ws ws' : List Cond} {rm : Room} {Pre : State → Prop} {Qc : Array Value → State → Outcome → State → Prop} {mc ms : Nat} {free : Addr → Prop} {cc : ByteArray} {maxL : Nat} {ret : Option FieldType} {As : List Value} (hy : plainFor y = true) (hw : ws = Cond.code y cc maxL ret :: ws') (hl : (lg_sl As).length ≤ maxL)
    (body : ∀ p e s m args below meth c (Q : State → Prop), (∀ t, MQ below Qc args s mc ms free t → Q t) → args = As.toArray → nA p s m args meth c cc maxL ret ws y.cls → Pre s → ∀ ls, lv_has ls maxL (lv_args 0 As) →
      W p l e rm s m args below meth c s.heap [] 0 0 Q (F0 m 0 ls [])) : Met l y ws rm (va_Pc As Pre) Qc mc ms free := by
  refine MetFree.of_bodySF (code := cc) (maxLocals := maxL) (ret := ret) hy ?_ ?_
  · intro args s m h hn
    obtain ⟨meth, c, h1, h2, h3, h4, h5, h6, -, -⟩ := Cond.code_spec hn (atoms_spec (ws := ws) h _ (by rw [hw]; exact List.mem_cons_self))
    exact ⟨meth, c, h1, h2, h3, h4, h5, h6⟩
  · intro p e s m args below meth c s₁ B hml hP _
    obtain ⟨rfl, hp⟩ := hP
    have hh0 : s₁.heap = s.heap := by rw [B.state]; rfl
    have h := body p e s m _ below meth c _ (fun t h => h) rfl ⟨B.exec, B.bytes, B.returns, atoms_spec (ws := ws) B.pre, findClass_of_methodNamed B.named, B.notSynchronized, hml⟩ hp _ (lv_entry As (n := maxL) hl)
    rw [← lg_entry_eq] at h
    obtain ⟨t, a1, o, b1, b2, b3⟩ := h s₁ hh0 (Stand.of_body B)
    exact ⟨t, o, a1, b1, b2, ⟨b3.1, b3.2⟩⟩
/-- a contract's end: nothing answered, nothing changed -/
def sQv : Array Value → State → Outcome → State → Prop := va_Sv (fun _ => True)
section NVS0
variable {p : Program} {l : Launch} {e : Env} {R : Room} {s : State} {m : MethodId} {args : Array Value} {below : List Frame} {meth : Method} {c : Code} {H : Heap} {locs : List Loc} {cells slots : Nat} {Q : State → Prop}
variable {cc : ByteArray} {pc : Nat} {ls : Array Slot} {rest : List Value}
theorem nv_if_ltn (hx : p.tables.exec = Jvm.exec) (hb : c.code = cc) {a : Nat} {off : Int} {tgt : Nat} (hdg : decode cc pc = .ok (.ifCond .lt off, 3)) (ht : (pc : Int) + off = (tgt : Int)) (ha : a < 2 ^ 31)
    (k2 : W p l e R s m args below meth c H locs cells slots Q (F0 m (pc + 3) ls rest)) : W p l e R s m args below meth c H locs cells slots Q (F0 m pc ls (.int (nI a) :: rest)) :=
  lv_if_lt hx hb hdg ht (fun h => absurd h (by rw [Int32.lt_iff_toInt_lt, Int32.toInt_zero, nI_toInt ha]; omega)) (fun _ => k2)
theorem nv_if_gen (hx : p.tables.exec = Jvm.exec) (hb : c.code = cc) {a : Nat} {off : Int} {tgt : Nat} (hdg : decode cc pc = .ok (.ifCond .ge off, 3)) (ht : (pc : Int) + off = (tgt : Int)) (ha : a < 2 ^ 31)
    (k1 : W p l e R s m args below meth c H locs cells slots Q (F0 m tgt ls rest)) : W p l e R s m args below meth c H locs cells slots Q (F0 m pc ls (.int (nI a) :: rest)) :=
  lv_if_ge hx hb hdg ht (fun _ => k1) (fun h => absurd (by rw [Int32.le_iff_toInt_le, Int32.toInt_zero, nI_toInt ha]; omega) h)
theorem nv_mmax (hx : p.tables.exec = Jvm.exec) (hb : c.code = cc) (hml : c.maxLocals = ls.size) {own : String} {index : Nat} (hown : s.vm.findClass own = some m.cls) (hlink : (Cond.methodLink own index Lib.Math.max.name).before args s = true) (hstat : (Cond.static Lib.Math.max.name).before args s = true) (hini : (Cond.initialized "java/lang/Math").before args s = true) (hcode : (Cond.code Lib.Math.max.name Lib.Math.max.code 2 (some .int)).before args s = true)
    (hframes : 1 ≤ R.frames) (hlocals : (rest.map fun v => v.category).sum + 13 ≤ R.locals) (hc : cells ≤ R.cells) (hs : slots ≤ R.slots) {a b : Nat} (ha : a < 2 ^ 31) (hb9 : b < 2 ^ 31) (hdg : decode cc pc = .ok (.invokestatic index, 3))
    (kk : W p l e R s m args below meth c H locs cells slots Q (F0 m (pc + 3) ls (.int (nI (max a b)) :: rest))) : W p l e R s m args below meth c H locs cells slots Q (F0 m pc ls (.int (nI b) :: .int (nI a) :: rest)) := by
  refine va_mmax hx hb hml hown hlink hstat hini hcode hframes hlocals hc hs hdg ?_
  have e : (if nI a < nI b then nI b else nI a) = nI (max a b) := by
    by_cases h : a < b
    · rw [if_pos ((nI_ltI ha hb9).mpr h), show max a b = b by omega]
    · rw [if_neg (fun q => h ((nI_ltI ha hb9).mp q)), show max a b = a by omega]
  rw [e]; exact kk
theorem nv_mmin (hx : p.tables.exec = Jvm.exec) (hb : c.code = cc) (hml : c.maxLocals = ls.size) {own : String} {index : Nat} (hown : s.vm.findClass own = some m.cls) (hlink : (Cond.methodLink own index Lib.Math.min.name).before args s = true) (hstat : (Cond.static Lib.Math.min.name).before args s = true) (hini : (Cond.initialized "java/lang/Math").before args s = true) (hcode : (Cond.code Lib.Math.min.name Lib.Math.min.code 2 (some .int)).before args s = true)
    (hframes : 1 ≤ R.frames) (hlocals : (rest.map fun v => v.category).sum + 13 ≤ R.locals) (hc : cells ≤ R.cells) (hs : slots ≤ R.slots) {a b : Nat} (ha : a < 2 ^ 31) (hb9 : b < 2 ^ 31) (hdg : decode cc pc = .ok (.invokestatic index, 3))
    (kk : W p l e R s m args below meth c H locs cells slots Q (F0 m (pc + 3) ls (.int (nI (min a b)) :: rest))) : W p l e R s m args below meth c H locs cells slots Q (F0 m pc ls (.int (nI b) :: .int (nI a) :: rest)) := by
  refine va_mmin hx hb hml hown hlink hstat hini hcode hframes hlocals hc hs hdg ?_
  have e : (if nI b < nI a then nI b else nI a) = nI (min a b) := by
    by_cases h : b < a
    · rw [if_pos ((nI_ltI hb9 ha).mpr h), show min a b = b by omega]
    · rw [if_neg (fun q => h ((nI_ltI hb9 ha).mp q)), show min a b = a by omega]
  rw [e]; exact kk
end NVS0
section NVS
variable {p : Program} {l : Launch} {e : Env} {R : Room} {s : State} {m : MethodId} {args : Array Value} {below : List Frame} {meth : Method} {c : Code} {H : Heap} {locs : List Loc} {cells slots : Nat} {Q : State → Prop}
variable {cc : ByteArray} {pc : Nat} {ls : Array Slot} {rest st0 : List Value}
theorem nv_retSv (hq : ∀ t, MQ below sQv args s 0 0 (fun _ => False) t → Q t) (hx : p.tables.exec = Jvm.exec) (hb : c.code = cc) (hr : meth.sig.returnType = none) (hlocks : meth.locks = false) (hdg : decode cc pc = .ok (.return_, 1)) : W p l e R s m args below meth c s.heap [] 0 0 Q (F0 m pc ls []) :=
  W.mono hq (W.vret hx hb hr (fun t ht _ => ⟨rfl, trivial, ht⟩) (fun _ h => by cases h) hdg hlocks)
theorem nv_kSv {a : Array Value} (hr : va_Run p l e R s m args below meth c H locs cells slots 0 0 (F0 m pc ls st0) rest (sQv a) (fun _ => False)) (k : W p l e R s m args below meth c H locs cells slots Q (F0 m (pc + 3) ls rest)) : W p l e R s m args below meth c H locs cells slots Q (F0 m pc ls st0) :=
  va_csv hr.run (fun _ => k)
end NVS

set_option maxHeartbeats 1000000 in
set_option maxRecDepth 100000 in
theorem c_J0_isLatin1_aae02 (l : Launch) {D : va_G} {cI cC cD cR : ClassId} {sa : sA} {A : Nat → Prop} (i : Nat) (hi : i < 13) : Met l yJ0_isLatin1_aae02 wsJ0_isLatin1_aae02 ({ frames := 0, cells := 0, slots := 0, locals := 0 }) (va_Pc [.ref (sa.1 i)] (tPre D [(cI, .int), (cC, .char), (cD, .object "DoorDialect$Door"), (cR, .object "DoorDialect$House")] nN sa A (fun _ => True))) (sQ (nI (1))) 0 0 (fun _ => False) := by
  refine nv_met (cc := cJ0_isLatin1_aae02) (maxL := 1) (ret := (some .boolean)) (by decide) rfl (Nat.le_of_ble_eq_true rfl) ?_
  intro p0 e0 s m0 args below meth c0 Q hq hargs hnA hpre ls hl
  obtain ⟨hx, hb, hr, hts, hown, hlocks, hml⟩ := hnA
  obtain ⟨hP, hT⟩ := hpre
  have hK := hT.1
  have hown : s.vm.findClass RJ0 = some m0.cls := hown
  have hl : lv_has ls 1 [(0, .ref (sa.1 i))] := hl
  have hS : va_S A s.heap s.heap [] := va_S.rf
  have fl_15 := hts (.fieldLink RJ0 15 "java/lang/String" "coder" "B") (by decide +kernel)
  have fl_38 := hts (.fieldLink RJ0 38 "java/lang/String" "COMPACT_STRINGS" "Z") (by decide +kernel)
  refine va_gets hx hb hT.2.2.2.1.1 hS hown fl_38 (fun _ h9 => h9) dJ0_isLatin1_aae02_0 ?_
  refine nv_to 1 rfl ?_
  refine nv_if_eq (tgt := 17) hx hb dJ0_isLatin1_aae02_3 (by decide) (by omega) (fun c1 => ?_) (fun c1 => ?_)
  · exact absurd c1 (by decide)
  · refine lv_aload_n hx hb dJ0_isLatin1_aae02_6 rfl (lv_at hl 0 rfl) ?_
    refine vk_getf hx hb (hT.2.1.1 i hi).2.1 hS hown fl_15 (fun _ h9 => h9) dJ0_isLatin1_aae02_7 ?_
    refine nv_to 0 rfl ?_
    refine nv_if_ne (tgt := 17) hx hb dJ0_isLatin1_aae02_10 (by decide) (by omega) (fun c2 => ?_) (fun c2 => ?_)
    · exact absurd c2 (by decide)
    · refine lv_iconst (v := nI 1) hx hb dJ0_isLatin1_aae02_13 (by decide) ?_
      refine lv_goto (tgt := 18) hx hb dJ0_isLatin1_aae02_14 (by decide) ?_
      exact nv_retS hq hx hb hr hlocks (nar_z (by omega)) (rfl) dJ0_isLatin1_aae02_18

set_option maxHeartbeats 1000000 in
set_option maxRecDepth 100000 in
theorem c_J0_coder_7d493 (l : Launch) {D : va_G} {cI cC cD cR : ClassId} {sa : sA} {A : Nat → Prop} (i : Nat) (hi : i < 13) : Met l yJ0_coder_7d493 wsJ0_coder_7d493 ({ frames := 0, cells := 0, slots := 0, locals := 0 }) (va_Pc [.ref (sa.1 i)] (tPre D [(cI, .int), (cC, .char), (cD, .object "DoorDialect$Door"), (cR, .object "DoorDialect$House")] nN sa A (fun _ => True))) (sQ (nI (0))) 0 0 (fun _ => False) := by
  refine nv_met (cc := cJ0_coder_7d493) (maxL := 1) (ret := (some .byte)) (by decide) rfl (Nat.le_of_ble_eq_true rfl) ?_
  intro p0 e0 s m0 args below meth c0 Q hq hargs hnA hpre ls hl
  obtain ⟨hx, hb, hr, hts, hown, hlocks, hml⟩ := hnA
  obtain ⟨hP, hT⟩ := hpre
  have hK := hT.1
  have hown : s.vm.findClass RJ0 = some m0.cls := hown
  have hl : lv_has ls 1 [(0, .ref (sa.1 i))] := hl
  have hS : va_S A s.heap s.heap [] := va_S.rf
  have fl_15 := hts (.fieldLink RJ0 15 "java/lang/String" "coder" "B") (by decide +kernel)
  have fl_38 := hts (.fieldLink RJ0 38 "java/lang/String" "COMPACT_STRINGS" "Z") (by decide +kernel)
  refine va_gets hx hb hT.2.2.2.1.1 hS hown fl_38 (fun _ h9 => h9) dJ0_coder_7d493_0 ?_
  refine nv_to 1 rfl ?_
  refine nv_if_eq (tgt := 13) hx hb dJ0_coder_7d493_3 (by decide) (by omega) (fun c1 => ?_) (fun c1 => ?_)
  · exact absurd c1 (by decide)
  · refine lv_aload_n hx hb dJ0_coder_7d493_6 rfl (lv_at hl 0 rfl) ?_
    refine vk_getf hx hb (hT.2.1.1 i hi).2.1 hS hown fl_15 (fun _ h9 => h9) dJ0_coder_7d493_7 ?_
    refine nv_to 0 rfl ?_
    refine lv_goto (tgt := 14) hx hb dJ0_coder_7d493_10 (by decide) ?_
    exact nv_retS hq hx hb hr hlocks rfl (rfl) dJ0_coder_7d493_14

set_option maxHeartbeats 1000000 in
set_option maxRecDepth 100000 in
theorem c_J0_length_8abf5 (l : Launch) {D : va_G} {cI cC cD cR : ClassId} {sa : sA} {A : Nat → Prop} (i : Nat) (hi : i < 13) : Met l yJ0_length_8abf5 wsJ0_length_8abf5 ({ frames := 1, cells := 0, slots := 0, locals := 20 }) (va_Pc [.ref (sa.1 i)] (tPre D [(cI, .int), (cC, .char), (cD, .object "DoorDialect$Door"), (cR, .object "DoorDialect$House")] nN sa A (fun _ => True))) (sQ (nI (sLen.getD i 0))) 0 0 (fun _ => False) := by
  refine nv_met (cc := cJ0_length_8abf5) (maxL := 1) (ret := (some .int)) (by decide) rfl (Nat.le_of_ble_eq_true rfl) ?_
  intro p0 e0 s m0 args below meth c0 Q hq hargs hnA hpre ls hl
  obtain ⟨hx, hb, hr, hts, hown, hlocks, hml⟩ := hnA
  obtain ⟨hP, hT⟩ := hpre
  have hK := hT.1
  have hown : s.vm.findClass RJ0 = some m0.cls := hown
  have hl : lv_has ls 1 [(0, .ref (sa.1 i))] := hl
  have hS : va_S A s.heap s.heap [] := va_S.rf
  have fl_9 := hts (.fieldLink RJ0 9 "java/lang/String" "value" "[B") (by decide +kernel)
  have hsl := sLen_lt i hi
  refine lv_aload_n hx hb dJ0_length_8abf5_0 rfl (lv_at hl 0 rfl) ?_
  refine vk_getf hx hb (hT.2.1.1 i hi).2.2.1 hS hown fl_9 (fun _ h9 => h9) dJ0_length_8abf5_1 ?_
  refine va_tlen (v := nI (sLen.getD i 0)) hx hb (hT.2.1.1 i hi).2.2.2 hS rfl dJ0_length_8abf5_4 ?_
  refine lv_aload_n hx hb dJ0_length_8abf5_5 rfl (lv_at hl 0 rfl) ?_
  refine nv_kS (va_runV (As := []) (rest := [.int (nI (sLen.getD i 0))]) ⟨hx, hb, hml, hown, hts⟩ (c_J0_coder_7d493 l i hi) (cwV 0 hts gJ0_length_8abf5_J0_coder_7d493 rfl rfl rfl (by decide +kernel) ⟨Nat.le_of_ble_eq_true rfl, Nat.le_of_ble_eq_true rfl⟩) (nt_pV hT hS trivial (vk_recv hT.2.1 hi hS)) rfl rfl hl.1 rfl (lv_room (Nat.le_of_ble_eq_true rfl)) dJ0_length_8abf5_6 ⟨Nat.zero_le _, Nat.zero_le _⟩) ?_
  refine lv_ishr hx hb dJ0_length_8abf5_9 ?_
  refine nv_to (sLen.getD i 0) (nb_shr (k := 0) (by decide) (by omega)) ?_
  exact nv_retS hq hx hb hr hlocks (nar_i _) (rfl) dJ0_length_8abf5_10

set_option maxHeartbeats 1000000 in
set_option maxRecDepth 100000 in
theorem c_J3_checkIndex_n (l : Launch) {D : va_G} {cI cC cD cR : ClassId} {sa : sA} {A : Nat → Prop} (k n : Nat) (hk : k < n) (hn : n < 2 ^ 31) : Met l yJ3_checkIndex_8e157 wsJ3_checkIndex_8e157 ({ frames := 0, cells := 0, slots := 0, locals := 0 }) (va_Pc [.int (nI k), .int (nI n), .null] (tPre D [(cI, .int), (cC, .char), (cD, .object "DoorDialect$Door"), (cR, .object "DoorDialect$House")] nN sa A (fun _ => True))) (sQ (nI (k))) 0 0 (fun _ => False) := by
  refine nv_met (cc := cJ3_checkIndex_8e157) (maxL := 3) (ret := (some .int)) (by decide) rfl (Nat.le_of_ble_eq_true rfl) ?_
  intro p0 e0 s m0 args below meth c0 Q hq hargs hnA hpre ls hl
  obtain ⟨hx, hb, hr, hts, hown, hlocks, hml⟩ := hnA
  obtain ⟨hP, hT⟩ := hpre
  have hK := hT.1
  have hown : s.vm.findClass RJ3 = some m0.cls := hown
  have hl : lv_has ls 3 [(0, .int (nI k)), (1, .int (nI n)), (2, .null)] := hl
  have hS : va_S A s.heap s.heap [] := va_S.rf
  refine lv_iload_n hx hb dJ3_checkIndex_8e157_0 rfl (lv_at hl 0 rfl) ?_
  refine nv_if_ltn (tgt := 9) hx hb dJ3_checkIndex_8e157_1 (by decide) (by omega) ?_
  refine lv_iload_n hx hb dJ3_checkIndex_8e157_4 rfl (lv_at hl 0 rfl) ?_
  refine lv_iload_n hx hb dJ3_checkIndex_8e157_5 rfl (lv_at hl 1 rfl) ?_
  refine nv_icmp_lt (tgt := 16) hx hb dJ3_checkIndex_8e157_6 (by decide) (by omega) (by omega) (fun c2 => ?_) (fun c2 => ?_)
  · refine lv_iload_n hx hb dJ3_checkIndex_8e157_16 rfl (lv_at hl 0 rfl) ?_
    exact nv_retS hq hx hb hr hlocks (nar_i _) (rfl) dJ3_checkIndex_8e157_17
  · exact absurd hk c2

set_option maxHeartbeats 1000000 in
set_option maxRecDepth 100000 in
theorem c_J3_checkIndex_r (l : Launch) {D : va_G} {cI cC cD cR : ClassId} {sa : sA} {A : Nat → Prop} (k n : Nat) (hk : k < n) (hn : n < 2 ^ 31) (fm : Nat) : Met l yJ3_checkIndex_8e157 wsJ3_checkIndex_8e157 ({ frames := 0, cells := 0, slots := 0, locals := 0 }) (va_Pc [.int (nI k), .int (nI n), .ref fm] (tPre D [(cI, .int), (cC, .char), (cD, .object "DoorDialect$Door"), (cR, .object "DoorDialect$House")] nN sa A (fun _ => True))) (sQ (nI (k))) 0 0 (fun _ => False) := by
  refine nv_met (cc := cJ3_checkIndex_8e157) (maxL := 3) (ret := (some .int)) (by decide) rfl (Nat.le_of_ble_eq_true rfl) ?_
  intro p0 e0 s m0 args below meth c0 Q hq hargs hnA hpre ls hl
  obtain ⟨hx, hb, hr, hts, hown, hlocks, hml⟩ := hnA
  obtain ⟨hP, hT⟩ := hpre
  have hK := hT.1
  have hown : s.vm.findClass RJ3 = some m0.cls := hown
  have hl : lv_has ls 3 [(0, .int (nI k)), (1, .int (nI n)), (2, .ref fm)] := hl
  have hS : va_S A s.heap s.heap [] := va_S.rf
  refine lv_iload_n hx hb dJ3_checkIndex_8e157_0 rfl (lv_at hl 0 rfl) ?_
  refine nv_if_ltn (tgt := 9) hx hb dJ3_checkIndex_8e157_1 (by decide) (by omega) ?_
  refine lv_iload_n hx hb dJ3_checkIndex_8e157_4 rfl (lv_at hl 0 rfl) ?_
  refine lv_iload_n hx hb dJ3_checkIndex_8e157_5 rfl (lv_at hl 1 rfl) ?_
  refine nv_icmp_lt (tgt := 16) hx hb dJ3_checkIndex_8e157_6 (by decide) (by omega) (by omega) (fun c2 => ?_) (fun c2 => ?_)
  · refine lv_iload_n hx hb dJ3_checkIndex_8e157_16 rfl (lv_at hl 0 rfl) ?_
    exact nv_retS hq hx hb hr hlocks (nar_i _) (rfl) dJ3_checkIndex_8e157_17
  · exact absurd hk c2

set_option maxHeartbeats 1000000 in
set_option maxRecDepth 100000 in
theorem c_J0_checkIndex_df160 (l : Launch) {D : va_G} {cI cC cD cR : ClassId} {sa : sA} {A : Nat → Prop} (k n : Nat) (hk : k < n) (hn : n < 2 ^ 31) : Met l yJ0_checkIndex_df160 wsJ0_checkIndex_df160 ({ frames := 1, cells := 0, slots := 0, locals := 22 }) (va_Pc [.int (nI k), .int (nI n)] (tPre D [(cI, .int), (cC, .char), (cD, .object "DoorDialect$Door"), (cR, .object "DoorDialect$House")] nN sa A (fun _ => True))) (sQv) 0 0 (fun _ => False) := by
  refine nv_met (cc := cJ0_checkIndex_df160) (maxL := 2) (ret := none) (by decide) rfl (Nat.le_of_ble_eq_true rfl) ?_
  intro p0 e0 s m0 args below meth c0 Q hq hargs hnA hpre ls hl
  obtain ⟨hx, hb, hr, hts, hown, hlocks, hml⟩ := hnA
  obtain ⟨hP, hT⟩ := hpre
  have hK := hT.1
  have hown : s.vm.findClass RJ0 = some m0.cls := hown
  have hl : lv_has ls 2 [(0, .int (nI k)), (1, .int (nI n))] := hl
  have hS : va_S A s.heap s.heap [] := va_S.rf
  have fl_1053 := hts (.fieldLink RJ0 1053 "jdk/internal/util/Preconditions" "SIOOBE_FORMATTER" "Ljava/util/function/BiFunction;") (by decide +kernel)
  refine lv_iload_n hx hb dJ0_checkIndex_df160_0 rfl (lv_at hl 0 rfl) ?_
  refine lv_iload_n hx hb dJ0_checkIndex_df160_1 rfl (lv_at hl 1 rfl) ?_
  rcases hT.2.2.2.1.2.1 with hz | ⟨fm, hz⟩
  · refine va_gets hx hb hz hS hown fl_1053 (fun _ h9 => h9) dJ0_checkIndex_df160_2 ?_
    refine nv_kS (va_runS (As := [.int (nI k), .int (nI n), .null]) (rest := []) ⟨hx, hb, hml, hown, hts⟩ (c_J3_checkIndex_n l k n (by omega) (by omega)) (va_cwS 3 hts gJ0_checkIndex_df160_J3_checkIndex_8e157 rfl rfl rfl (by decide +kernel) ⟨Nat.le_of_ble_eq_true rfl, Nat.le_of_ble_eq_true rfl⟩) (nt_pS hT hS trivial) rfl rfl hl.1 rfl (lv_room (Nat.le_of_ble_eq_true rfl)) dJ0_checkIndex_df160_5 ⟨Nat.zero_le _, Nat.zero_le _⟩) ?_
    refine lv_pop hx hb dJ0_checkIndex_df160_8 rfl ?_
    exact nv_retSv hq hx hb hr hlocks dJ0_checkIndex_df160_9
  · refine va_gets hx hb hz hS hown fl_1053 (fun _ h9 => h9) dJ0_checkIndex_df160_2 ?_
    refine nv_kS (va_runS (As := [.int (nI k), .int (nI n), .ref fm]) (rest := []) ⟨hx, hb, hml, hown, hts⟩ (c_J3_checkIndex_r l k n (by omega) (by omega) fm) (va_cwS 3 hts gJ0_checkIndex_df160_J3_checkIndex_8e157 rfl rfl rfl (by decide +kernel) ⟨Nat.le_of_ble_eq_true rfl, Nat.le_of_ble_eq_true rfl⟩) (nt_pS hT hS trivial) rfl rfl hl.1 rfl (lv_room (Nat.le_of_ble_eq_true rfl)) dJ0_checkIndex_df160_5 ⟨Nat.zero_le _, Nat.zero_le _⟩) ?_
    refine lv_pop hx hb dJ0_checkIndex_df160_8 rfl ?_
    exact nv_retSv hq hx hb hr hlocks dJ0_checkIndex_df160_9

set_option maxHeartbeats 1000000 in
set_option maxRecDepth 100000 in
theorem c_J1_charAt_3b067 (l : Launch) {D : va_G} {cI cC cD cR : ClassId} {sa : sA} {A : Nat → Prop} (i : Nat) (hi : i < 13) (k : Nat) (hk : k < sLen.getD i 0) : Met l yJ1_charAt_3b067 wsJ1_charAt_3b067 ({ frames := 2, cells := 0, slots := 0, locals := 43 }) (va_Pc [.ref (sa.2 i), .int (nI k)] (tPre D [(cI, .int), (cC, .char), (cD, .object "DoorDialect$Door"), (cR, .object "DoorDialect$House")] nN sa A (fun _ => True))) (sQ (nI (sch i k))) 0 0 (fun _ => False) := by
  refine nv_met (cc := cJ1_charAt_3b067) (maxL := 2) (ret := (some .char)) (by decide) rfl (Nat.le_of_ble_eq_true rfl) ?_
  intro p0 e0 s m0 args below meth c0 Q hq hargs hnA hpre ls hl
  obtain ⟨hx, hb, hr, hts, hown, hlocks, hml⟩ := hnA
  obtain ⟨hP, hT⟩ := hpre
  have hK := hT.1
  have hown : s.vm.findClass RJ1 = some m0.cls := hown
  have hl : lv_has ls 2 [(0, .ref (sa.2 i)), (1, .int (nI k))] := hl
  have hS : va_S A s.heap s.heap [] := va_S.rf
  have hsl := sLen_lt i hi
  refine lv_iload_n hx hb dJ1_charAt_3b067_0 rfl (lv_at hl 1 rfl) ?_
  refine lv_aload_n hx hb dJ1_charAt_3b067_1 rfl (lv_at hl 0 rfl) ?_
  refine va_tlen (v := nI (sLen.getD i 0)) hx hb (hT.2.1.1 i hi).2.2.2 hS rfl dJ1_charAt_3b067_2 ?_
  refine nv_kSv (va_runS (As := [.int (nI k), .int (nI (sLen.getD i 0))]) (rest := []) ⟨hx, hb, hml, hown, hts⟩ (c_J0_checkIndex_df160 l k (sLen.getD i 0) (by omega) (by omega)) (va_cwS 2 hts gJ1_charAt_3b067_J0_checkIndex_df160 rfl rfl rfl (by decide +kernel) ⟨Nat.le_of_ble_eq_true rfl, Nat.le_of_ble_eq_true rfl⟩) (nt_pS hT hS trivial) rfl rfl hl.1 rfl (lv_room (Nat.le_of_ble_eq_true rfl)) dJ1_charAt_3b067_3 ⟨Nat.zero_le _, Nat.zero_le _⟩) ?_
  refine lv_aload_n hx hb dJ1_charAt_3b067_6 rfl (lv_at hl 0 rfl) ?_
  refine lv_iload_n hx hb dJ1_charAt_3b067_7 rfl (lv_at hl 1 rfl) ?_
  refine va_tb (i := nI (k)) (v := .int (nI (sch i (k)))) hx hb (hT.2.1.1 i hi).2.2.2 hS (vp_in_nI (by omega) (by omega)) (by show Value.int ((sByt.getD i []).getD (nI (k)).toNatClampNeg 0) = _; rw [nI_clamp (by omega), (sch_eq i hi (k) (by omega)).1]) dJ1_charAt_3b067_8 ?_
  have q1 := sch_eq i hi (k) (by omega)
  refine lv_sipush (v := nI 255) hx hb dJ1_charAt_3b067_9 (by decide) ?_
  refine lv_iand hx hb dJ1_charAt_3b067_12 ?_
  refine nv_to (sch i (k)) (nv_and255 (by omega)) ?_
  refine lv_i2c (v := nI (sch i (k))) hx hb dJ1_charAt_3b067_13 (nv_i2c (by omega)) ?_
  exact nv_retS hq hx hb hr hlocks (nar_c (by omega)) (rfl) dJ1_charAt_3b067_14

set_option maxHeartbeats 1000000 in
set_option maxRecDepth 100000 in
theorem c_J0_charAt_5068e (l : Launch) {D : va_G} {cI cC cD cR : ClassId} {sa : sA} {A : Nat → Prop} (i : Nat) (hi : i < 13) (k : Nat) (hk : k < sLen.getD i 0) : Met l yJ0_charAt_5068e wsJ0_charAt_5068e ({ frames := 3, cells := 0, slots := 0, locals := 64 }) (va_Pc [.ref (sa.1 i), .int (nI k)] (tPre D [(cI, .int), (cC, .char), (cD, .object "DoorDialect$Door"), (cR, .object "DoorDialect$House")] nN sa A (fun _ => True))) (sQ (nI (sch i k))) 0 0 (fun _ => False) := by
  refine nv_met (cc := cJ0_charAt_5068e) (maxL := 2) (ret := (some .char)) (by decide) rfl (Nat.le_of_ble_eq_true rfl) ?_
  intro p0 e0 s m0 args below meth c0 Q hq hargs hnA hpre ls hl
  obtain ⟨hx, hb, hr, hts, hown, hlocks, hml⟩ := hnA
  obtain ⟨hP, hT⟩ := hpre
  have hK := hT.1
  have hown : s.vm.findClass RJ0 = some m0.cls := hown
  have hl : lv_has ls 2 [(0, .ref (sa.1 i)), (1, .int (nI k))] := hl
  have hS : va_S A s.heap s.heap [] := va_S.rf
  have fl_9 := hts (.fieldLink RJ0 9 "java/lang/String" "value" "[B") (by decide +kernel)
  have hsl := sLen_lt i hi
  have hsc := sch_eq i hi k hk
  refine lv_aload_n hx hb dJ0_charAt_5068e_0 rfl (lv_at hl 0 rfl) ?_
  refine nv_kS (va_runV (As := []) (rest := []) ⟨hx, hb, hml, hown, hts⟩ (c_J0_isLatin1_aae02 l i hi) (cwV 0 hts gJ0_charAt_5068e_J0_isLatin1_aae02 rfl rfl rfl (by decide +kernel) ⟨Nat.le_of_ble_eq_true rfl, Nat.le_of_ble_eq_true rfl⟩) (nt_pV hT hS trivial (vk_recv hT.2.1 hi hS)) rfl rfl hl.1 rfl (lv_room (Nat.le_of_ble_eq_true rfl)) dJ0_charAt_5068e_1 ⟨Nat.zero_le _, Nat.zero_le _⟩) ?_
  refine nv_if_eq (tgt := 16) hx hb dJ0_charAt_5068e_4 (by decide) (by omega) (fun c1 => ?_) (fun c1 => ?_)
  · exact absurd c1 (by decide)
  · refine lv_aload_n hx hb dJ0_charAt_5068e_7 rfl (lv_at hl 0 rfl) ?_
    refine vk_getf hx hb (hT.2.1.1 i hi).2.2.1 hS hown fl_9 (fun _ h9 => h9) dJ0_charAt_5068e_8 ?_
    refine lv_iload_n hx hb dJ0_charAt_5068e_11 rfl (lv_at hl 1 rfl) ?_
    refine nv_kS (va_runS (As := [.ref (sa.2 i), .int (nI k)]) (rest := []) ⟨hx, hb, hml, hown, hts⟩ (c_J1_charAt_3b067 l i hi k (by omega)) (va_cwS 2 hts gJ0_charAt_5068e_J1_charAt_3b067 rfl rfl rfl (by decide +kernel) ⟨Nat.le_of_ble_eq_true rfl, Nat.le_of_ble_eq_true rfl⟩) (nt_pS hT hS trivial) rfl rfl hl.1 rfl (lv_room (Nat.le_of_ble_eq_true rfl)) dJ0_charAt_5068e_12 ⟨Nat.zero_le _, Nat.zero_le _⟩) ?_
    exact nv_retS hq hx hb hr hlocks (nar_c (by omega)) (rfl) dJ0_charAt_5068e_15

theorem xor_nn {a b : Nat} (ha : a < 2 ^ 31) (hb : b < 2 ^ 31) : ¬ nI a ^^^ nI b < 0 := by
  have e : nI a ^^^ nI b = nI (a ^^^ b) := by
    apply Int32.toBitVec_inj.mp
    show BitVec.ofNat 32 a ^^^ BitVec.ofNat 32 b = BitVec.ofNat 32 (a ^^^ b)
    apply BitVec.eq_of_toNat_eq
    simp [BitVec.toNat_xor, BitVec.toNat_ofNat, Nat.xor_mod_two_pow]
  rw [e, Int32.lt_iff_toInt_lt, nI_toInt (Nat.xor_lt_two_pow ha hb), Int32.toInt_zero]
  omega

set_option maxHeartbeats 1000000 in
set_option maxRecDepth 100000 in
theorem c_J9_floorMod_7cf53 (l : Launch) {D : va_G} {cI cC cD cR : ClassId} {sa : sA} {A : Nat → Prop} (a b : Nat) (ha : a < 2 ^ 31) (hb9 : b < 2 ^ 31) (h0 : 0 < b) : Met l yJ9_floorMod_7cf53 wsJ9_floorMod_7cf53 ({ frames := 0, cells := 0, slots := 0, locals := 0 }) (va_Pc [.int (nI a), .int (nI b)] (tPre D [(cI, .int), (cC, .char), (cD, .object "DoorDialect$Door"), (cR, .object "DoorDialect$House")] nN sa A (fun _ => True))) (sQ (nI (a % b))) 0 0 (fun _ => False) := by
  refine nv_metF (cc := cJ9_floorMod_7cf53) (maxL := 3) (ret := (some .int)) (by decide +kernel) rfl (Nat.le_of_ble_eq_true rfl) ?_
  intro p0 e0 s m0 args below meth c0 Q hq hargs hnA hpre ls hl
  obtain ⟨hx, hb, hr, hts, hown, hlocks, hml⟩ := hnA
  obtain ⟨hP, hT⟩ := hpre
  have hK := hT.1
  have hown : s.vm.findClass RJ9 = some m0.cls := hown
  have hl : lv_has ls 3 [(0, .int (nI a)), (1, .int (nI b))] := hl
  have hS : va_S A s.heap s.heap [] := va_S.rf
  refine lv_iload_n hx hb dJ9_floorMod_7cf53_0 rfl (lv_at hl 0 rfl) ?_
  refine lv_iload_n hx hb dJ9_floorMod_7cf53_1 rfl (lv_at hl 1 rfl) ?_
  refine nv_irem hx hb dJ9_floorMod_7cf53_2 (by omega) (by omega) (by omega) ?_
  refine lv_istore_n (lv' := [(2, .int (nI ((a) % b))), (0, .int (nI a)), (1, .int (nI b))]) hx hb dJ9_floorMod_7cf53_3 rfl hl (by decide) rfl (fun ls hl => ?_)
  refine lv_iload_n hx hb dJ9_floorMod_7cf53_4 rfl (lv_at hl 1 rfl) ?_
  refine lv_iload_n hx hb dJ9_floorMod_7cf53_5 rfl (lv_at hl 2 rfl) ?_
  refine lv_ixor hx hb dJ9_floorMod_7cf53_6 ?_
  refine lv_if_ge (tgt := 18) hx hb dJ9_floorMod_7cf53_7 (by decide) (fun c1 => ?_) (fun c1 => ?_)
  · refine lv_iload_n hx hb dJ9_floorMod_7cf53_18 rfl (lv_at hl 0 rfl) ?_
    exact nv_retS hq hx hb hr hlocks (nar_i _) (rfl) dJ9_floorMod_7cf53_19
  · exact absurd (Int32.not_le.mp c1) (xor_nn ha hb9)

theorem bc_eq (z : Nat) (hz : z < 2 ^ 6) : ((((((((nI (z)) - (((Int32.toUInt32 (nI (z)) >>> ((nI (1)).toUInt32 &&& Int32.toUInt32 31)).toInt32) &&& (nI (1431655765)))) &&& (nI (858993459))) + (((Int32.toUInt32 ((nI (z)) - (((Int32.toUInt32 (nI (z)) >>> ((nI (1)).toUInt32 &&& Int32.toUInt32 31)).toInt32) &&& (nI (1431655765)))) >>> ((nI (2)).toUInt32 &&& Int32.toUInt32 31)).toInt32) &&& (nI (858993459)))) + ((Int32.toUInt32 ((((nI (z)) - (((Int32.toUInt32 (nI (z)) >>> ((nI (1)).toUInt32 &&& Int32.toUInt32 31)).toInt32) &&& (nI (1431655765)))) &&& (nI (858993459))) + (((Int32.toUInt32 ((nI (z)) - (((Int32.toUInt32 (nI (z)) >>> ((nI (1)).toUInt32 &&& Int32.toUInt32 31)).toInt32) &&& (nI (1431655765)))) >>> ((nI (2)).toUInt32 &&& Int32.toUInt32 31)).toInt32) &&& (nI (858993459)))) >>> ((nI (4)).toUInt32 &&& Int32.toUInt32 31)).toInt32)) &&& (nI (252645135))) + ((Int32.toUInt32 ((((((nI (z)) - (((Int32.toUInt32 (nI (z)) >>> ((nI (1)).toUInt32 &&& Int32.toUInt32 31)).toInt32) &&& (nI (1431655765)))) &&& (nI (858993459))) + (((Int32.toUInt32 ((nI (z)) - (((Int32.toUInt32 (nI (z)) >>> ((nI (1)).toUInt32 &&& Int32.toUInt32 31)).toInt32) &&& (nI (1431655765)))) >>> ((nI (2)).toUInt32 &&& Int32.toUInt32 31)).toInt32) &&& (nI (858993459)))) + ((Int32.toUInt32 ((((nI (z)) - (((Int32.toUInt32 (nI (z)) >>> ((nI (1)).toUInt32 &&& Int32.toUInt32 31)).toInt32) &&& (nI (1431655765)))) &&& (nI (858993459))) + (((Int32.toUInt32 ((nI (z)) - (((Int32.toUInt32 (nI (z)) >>> ((nI (1)).toUInt32 &&& Int32.toUInt32 31)).toInt32) &&& (nI (1431655765)))) >>> ((nI (2)).toUInt32 &&& Int32.toUInt32 31)).toInt32) &&& (nI (858993459)))) >>> ((nI (4)).toUInt32 &&& Int32.toUInt32 31)).toInt32)) &&& (nI (252645135))) >>> ((nI (8)).toUInt32 &&& Int32.toUInt32 31)).toInt32)) + ((Int32.toUInt32 (((((((nI (z)) - (((Int32.toUInt32 (nI (z)) >>> ((nI (1)).toUInt32 &&& Int32.toUInt32 31)).toInt32) &&& (nI (1431655765)))) &&& (nI (858993459))) + (((Int32.toUInt32 ((nI (z)) - (((Int32.toUInt32 (nI (z)) >>> ((nI (1)).toUInt32 &&& Int32.toUInt32 31)).toInt32) &&& (nI (1431655765)))) >>> ((nI (2)).toUInt32 &&& Int32.toUInt32 31)).toInt32) &&& (nI (858993459)))) + ((Int32.toUInt32 ((((nI (z)) - (((Int32.toUInt32 (nI (z)) >>> ((nI (1)).toUInt32 &&& Int32.toUInt32 31)).toInt32) &&& (nI (1431655765)))) &&& (nI (858993459))) + (((Int32.toUInt32 ((nI (z)) - (((Int32.toUInt32 (nI (z)) >>> ((nI (1)).toUInt32 &&& Int32.toUInt32 31)).toInt32) &&& (nI (1431655765)))) >>> ((nI (2)).toUInt32 &&& Int32.toUInt32 31)).toInt32) &&& (nI (858993459)))) >>> ((nI (4)).toUInt32 &&& Int32.toUInt32 31)).toInt32)) &&& (nI (252645135))) + ((Int32.toUInt32 ((((((nI (z)) - (((Int32.toUInt32 (nI (z)) >>> ((nI (1)).toUInt32 &&& Int32.toUInt32 31)).toInt32) &&& (nI (1431655765)))) &&& (nI (858993459))) + (((Int32.toUInt32 ((nI (z)) - (((Int32.toUInt32 (nI (z)) >>> ((nI (1)).toUInt32 &&& Int32.toUInt32 31)).toInt32) &&& (nI (1431655765)))) >>> ((nI (2)).toUInt32 &&& Int32.toUInt32 31)).toInt32) &&& (nI (858993459)))) + ((Int32.toUInt32 ((((nI (z)) - (((Int32.toUInt32 (nI (z)) >>> ((nI (1)).toUInt32 &&& Int32.toUInt32 31)).toInt32) &&& (nI (1431655765)))) &&& (nI (858993459))) + (((Int32.toUInt32 ((nI (z)) - (((Int32.toUInt32 (nI (z)) >>> ((nI (1)).toUInt32 &&& Int32.toUInt32 31)).toInt32) &&& (nI (1431655765)))) >>> ((nI (2)).toUInt32 &&& Int32.toUInt32 31)).toInt32) &&& (nI (858993459)))) >>> ((nI (4)).toUInt32 &&& Int32.toUInt32 31)).toInt32)) &&& (nI (252645135))) >>> ((nI (8)).toUInt32 &&& Int32.toUInt32 31)).toInt32)) >>> ((nI (16)).toUInt32 &&& Int32.toUInt32 31)).toInt32)) &&& (nI (63)) = nI (gBits z) := by
  have key : ∀ z, z < 64 → ((((((((nI (z)) - (((Int32.toUInt32 (nI (z)) >>> ((nI (1)).toUInt32 &&& Int32.toUInt32 31)).toInt32) &&& (nI (1431655765)))) &&& (nI (858993459))) + (((Int32.toUInt32 ((nI (z)) - (((Int32.toUInt32 (nI (z)) >>> ((nI (1)).toUInt32 &&& Int32.toUInt32 31)).toInt32) &&& (nI (1431655765)))) >>> ((nI (2)).toUInt32 &&& Int32.toUInt32 31)).toInt32) &&& (nI (858993459)))) + ((Int32.toUInt32 ((((nI (z)) - (((Int32.toUInt32 (nI (z)) >>> ((nI (1)).toUInt32 &&& Int32.toUInt32 31)).toInt32) &&& (nI (1431655765)))) &&& (nI (858993459))) + (((Int32.toUInt32 ((nI (z)) - (((Int32.toUInt32 (nI (z)) >>> ((nI (1)).toUInt32 &&& Int32.toUInt32 31)).toInt32) &&& (nI (1431655765)))) >>> ((nI (2)).toUInt32 &&& Int32.toUInt32 31)).toInt32) &&& (nI (858993459)))) >>> ((nI (4)).toUInt32 &&& Int32.toUInt32 31)).toInt32)) &&& (nI (252645135))) + ((Int32.toUInt32 ((((((nI (z)) - (((Int32.toUInt32 (nI (z)) >>> ((nI (1)).toUInt32 &&& Int32.toUInt32 31)).toInt32) &&& (nI (1431655765)))) &&& (nI (858993459))) + (((Int32.toUInt32 ((nI (z)) - (((Int32.toUInt32 (nI (z)) >>> ((nI (1)).toUInt32 &&& Int32.toUInt32 31)).toInt32) &&& (nI (1431655765)))) >>> ((nI (2)).toUInt32 &&& Int32.toUInt32 31)).toInt32) &&& (nI (858993459)))) + ((Int32.toUInt32 ((((nI (z)) - (((Int32.toUInt32 (nI (z)) >>> ((nI (1)).toUInt32 &&& Int32.toUInt32 31)).toInt32) &&& (nI (1431655765)))) &&& (nI (858993459))) + (((Int32.toUInt32 ((nI (z)) - (((Int32.toUInt32 (nI (z)) >>> ((nI (1)).toUInt32 &&& Int32.toUInt32 31)).toInt32) &&& (nI (1431655765)))) >>> ((nI (2)).toUInt32 &&& Int32.toUInt32 31)).toInt32) &&& (nI (858993459)))) >>> ((nI (4)).toUInt32 &&& Int32.toUInt32 31)).toInt32)) &&& (nI (252645135))) >>> ((nI (8)).toUInt32 &&& Int32.toUInt32 31)).toInt32)) + ((Int32.toUInt32 (((((((nI (z)) - (((Int32.toUInt32 (nI (z)) >>> ((nI (1)).toUInt32 &&& Int32.toUInt32 31)).toInt32) &&& (nI (1431655765)))) &&& (nI (858993459))) + (((Int32.toUInt32 ((nI (z)) - (((Int32.toUInt32 (nI (z)) >>> ((nI (1)).toUInt32 &&& Int32.toUInt32 31)).toInt32) &&& (nI (1431655765)))) >>> ((nI (2)).toUInt32 &&& Int32.toUInt32 31)).toInt32) &&& (nI (858993459)))) + ((Int32.toUInt32 ((((nI (z)) - (((Int32.toUInt32 (nI (z)) >>> ((nI (1)).toUInt32 &&& Int32.toUInt32 31)).toInt32) &&& (nI (1431655765)))) &&& (nI (858993459))) + (((Int32.toUInt32 ((nI (z)) - (((Int32.toUInt32 (nI (z)) >>> ((nI (1)).toUInt32 &&& Int32.toUInt32 31)).toInt32) &&& (nI (1431655765)))) >>> ((nI (2)).toUInt32 &&& Int32.toUInt32 31)).toInt32) &&& (nI (858993459)))) >>> ((nI (4)).toUInt32 &&& Int32.toUInt32 31)).toInt32)) &&& (nI (252645135))) + ((Int32.toUInt32 ((((((nI (z)) - (((Int32.toUInt32 (nI (z)) >>> ((nI (1)).toUInt32 &&& Int32.toUInt32 31)).toInt32) &&& (nI (1431655765)))) &&& (nI (858993459))) + (((Int32.toUInt32 ((nI (z)) - (((Int32.toUInt32 (nI (z)) >>> ((nI (1)).toUInt32 &&& Int32.toUInt32 31)).toInt32) &&& (nI (1431655765)))) >>> ((nI (2)).toUInt32 &&& Int32.toUInt32 31)).toInt32) &&& (nI (858993459)))) + ((Int32.toUInt32 ((((nI (z)) - (((Int32.toUInt32 (nI (z)) >>> ((nI (1)).toUInt32 &&& Int32.toUInt32 31)).toInt32) &&& (nI (1431655765)))) &&& (nI (858993459))) + (((Int32.toUInt32 ((nI (z)) - (((Int32.toUInt32 (nI (z)) >>> ((nI (1)).toUInt32 &&& Int32.toUInt32 31)).toInt32) &&& (nI (1431655765)))) >>> ((nI (2)).toUInt32 &&& Int32.toUInt32 31)).toInt32) &&& (nI (858993459)))) >>> ((nI (4)).toUInt32 &&& Int32.toUInt32 31)).toInt32)) &&& (nI (252645135))) >>> ((nI (8)).toUInt32 &&& Int32.toUInt32 31)).toInt32)) >>> ((nI (16)).toUInt32 &&& Int32.toUInt32 31)).toInt32)) &&& (nI (63)) = nI (gBits z) := by decide +kernel
  exact key z hz

set_option maxHeartbeats 1000000 in
set_option maxRecDepth 100000 in
theorem c_J6_bitCount_0f7a4 (l : Launch) {D : va_G} {cI cC cD cR : ClassId} {sa : sA} {A : Nat → Prop} (z : Nat) (hz : z < 2 ^ 6) : Met l yJ6_bitCount_0f7a4 wsJ6_bitCount_0f7a4 ({ frames := 0, cells := 0, slots := 0, locals := 0 }) (va_Pc [.int (nI z)] (tPre D [(cI, .int), (cC, .char), (cD, .object "DoorDialect$Door"), (cR, .object "DoorDialect$House")] nN sa A (fun _ => True))) (sQ (nI (gBits z))) 0 0 (fun _ => False) := by
  refine nv_met (cc := cJ6_bitCount_0f7a4) (maxL := 1) (ret := (some .int)) (by decide) rfl (Nat.le_of_ble_eq_true rfl) ?_
  intro p0 e0 s m0 args below meth c0 Q hq hargs hnA hpre ls hl
  obtain ⟨hx, hb, hr, hts, hown, hlocks, hml⟩ := hnA
  obtain ⟨hP, hT⟩ := hpre
  have hK := hT.1
  have hown : s.vm.findClass RJ6 = some m0.cls := hown
  have hl : lv_has ls 1 [(0, .int (nI z))] := hl
  have hS : va_S A s.heap s.heap [] := va_S.rf
  refine lv_iload_n hx hb dJ6_bitCount_0f7a4_0 rfl (lv_at hl 0 rfl) ?_
  refine lv_iload_n hx hb dJ6_bitCount_0f7a4_1 rfl (lv_at hl 0 rfl) ?_
  refine lv_iconst (v := nI 1) hx hb dJ6_bitCount_0f7a4_2 (by decide) ?_
  refine lv_iushr (v := (Int32.toUInt32 (nI (z)) >>> ((nI (1)).toUInt32 &&& Int32.toUInt32 31)).toInt32) hx hb dJ6_bitCount_0f7a4_3 (rfl) ?_
  refine lv_ldcw (v := nI 1431655765) hx hb hown (hts (.constant RJ6 265 1431655765) (by decide +kernel)) dJ6_bitCount_0f7a4_4 ?_
  refine lv_iand hx hb dJ6_bitCount_0f7a4_7 ?_
  refine lv_isub hx hb dJ6_bitCount_0f7a4_8 ?_
  refine lv_istore_n (lv' := [(0, .int ((nI (z)) - (((Int32.toUInt32 (nI (z)) >>> ((nI (1)).toUInt32 &&& Int32.toUInt32 31)).toInt32) &&& (nI (1431655765)))))]) hx hb dJ6_bitCount_0f7a4_9 rfl hl (by decide) rfl (fun ls hl => ?_)
  refine lv_iload_n hx hb dJ6_bitCount_0f7a4_10 rfl (lv_at hl 0 rfl) ?_
  refine lv_ldcw (v := nI 858993459) hx hb hown (hts (.constant RJ6 266 858993459) (by decide +kernel)) dJ6_bitCount_0f7a4_11 ?_
  refine lv_iand hx hb dJ6_bitCount_0f7a4_14 ?_
  refine lv_iload_n hx hb dJ6_bitCount_0f7a4_15 rfl (lv_at hl 0 rfl) ?_
  refine lv_iconst (v := nI 2) hx hb dJ6_bitCount_0f7a4_16 (by decide) ?_
  refine lv_iushr (v := (Int32.toUInt32 ((nI (z)) - (((Int32.toUInt32 (nI (z)) >>> ((nI (1)).toUInt32 &&& Int32.toUInt32 31)).toInt32) &&& (nI (1431655765)))) >>> ((nI (2)).toUInt32 &&& Int32.toUInt32 31)).toInt32) hx hb dJ6_bitCount_0f7a4_17 (rfl) ?_
  refine lv_ldcw (v := nI 858993459) hx hb hown (hts (.constant RJ6 266 858993459) (by decide +kernel)) dJ6_bitCount_0f7a4_18 ?_
  refine lv_iand hx hb dJ6_bitCount_0f7a4_21 ?_
  refine lv_iadd hx hb dJ6_bitCount_0f7a4_22 ?_
  refine lv_istore_n (lv' := [(0, .int ((((nI (z)) - (((Int32.toUInt32 (nI (z)) >>> ((nI (1)).toUInt32 &&& Int32.toUInt32 31)).toInt32) &&& (nI (1431655765)))) &&& (nI (858993459))) + (((Int32.toUInt32 ((nI (z)) - (((Int32.toUInt32 (nI (z)) >>> ((nI (1)).toUInt32 &&& Int32.toUInt32 31)).toInt32) &&& (nI (1431655765)))) >>> ((nI (2)).toUInt32 &&& Int32.toUInt32 31)).toInt32) &&& (nI (858993459)))))]) hx hb dJ6_bitCount_0f7a4_23 rfl hl (by decide) rfl (fun ls hl => ?_)
  refine lv_iload_n hx hb dJ6_bitCount_0f7a4_24 rfl (lv_at hl 0 rfl) ?_
  refine lv_iload_n hx hb dJ6_bitCount_0f7a4_25 rfl (lv_at hl 0 rfl) ?_
  refine lv_iconst (v := nI 4) hx hb dJ6_bitCount_0f7a4_26 (by decide) ?_
  refine lv_iushr (v := (Int32.toUInt32 ((((nI (z)) - (((Int32.toUInt32 (nI (z)) >>> ((nI (1)).toUInt32 &&& Int32.toUInt32 31)).toInt32) &&& (nI (1431655765)))) &&& (nI (858993459))) + (((Int32.toUInt32 ((nI (z)) - (((Int32.toUInt32 (nI (z)) >>> ((nI (1)).toUInt32 &&& Int32.toUInt32 31)).toInt32) &&& (nI (1431655765)))) >>> ((nI (2)).toUInt32 &&& Int32.toUInt32 31)).toInt32) &&& (nI (858993459)))) >>> ((nI (4)).toUInt32 &&& Int32.toUInt32 31)).toInt32) hx hb dJ6_bitCount_0f7a4_27 (rfl) ?_
  refine lv_iadd hx hb dJ6_bitCount_0f7a4_28 ?_
  refine lv_ldcw (v := nI 252645135) hx hb hown (hts (.constant RJ6 267 252645135) (by decide +kernel)) dJ6_bitCount_0f7a4_29 ?_
  refine lv_iand hx hb dJ6_bitCount_0f7a4_32 ?_
  refine lv_istore_n (lv' := [(0, .int ((((((nI (z)) - (((Int32.toUInt32 (nI (z)) >>> ((nI (1)).toUInt32 &&& Int32.toUInt32 31)).toInt32) &&& (nI (1431655765)))) &&& (nI (858993459))) + (((Int32.toUInt32 ((nI (z)) - (((Int32.toUInt32 (nI (z)) >>> ((nI (1)).toUInt32 &&& Int32.toUInt32 31)).toInt32) &&& (nI (1431655765)))) >>> ((nI (2)).toUInt32 &&& Int32.toUInt32 31)).toInt32) &&& (nI (858993459)))) + ((Int32.toUInt32 ((((nI (z)) - (((Int32.toUInt32 (nI (z)) >>> ((nI (1)).toUInt32 &&& Int32.toUInt32 31)).toInt32) &&& (nI (1431655765)))) &&& (nI (858993459))) + (((Int32.toUInt32 ((nI (z)) - (((Int32.toUInt32 (nI (z)) >>> ((nI (1)).toUInt32 &&& Int32.toUInt32 31)).toInt32) &&& (nI (1431655765)))) >>> ((nI (2)).toUInt32 &&& Int32.toUInt32 31)).toInt32) &&& (nI (858993459)))) >>> ((nI (4)).toUInt32 &&& Int32.toUInt32 31)).toInt32)) &&& (nI (252645135))))]) hx hb dJ6_bitCount_0f7a4_33 rfl hl (by decide) rfl (fun ls hl => ?_)
  refine lv_iload_n hx hb dJ6_bitCount_0f7a4_34 rfl (lv_at hl 0 rfl) ?_
  refine lv_iload_n hx hb dJ6_bitCount_0f7a4_35 rfl (lv_at hl 0 rfl) ?_
  refine lv_bipush (v := nI 8) hx hb dJ6_bitCount_0f7a4_36 (by decide) ?_
  refine lv_iushr (v := (Int32.toUInt32 ((((((nI (z)) - (((Int32.toUInt32 (nI (z)) >>> ((nI (1)).toUInt32 &&& Int32.toUInt32 31)).toInt32) &&& (nI (1431655765)))) &&& (nI (858993459))) + (((Int32.toUInt32 ((nI (z)) - (((Int32.toUInt32 (nI (z)) >>> ((nI (1)).toUInt32 &&& Int32.toUInt32 31)).toInt32) &&& (nI (1431655765)))) >>> ((nI (2)).toUInt32 &&& Int32.toUInt32 31)).toInt32) &&& (nI (858993459)))) + ((Int32.toUInt32 ((((nI (z)) - (((Int32.toUInt32 (nI (z)) >>> ((nI (1)).toUInt32 &&& Int32.toUInt32 31)).toInt32) &&& (nI (1431655765)))) &&& (nI (858993459))) + (((Int32.toUInt32 ((nI (z)) - (((Int32.toUInt32 (nI (z)) >>> ((nI (1)).toUInt32 &&& Int32.toUInt32 31)).toInt32) &&& (nI (1431655765)))) >>> ((nI (2)).toUInt32 &&& Int32.toUInt32 31)).toInt32) &&& (nI (858993459)))) >>> ((nI (4)).toUInt32 &&& Int32.toUInt32 31)).toInt32)) &&& (nI (252645135))) >>> ((nI (8)).toUInt32 &&& Int32.toUInt32 31)).toInt32) hx hb dJ6_bitCount_0f7a4_38 (rfl) ?_
  refine lv_iadd hx hb dJ6_bitCount_0f7a4_39 ?_
  refine lv_istore_n (lv' := [(0, .int (((((((nI (z)) - (((Int32.toUInt32 (nI (z)) >>> ((nI (1)).toUInt32 &&& Int32.toUInt32 31)).toInt32) &&& (nI (1431655765)))) &&& (nI (858993459))) + (((Int32.toUInt32 ((nI (z)) - (((Int32.toUInt32 (nI (z)) >>> ((nI (1)).toUInt32 &&& Int32.toUInt32 31)).toInt32) &&& (nI (1431655765)))) >>> ((nI (2)).toUInt32 &&& Int32.toUInt32 31)).toInt32) &&& (nI (858993459)))) + ((Int32.toUInt32 ((((nI (z)) - (((Int32.toUInt32 (nI (z)) >>> ((nI (1)).toUInt32 &&& Int32.toUInt32 31)).toInt32) &&& (nI (1431655765)))) &&& (nI (858993459))) + (((Int32.toUInt32 ((nI (z)) - (((Int32.toUInt32 (nI (z)) >>> ((nI (1)).toUInt32 &&& Int32.toUInt32 31)).toInt32) &&& (nI (1431655765)))) >>> ((nI (2)).toUInt32 &&& Int32.toUInt32 31)).toInt32) &&& (nI (858993459)))) >>> ((nI (4)).toUInt32 &&& Int32.toUInt32 31)).toInt32)) &&& (nI (252645135))) + ((Int32.toUInt32 ((((((nI (z)) - (((Int32.toUInt32 (nI (z)) >>> ((nI (1)).toUInt32 &&& Int32.toUInt32 31)).toInt32) &&& (nI (1431655765)))) &&& (nI (858993459))) + (((Int32.toUInt32 ((nI (z)) - (((Int32.toUInt32 (nI (z)) >>> ((nI (1)).toUInt32 &&& Int32.toUInt32 31)).toInt32) &&& (nI (1431655765)))) >>> ((nI (2)).toUInt32 &&& Int32.toUInt32 31)).toInt32) &&& (nI (858993459)))) + ((Int32.toUInt32 ((((nI (z)) - (((Int32.toUInt32 (nI (z)) >>> ((nI (1)).toUInt32 &&& Int32.toUInt32 31)).toInt32) &&& (nI (1431655765)))) &&& (nI (858993459))) + (((Int32.toUInt32 ((nI (z)) - (((Int32.toUInt32 (nI (z)) >>> ((nI (1)).toUInt32 &&& Int32.toUInt32 31)).toInt32) &&& (nI (1431655765)))) >>> ((nI (2)).toUInt32 &&& Int32.toUInt32 31)).toInt32) &&& (nI (858993459)))) >>> ((nI (4)).toUInt32 &&& Int32.toUInt32 31)).toInt32)) &&& (nI (252645135))) >>> ((nI (8)).toUInt32 &&& Int32.toUInt32 31)).toInt32)))]) hx hb dJ6_bitCount_0f7a4_40 rfl hl (by decide) rfl (fun ls hl => ?_)
  refine lv_iload_n hx hb dJ6_bitCount_0f7a4_41 rfl (lv_at hl 0 rfl) ?_
  refine lv_iload_n hx hb dJ6_bitCount_0f7a4_42 rfl (lv_at hl 0 rfl) ?_
  refine lv_bipush (v := nI 16) hx hb dJ6_bitCount_0f7a4_43 (by decide) ?_
  refine lv_iushr (v := (Int32.toUInt32 (((((((nI (z)) - (((Int32.toUInt32 (nI (z)) >>> ((nI (1)).toUInt32 &&& Int32.toUInt32 31)).toInt32) &&& (nI (1431655765)))) &&& (nI (858993459))) + (((Int32.toUInt32 ((nI (z)) - (((Int32.toUInt32 (nI (z)) >>> ((nI (1)).toUInt32 &&& Int32.toUInt32 31)).toInt32) &&& (nI (1431655765)))) >>> ((nI (2)).toUInt32 &&& Int32.toUInt32 31)).toInt32) &&& (nI (858993459)))) + ((Int32.toUInt32 ((((nI (z)) - (((Int32.toUInt32 (nI (z)) >>> ((nI (1)).toUInt32 &&& Int32.toUInt32 31)).toInt32) &&& (nI (1431655765)))) &&& (nI (858993459))) + (((Int32.toUInt32 ((nI (z)) - (((Int32.toUInt32 (nI (z)) >>> ((nI (1)).toUInt32 &&& Int32.toUInt32 31)).toInt32) &&& (nI (1431655765)))) >>> ((nI (2)).toUInt32 &&& Int32.toUInt32 31)).toInt32) &&& (nI (858993459)))) >>> ((nI (4)).toUInt32 &&& Int32.toUInt32 31)).toInt32)) &&& (nI (252645135))) + ((Int32.toUInt32 ((((((nI (z)) - (((Int32.toUInt32 (nI (z)) >>> ((nI (1)).toUInt32 &&& Int32.toUInt32 31)).toInt32) &&& (nI (1431655765)))) &&& (nI (858993459))) + (((Int32.toUInt32 ((nI (z)) - (((Int32.toUInt32 (nI (z)) >>> ((nI (1)).toUInt32 &&& Int32.toUInt32 31)).toInt32) &&& (nI (1431655765)))) >>> ((nI (2)).toUInt32 &&& Int32.toUInt32 31)).toInt32) &&& (nI (858993459)))) + ((Int32.toUInt32 ((((nI (z)) - (((Int32.toUInt32 (nI (z)) >>> ((nI (1)).toUInt32 &&& Int32.toUInt32 31)).toInt32) &&& (nI (1431655765)))) &&& (nI (858993459))) + (((Int32.toUInt32 ((nI (z)) - (((Int32.toUInt32 (nI (z)) >>> ((nI (1)).toUInt32 &&& Int32.toUInt32 31)).toInt32) &&& (nI (1431655765)))) >>> ((nI (2)).toUInt32 &&& Int32.toUInt32 31)).toInt32) &&& (nI (858993459)))) >>> ((nI (4)).toUInt32 &&& Int32.toUInt32 31)).toInt32)) &&& (nI (252645135))) >>> ((nI (8)).toUInt32 &&& Int32.toUInt32 31)).toInt32)) >>> ((nI (16)).toUInt32 &&& Int32.toUInt32 31)).toInt32) hx hb dJ6_bitCount_0f7a4_45 (rfl) ?_
  refine lv_iadd hx hb dJ6_bitCount_0f7a4_46 ?_
  refine lv_istore_n (lv' := [(0, .int ((((((((nI (z)) - (((Int32.toUInt32 (nI (z)) >>> ((nI (1)).toUInt32 &&& Int32.toUInt32 31)).toInt32) &&& (nI (1431655765)))) &&& (nI (858993459))) + (((Int32.toUInt32 ((nI (z)) - (((Int32.toUInt32 (nI (z)) >>> ((nI (1)).toUInt32 &&& Int32.toUInt32 31)).toInt32) &&& (nI (1431655765)))) >>> ((nI (2)).toUInt32 &&& Int32.toUInt32 31)).toInt32) &&& (nI (858993459)))) + ((Int32.toUInt32 ((((nI (z)) - (((Int32.toUInt32 (nI (z)) >>> ((nI (1)).toUInt32 &&& Int32.toUInt32 31)).toInt32) &&& (nI (1431655765)))) &&& (nI (858993459))) + (((Int32.toUInt32 ((nI (z)) - (((Int32.toUInt32 (nI (z)) >>> ((nI (1)).toUInt32 &&& Int32.toUInt32 31)).toInt32) &&& (nI (1431655765)))) >>> ((nI (2)).toUInt32 &&& Int32.toUInt32 31)).toInt32) &&& (nI (858993459)))) >>> ((nI (4)).toUInt32 &&& Int32.toUInt32 31)).toInt32)) &&& (nI (252645135))) + ((Int32.toUInt32 ((((((nI (z)) - (((Int32.toUInt32 (nI (z)) >>> ((nI (1)).toUInt32 &&& Int32.toUInt32 31)).toInt32) &&& (nI (1431655765)))) &&& (nI (858993459))) + (((Int32.toUInt32 ((nI (z)) - (((Int32.toUInt32 (nI (z)) >>> ((nI (1)).toUInt32 &&& Int32.toUInt32 31)).toInt32) &&& (nI (1431655765)))) >>> ((nI (2)).toUInt32 &&& Int32.toUInt32 31)).toInt32) &&& (nI (858993459)))) + ((Int32.toUInt32 ((((nI (z)) - (((Int32.toUInt32 (nI (z)) >>> ((nI (1)).toUInt32 &&& Int32.toUInt32 31)).toInt32) &&& (nI (1431655765)))) &&& (nI (858993459))) + (((Int32.toUInt32 ((nI (z)) - (((Int32.toUInt32 (nI (z)) >>> ((nI (1)).toUInt32 &&& Int32.toUInt32 31)).toInt32) &&& (nI (1431655765)))) >>> ((nI (2)).toUInt32 &&& Int32.toUInt32 31)).toInt32) &&& (nI (858993459)))) >>> ((nI (4)).toUInt32 &&& Int32.toUInt32 31)).toInt32)) &&& (nI (252645135))) >>> ((nI (8)).toUInt32 &&& Int32.toUInt32 31)).toInt32)) + ((Int32.toUInt32 (((((((nI (z)) - (((Int32.toUInt32 (nI (z)) >>> ((nI (1)).toUInt32 &&& Int32.toUInt32 31)).toInt32) &&& (nI (1431655765)))) &&& (nI (858993459))) + (((Int32.toUInt32 ((nI (z)) - (((Int32.toUInt32 (nI (z)) >>> ((nI (1)).toUInt32 &&& Int32.toUInt32 31)).toInt32) &&& (nI (1431655765)))) >>> ((nI (2)).toUInt32 &&& Int32.toUInt32 31)).toInt32) &&& (nI (858993459)))) + ((Int32.toUInt32 ((((nI (z)) - (((Int32.toUInt32 (nI (z)) >>> ((nI (1)).toUInt32 &&& Int32.toUInt32 31)).toInt32) &&& (nI (1431655765)))) &&& (nI (858993459))) + (((Int32.toUInt32 ((nI (z)) - (((Int32.toUInt32 (nI (z)) >>> ((nI (1)).toUInt32 &&& Int32.toUInt32 31)).toInt32) &&& (nI (1431655765)))) >>> ((nI (2)).toUInt32 &&& Int32.toUInt32 31)).toInt32) &&& (nI (858993459)))) >>> ((nI (4)).toUInt32 &&& Int32.toUInt32 31)).toInt32)) &&& (nI (252645135))) + ((Int32.toUInt32 ((((((nI (z)) - (((Int32.toUInt32 (nI (z)) >>> ((nI (1)).toUInt32 &&& Int32.toUInt32 31)).toInt32) &&& (nI (1431655765)))) &&& (nI (858993459))) + (((Int32.toUInt32 ((nI (z)) - (((Int32.toUInt32 (nI (z)) >>> ((nI (1)).toUInt32 &&& Int32.toUInt32 31)).toInt32) &&& (nI (1431655765)))) >>> ((nI (2)).toUInt32 &&& Int32.toUInt32 31)).toInt32) &&& (nI (858993459)))) + ((Int32.toUInt32 ((((nI (z)) - (((Int32.toUInt32 (nI (z)) >>> ((nI (1)).toUInt32 &&& Int32.toUInt32 31)).toInt32) &&& (nI (1431655765)))) &&& (nI (858993459))) + (((Int32.toUInt32 ((nI (z)) - (((Int32.toUInt32 (nI (z)) >>> ((nI (1)).toUInt32 &&& Int32.toUInt32 31)).toInt32) &&& (nI (1431655765)))) >>> ((nI (2)).toUInt32 &&& Int32.toUInt32 31)).toInt32) &&& (nI (858993459)))) >>> ((nI (4)).toUInt32 &&& Int32.toUInt32 31)).toInt32)) &&& (nI (252645135))) >>> ((nI (8)).toUInt32 &&& Int32.toUInt32 31)).toInt32)) >>> ((nI (16)).toUInt32 &&& Int32.toUInt32 31)).toInt32)))]) hx hb dJ6_bitCount_0f7a4_47 rfl hl (by decide) rfl (fun ls hl => ?_)
  refine lv_iload_n hx hb dJ6_bitCount_0f7a4_48 rfl (lv_at hl 0 rfl) ?_
  refine lv_bipush (v := nI 63) hx hb dJ6_bitCount_0f7a4_49 (by decide) ?_
  refine lv_iand hx hb dJ6_bitCount_0f7a4_51 ?_
  exact nv_retS hq hx hb hr hlocks (nar_i _) (bc_eq z hz) dJ6_bitCount_0f7a4_52

set_option maxHeartbeats 1000000 in
set_option maxRecDepth 100000 in
theorem c_J1_canEncode_9a6ad (l : Launch) {D : va_G} {cI cC cD cR : ClassId} {sa : sA} {A : Nat → Prop} (c : Nat) (hc : c < 128) : Met l yJ1_canEncode_9a6ad wsJ1_canEncode_9a6ad ({ frames := 0, cells := 0, slots := 0, locals := 0 }) (va_Pc [.int (nI c)] (tPre D [(cI, .int), (cC, .char), (cD, .object "DoorDialect$Door"), (cR, .object "DoorDialect$House")] nN sa A (fun _ => True))) (sQ (nI (1))) 0 0 (fun _ => False) := by
  refine nv_met (cc := cJ1_canEncode_9a6ad) (maxL := 1) (ret := (some .boolean)) (by decide) rfl (Nat.le_of_ble_eq_true rfl) ?_
  intro p0 e0 s m0 args below meth c0 Q hq hargs hnA hpre ls hl
  obtain ⟨hx, hb, hr, hts, hown, hlocks, hml⟩ := hnA
  obtain ⟨hP, hT⟩ := hpre
  have hK := hT.1
  have hown : s.vm.findClass RJ1 = some m0.cls := hown
  have hl : lv_has ls 1 [(0, .int (nI c))] := hl
  have hS : va_S A s.heap s.heap [] := va_S.rf
  refine lv_iload_n hx hb dJ1_canEncode_9a6ad_0 rfl (lv_at hl 0 rfl) ?_
  refine nv_if_ltn (tgt := 15) hx hb dJ1_canEncode_9a6ad_1 (by decide) (by omega) ?_
  refine lv_iload_n hx hb dJ1_canEncode_9a6ad_4 rfl (lv_at hl 0 rfl) ?_
  refine lv_sipush (v := nI 255) hx hb dJ1_canEncode_9a6ad_5 (by decide) ?_
  refine nv_icmp_gt (tgt := 15) hx hb dJ1_canEncode_9a6ad_8 (by decide) (by omega) (by omega) (fun c2 => ?_) (fun c2 => ?_)
  · exfalso; omega
  · refine lv_iconst (v := nI 1) hx hb dJ1_canEncode_9a6ad_11 (by decide) ?_
    refine lv_goto (tgt := 16) hx hb dJ1_canEncode_9a6ad_12 (by decide) ?_
    exact nv_retS hq hx hb hr hlocks (nar_z (by omega)) (rfl) dJ1_canEncode_9a6ad_16

set_option maxHeartbeats 1000000 in
set_option maxRecDepth 100000 in
theorem c_J1_indexOfChar_4cfef (l : Launch) {D : va_G} {cI cC cD cR : ClassId} {sa : sA} {A : Nat → Prop} (i : Nat) (hi : i < 13) (c : Nat) (hc : c < 128) : Met l yJ1_indexOfChar_4cfef wsJ1_indexOfChar_4cfef ({ frames := 0, cells := 0, slots := 0, locals := 0 }) (va_Pc [.ref (sa.2 i), .int (nI c), .int (nI 0), .int (nI (sLen.getD i 0))] (tPre D [(cI, .int), (cC, .char), (cD, .object "DoorDialect$Door"), (cR, .object "DoorDialect$House")] nN sa A (fun _ => True))) (sQ (sIx i c)) 0 0 (fun _ => False) := by
  refine nv_met (cc := cJ1_indexOfChar_4cfef) (maxL := 6) (ret := (some .int)) (by decide) rfl (Nat.le_of_ble_eq_true rfl) ?_
  intro p0 e0 s m0 args below meth c0 Q hq hargs hnA hpre ls hl
  obtain ⟨hx, hb, hr, hts, hown, hlocks, hml⟩ := hnA
  obtain ⟨hP, hT⟩ := hpre
  have hK := hT.1
  have hown : s.vm.findClass RJ1 = some m0.cls := hown
  have hl : lv_has ls 6 [(0, .ref (sa.2 i)), (1, .int (nI c)), (2, .int (nI 0)), (3, .int (nI (sLen.getD i 0)))] := hl
  have hS : va_S A s.heap s.heap [] := va_S.rf
  have hsl := sLen_lt i hi
  refine lv_iload_n hx hb dJ1_indexOfChar_4cfef_0 rfl (lv_at hl 1 rfl) ?_
  refine lv_i2b (v := nI (c)) hx hb dJ1_indexOfChar_4cfef_1 (i2b_n _ (by omega)) ?_
  refine lv_istore (lv' := [(4, .int (nI c)), (0, .ref (sa.2 i)), (1, .int (nI c)), (2, .int (nI 0)), (3, .int (nI (sLen.getD i 0)))]) hx hb dJ1_indexOfChar_4cfef_2 hl (by decide) rfl (fun ls hl => ?_)
  refine lv_iload_n hx hb dJ1_indexOfChar_4cfef_4 rfl (lv_at hl 3 rfl) ?_
  refine lv_istore (lv' := [(5, .int (nI 0)), (4, .int (nI c)), (0, .ref (sa.2 i)), (1, .int (nI c)), (2, .int (nI 0)), (3, .int (nI (sLen.getD i 0)))]) hx hb dJ1_indexOfChar_4cfef_5 hl (by decide) rfl (fun ls hl => ?_)
  have hloop1 : ∀ (nn : Nat) (k : Nat), (k ≤ sLen.getD i 0) → (∀ j, j < k → ¬ sch i j = c) → sLen.getD i 0 - k < nn → ∀ (ls : Array Slot), lv_has ls 6 [(5, .int (nI k)), (4, .int (nI c)), (0, .ref (sa.2 i)), (1, .int (nI c)), (2, .int (nI 0)), (3, .int (nI (sLen.getD i 0)))] → W p0 l e0 ({ frames := 0, cells := 0, slots := 0, locals := 0 }) s m0 args below meth c0 s.heap [] 0 0 Q (F0 m0 7 ls []) := by
    intro nn7
    induction nn7 with
    | zero => intro k hk hn hn0  _ _; exact absurd hn0 (Nat.not_lt_zero _)
    | succ nn7 ih7 =>
      intro k hk hn hn7  ls hl
      refine lv_iload hx hb dJ1_indexOfChar_4cfef_7 (lv_at hl 0 rfl) ?_
      refine lv_iload_n hx hb dJ1_indexOfChar_4cfef_9 rfl (lv_at hl 5 rfl) ?_
      refine nv_icmp_ge (tgt := 31) hx hb dJ1_indexOfChar_4cfef_10 (by decide) (by omega) (by omega) (fun c2 => ?_) (fun c2 => ?_)
      · refine lv_iconst (v := (-1)) hx hb dJ1_indexOfChar_4cfef_31 (by decide) ?_
        exact nv_retS hq hx hb hr hlocks (nar_i _) (by unfold sIx; rw [show fd (fun k => sch i k = c) (sLen.getD i 0) = sLen.getD i 0 from fd_none (fun j hj => hn j (by omega)), if_neg (by omega)]) dJ1_indexOfChar_4cfef_32
      · refine lv_aload_n hx hb dJ1_indexOfChar_4cfef_13 rfl (lv_at hl 2 rfl) ?_
        refine lv_iload hx hb dJ1_indexOfChar_4cfef_14 (lv_at hl 0 rfl) ?_
        refine va_tb (i := nI (k)) (v := .int (nI (sch i (k)))) hx hb (hT.2.1.1 i hi).2.2.2 hS (vp_in_nI (by omega) (by omega)) (by show Value.int ((sByt.getD i []).getD (nI (k)).toNatClampNeg 0) = _; rw [nI_clamp (by omega), (sch_eq i hi (k) (by omega)).1]) dJ1_indexOfChar_4cfef_16 ?_
        have q3 := sch_eq i hi (k) (by omega)
        refine lv_iload hx hb dJ1_indexOfChar_4cfef_17 (lv_at hl 1 rfl) ?_
        refine nv_icmp_ne (tgt := 25) hx hb dJ1_indexOfChar_4cfef_19 (by decide) (by omega) (by omega) (fun c4 => ?_) (fun c4 => ?_)
        · refine lv_iinc (v := nI (k + 1)) (lv' := [(5, .int (nI (k + 1))), (4, .int (nI c)), (0, .ref (sa.2 i)), (1, .int (nI c)), (2, .int (nI 0)), (3, .int (nI (sLen.getD i 0)))]) hx hb dJ1_indexOfChar_4cfef_25 hl (k := 0) rfl (by show nI _ + Int32.ofInt 1 = _; exact nI_add _ 1) (by decide) rfl (fun ls hl => ?_)
          refine lv_goto (tgt := 7) hx hb dJ1_indexOfChar_4cfef_28 (by decide) ?_
          exact ih7  (k + 1) ((by omega)) ((fun j hj => by rcases (show j < k ∨ j = k by omega) with h | h; exact hn j h; subst h; exact c4)) (by omega) ls (lv_sub hl [0, 1, 2, 3, 4, 5] rfl)
        · refine lv_iload hx hb dJ1_indexOfChar_4cfef_22 (lv_at hl 0 rfl) ?_
          exact nv_retS hq hx hb hr hlocks (nar_i _) (by unfold sIx; rw [show fd (fun k => sch i k = c) (sLen.getD i 0) = k from fd_some hn c4 (by omega), if_pos (by omega)]) dJ1_indexOfChar_4cfef_24
  exact hloop1 _ 0 ((Nat.zero_le _)) ((fun j hj => absurd hj (Nat.not_lt_zero j))) (Nat.lt_succ_self _) ls (lv_sub hl [0, 1, 2, 3, 4, 5] rfl)

set_option maxHeartbeats 1000000 in
set_option maxRecDepth 100000 in
theorem c_J1_indexOf_4cfef (l : Launch) {D : va_G} {cI cC cD cR : ClassId} {sa : sA} {A : Nat → Prop} (i : Nat) (hi : i < 13) (c : Nat) (hc : c < 128) : Met l yJ1_indexOf_4cfef wsJ1_indexOf_4cfef ({ frames := 1, cells := 0, slots := 0, locals := 25 }) (va_Pc [.ref (sa.2 i), .int (nI c), .int (nI 0), .int (nI (sLen.getD i 0))] (tPre D [(cI, .int), (cC, .char), (cD, .object "DoorDialect$Door"), (cR, .object "DoorDialect$House")] nN sa A (fun _ => True))) (sQ (sIx i c)) 0 0 (fun _ => False) := by
  refine nv_met (cc := cJ1_indexOf_4cfef) (maxL := 4) (ret := (some .int)) (by decide) rfl (Nat.le_of_ble_eq_true rfl) ?_
  intro p0 e0 s m0 args below meth c0 Q hq hargs hnA hpre ls hl
  obtain ⟨hx, hb, hr, hts, hown, hlocks, hml⟩ := hnA
  obtain ⟨hP, hT⟩ := hpre
  have hK := hT.1
  have hown : s.vm.findClass RJ1 = some m0.cls := hown
  have hl : lv_has ls 4 [(0, .ref (sa.2 i)), (1, .int (nI c)), (2, .int (nI 0)), (3, .int (nI (sLen.getD i 0)))] := hl
  have hS : va_S A s.heap s.heap [] := va_S.rf
  have hsl := sLen_lt i hi
  have hs0 : ∀ i, i < 13 → 0 < sLen.getD i 0 := by decide +kernel
  have hs1 := hs0 i hi
  refine lv_iload_n hx hb dJ1_indexOf_4cfef_0 rfl (lv_at hl 1 rfl) ?_
  refine nv_kS (va_runS (As := [.int (nI c)]) (rest := []) ⟨hx, hb, hml, hown, hts⟩ (c_J1_canEncode_9a6ad l c (by omega)) (va_cwS 1 hts gJ1_indexOf_4cfef_J1_canEncode_9a6ad rfl rfl rfl (by decide +kernel) ⟨Nat.le_of_ble_eq_true rfl, Nat.le_of_ble_eq_true rfl⟩) (nt_pS hT hS trivial) rfl rfl hl.1 rfl (lv_room (Nat.le_of_ble_eq_true rfl)) dJ1_indexOf_4cfef_1 ⟨Nat.zero_le _, Nat.zero_le _⟩) ?_
  refine nv_if_ne (tgt := 9) hx hb dJ1_indexOf_4cfef_4 (by decide) (by omega) (fun c1 => ?_) (fun c1 => ?_)
  · refine lv_iload_n hx hb dJ1_indexOf_4cfef_9 rfl (lv_at hl 2 rfl) ?_
    refine lv_iconst (v := nI 0) hx hb dJ1_indexOf_4cfef_10 (by decide) ?_
    refine nv_mmax hx hb (hml.trans hl.1.symm) hown (hts (.methodLink RJ1 92 Lib.Math.max.name) (by decide +kernel)) (hts (.static Lib.Math.max.name) (by decide +kernel)) (hts (.initialized "java/lang/Math") (by decide +kernel)) (hts (.code Lib.Math.max.name Lib.Math.max.code 2 (some .int)) (by decide +kernel)) (Nat.le_of_ble_eq_true rfl) (Nat.le_of_ble_eq_true rfl) (Nat.zero_le _) (Nat.zero_le _) (by omega) (by omega) dJ1_indexOf_4cfef_11 ?_
    refine nv_to 0 (congrArg nI (by omega)) ?_
    refine lv_istore_n (lv' := [(2, .int (nI 0)), (0, .ref (sa.2 i)), (1, .int (nI c)), (3, .int (nI (sLen.getD i 0)))]) hx hb dJ1_indexOf_4cfef_14 rfl hl (by decide) rfl (fun ls hl => ?_)
    refine lv_iload_n hx hb dJ1_indexOf_4cfef_15 rfl (lv_at hl 3 rfl) ?_
    refine lv_aload_n hx hb dJ1_indexOf_4cfef_16 rfl (lv_at hl 1 rfl) ?_
    refine va_tlen (v := nI (sLen.getD i 0)) hx hb (hT.2.1.1 i hi).2.2.2 hS rfl dJ1_indexOf_4cfef_17 ?_
    refine nv_mmin hx hb (hml.trans hl.1.symm) hown (hts (.methodLink RJ1 38 Lib.Math.min.name) (by decide +kernel)) (hts (.static Lib.Math.min.name) (by decide +kernel)) (hts (.initialized "java/lang/Math") (by decide +kernel)) (hts (.code Lib.Math.min.name Lib.Math.min.code 2 (some .int)) (by decide +kernel)) (Nat.le_of_ble_eq_true rfl) (Nat.le_of_ble_eq_true rfl) (Nat.zero_le _) (Nat.zero_le _) (by omega) (by omega) dJ1_indexOf_4cfef_18 ?_
    refine nv_to (sLen.getD i 0) (congrArg nI (by omega)) ?_
    refine lv_istore_n (lv' := [(3, .int (nI (sLen.getD i 0))), (2, .int (nI 0)), (0, .ref (sa.2 i)), (1, .int (nI c))]) hx hb dJ1_indexOf_4cfef_21 rfl hl (by decide) rfl (fun ls hl => ?_)
    refine lv_iload_n hx hb dJ1_indexOf_4cfef_22 rfl (lv_at hl 1 rfl) ?_
    refine lv_iload_n hx hb dJ1_indexOf_4cfef_23 rfl (lv_at hl 0 rfl) ?_
    refine nv_icmp_lt (tgt := 29) hx hb dJ1_indexOf_4cfef_24 (by decide) (by omega) (by omega) (fun c2 => ?_) (fun c2 => ?_)
    · refine lv_aload_n hx hb dJ1_indexOf_4cfef_29 rfl (lv_at hl 2 rfl) ?_
      refine lv_iload_n hx hb dJ1_indexOf_4cfef_30 rfl (lv_at hl 3 rfl) ?_
      refine lv_iload_n hx hb dJ1_indexOf_4cfef_31 rfl (lv_at hl 1 rfl) ?_
      refine lv_iload_n hx hb dJ1_indexOf_4cfef_32 rfl (lv_at hl 0 rfl) ?_
      refine nv_kS (va_runS (As := [.ref (sa.2 i), .int (nI c), .int (nI 0), .int (nI (sLen.getD i 0))]) (rest := []) ⟨hx, hb, hml, hown, hts⟩ (c_J1_indexOfChar_4cfef l i hi c (by omega)) (va_cwS 4 hts gJ1_indexOf_4cfef_J1_indexOfChar_4cfef rfl rfl rfl (by decide +kernel) ⟨Nat.le_of_ble_eq_true rfl, Nat.le_of_ble_eq_true rfl⟩) (nt_pS hT hS trivial) rfl rfl hl.1 rfl (lv_room (Nat.le_of_ble_eq_true rfl)) dJ1_indexOf_4cfef_33 ⟨Nat.zero_le _, Nat.zero_le _⟩) ?_
      exact nv_retS hq hx hb hr hlocks (nar_i _) (rfl) dJ1_indexOf_4cfef_36
    · exact absurd hs1 c2
  · exact absurd c1 (by decide)

set_option maxHeartbeats 1000000 in
set_option maxRecDepth 100000 in
theorem c_J0_indexOf_7cf53 (l : Launch) {D : va_G} {cI cC cD cR : ClassId} {sa : sA} {A : Nat → Prop} (i : Nat) (hi : i < 13) (c : Nat) (hc : c < 128) : Met l yJ0_indexOf_7cf53 wsJ0_indexOf_7cf53 ({ frames := 2, cells := 0, slots := 0, locals := 48 }) (va_Pc [.ref (sa.1 i), .int (nI c), .int (nI 0)] (tPre D [(cI, .int), (cC, .char), (cD, .object "DoorDialect$Door"), (cR, .object "DoorDialect$House")] nN sa A (fun _ => True))) (sQ (sIx i c)) 0 0 (fun _ => False) := by
  refine nv_met (cc := cJ0_indexOf_7cf53) (maxL := 3) (ret := (some .int)) (by decide) rfl (Nat.le_of_ble_eq_true rfl) ?_
  intro p0 e0 s m0 args below meth c0 Q hq hargs hnA hpre ls hl
  obtain ⟨hx, hb, hr, hts, hown, hlocks, hml⟩ := hnA
  obtain ⟨hP, hT⟩ := hpre
  have hK := hT.1
  have hown : s.vm.findClass RJ0 = some m0.cls := hown
  have hl : lv_has ls 3 [(0, .ref (sa.1 i)), (1, .int (nI c)), (2, .int (nI 0))] := hl
  have hS : va_S A s.heap s.heap [] := va_S.rf
  have fl_9 := hts (.fieldLink RJ0 9 "java/lang/String" "value" "[B") (by decide +kernel)
  refine lv_aload_n hx hb dJ0_indexOf_7cf53_0 rfl (lv_at hl 0 rfl) ?_
  refine nv_kS (va_runV (As := []) (rest := []) ⟨hx, hb, hml, hown, hts⟩ (c_J0_isLatin1_aae02 l i hi) (cwV 0 hts gJ0_indexOf_7cf53_J0_isLatin1_aae02 rfl rfl rfl (by decide +kernel) ⟨Nat.le_of_ble_eq_true rfl, Nat.le_of_ble_eq_true rfl⟩) (nt_pV hT hS trivial (vk_recv hT.2.1 hi hS)) rfl rfl hl.1 rfl (lv_room (Nat.le_of_ble_eq_true rfl)) dJ0_indexOf_7cf53_1 ⟨Nat.zero_le _, Nat.zero_le _⟩) ?_
  refine nv_if_eq (tgt := 23) hx hb dJ0_indexOf_7cf53_4 (by decide) (by omega) (fun c1 => ?_) (fun c1 => ?_)
  · exact absurd c1 (by decide)
  · refine lv_aload_n hx hb dJ0_indexOf_7cf53_7 rfl (lv_at hl 0 rfl) ?_
    refine vk_getf hx hb (hT.2.1.1 i hi).2.2.1 hS hown fl_9 (fun _ h9 => h9) dJ0_indexOf_7cf53_8 ?_
    refine lv_iload_n hx hb dJ0_indexOf_7cf53_11 rfl (lv_at hl 1 rfl) ?_
    refine lv_iload_n hx hb dJ0_indexOf_7cf53_12 rfl (lv_at hl 2 rfl) ?_
    refine lv_aload_n hx hb dJ0_indexOf_7cf53_13 rfl (lv_at hl 0 rfl) ?_
    refine nv_kS (va_runV (As := []) (rest := [.int (nI 0), .int (nI c), .ref (sa.2 i)]) ⟨hx, hb, hml, hown, hts⟩ (c_J0_length_8abf5 l i hi) (cwV 0 hts gJ0_indexOf_7cf53_J0_length_8abf5 rfl rfl rfl (by decide +kernel) ⟨Nat.le_of_ble_eq_true rfl, Nat.le_of_ble_eq_true rfl⟩) (nt_pV hT hS trivial (vk_recv hT.2.1 hi hS)) rfl rfl hl.1 rfl (lv_room (Nat.le_of_ble_eq_true rfl)) dJ0_indexOf_7cf53_14 ⟨Nat.zero_le _, Nat.zero_le _⟩) ?_
    refine nv_kS (va_runS (As := [.ref (sa.2 i), .int (nI c), .int (nI 0), .int (nI (sLen.getD i 0))]) (rest := []) ⟨hx, hb, hml, hown, hts⟩ (c_J1_indexOf_4cfef l i hi c (by omega)) (va_cwS 4 hts gJ0_indexOf_7cf53_J1_indexOf_4cfef rfl rfl rfl (by decide +kernel) ⟨Nat.le_of_ble_eq_true rfl, Nat.le_of_ble_eq_true rfl⟩) (nt_pS hT hS trivial) rfl rfl hl.1 rfl (lv_room (Nat.le_of_ble_eq_true rfl)) dJ0_indexOf_7cf53_17 ⟨Nat.zero_le _, Nat.zero_le _⟩) ?_
    refine lv_goto (tgt := 36) hx hb dJ0_indexOf_7cf53_20 (by decide) ?_
    exact nv_retS hq hx hb hr hlocks (nar_i _) (rfl) dJ0_indexOf_7cf53_36

set_option maxHeartbeats 1000000 in
set_option maxRecDepth 100000 in
theorem c_J0_indexOf_0f7a4 (l : Launch) {D : va_G} {cI cC cD cR : ClassId} {sa : sA} {A : Nat → Prop} (i : Nat) (hi : i < 13) (c : Nat) (hc : c < 128) : Met l yJ0_indexOf_0f7a4 wsJ0_indexOf_0f7a4 ({ frames := 3, cells := 0, slots := 0, locals := 70 }) (va_Pc [.ref (sa.1 i), .int (nI c)] (tPre D [(cI, .int), (cC, .char), (cD, .object "DoorDialect$Door"), (cR, .object "DoorDialect$House")] nN sa A (fun _ => True))) (sQ (sIx i c)) 0 0 (fun _ => False) := by
  refine nv_met (cc := cJ0_indexOf_0f7a4) (maxL := 2) (ret := (some .int)) (by decide) rfl (Nat.le_of_ble_eq_true rfl) ?_
  intro p0 e0 s m0 args below meth c0 Q hq hargs hnA hpre ls hl
  obtain ⟨hx, hb, hr, hts, hown, hlocks, hml⟩ := hnA
  obtain ⟨hP, hT⟩ := hpre
  have hK := hT.1
  have hown : s.vm.findClass RJ0 = some m0.cls := hown
  have hl : lv_has ls 2 [(0, .ref (sa.1 i)), (1, .int (nI c))] := hl
  have hS : va_S A s.heap s.heap [] := va_S.rf
  refine lv_aload_n hx hb dJ0_indexOf_0f7a4_0 rfl (lv_at hl 0 rfl) ?_
  refine lv_iload_n hx hb dJ0_indexOf_0f7a4_1 rfl (lv_at hl 1 rfl) ?_
  refine lv_iconst (v := nI 0) hx hb dJ0_indexOf_0f7a4_2 (by decide) ?_
  refine nv_kS (va_runV (As := [.int (nI c), .int (nI 0)]) (rest := []) ⟨hx, hb, hml, hown, hts⟩ (c_J0_indexOf_7cf53 l i hi c (by omega)) (cwV 2 hts gJ0_indexOf_0f7a4_J0_indexOf_7cf53 rfl rfl rfl (by decide +kernel) ⟨Nat.le_of_ble_eq_true rfl, Nat.le_of_ble_eq_true rfl⟩) (nt_pV hT hS trivial (vk_recv hT.2.1 hi hS)) rfl rfl hl.1 rfl (lv_room (Nat.le_of_ble_eq_true rfl)) dJ0_indexOf_0f7a4_3 ⟨Nat.zero_le _, Nat.zero_le _⟩) ?_
  exact nv_retS hq hx hb hr hlocks (nar_i _) (rfl) dJ0_indexOf_0f7a4_6
