/-! what the start gives -/
def lwF : List Cond := flatC (Jvm.Cond.and given_1 narrow_1)
theorem st_D {b : Nat} {s : State} (hts : ∀ w ∈ lw_tbl, w.before #[Value.ref b] s = true) : ∃ D : va_G, ∀ (c : Nat) (q : vw_C), vwCl[c]? = some q → u_Kn s q.1 q.2.1 q.2.2 (D.1 c) (D.2 c) := by
  have ht2 := lw_t2_ok hts
  obtain ⟨c0, i0, h0⟩ := u_known (C := RJ0) (T := TJ0) (N := 4) (n := 4) ht2 wl_in_wsJ00 (hts (.instantiable RJ0 4) (List.mem_of_getElem? (i := 1128) (by decide +kernel)))
  obtain ⟨c1, i1, h1⟩ := u_known (C := RJx00060) (T := TJx00060) (N := 6) (n := 6) ht2 (nv_places _ [1123, 1124, 1125, 1126, 1127, 1128] (by decide +kernel)) (hts (.instantiable RJx00060 6) (List.mem_of_getElem? (i := 1113) (by decide +kernel)))
  obtain ⟨c2, i2, h2⟩ := u_known (C := RX0) (T := TX0) (N := 10) (n := 10) ht2 wl_in_wsX00 (hts (.instantiable RX0 10) (List.mem_of_getElem? (i := 77) (by decide +kernel)))
  obtain ⟨c3, i3, h3⟩ := u_known (C := RX1) (T := TX1) (N := 12) (n := 12) ht2 wl_in_wsX10 (hts (.instantiable RX1 12) (List.mem_of_getElem? (i := 70) (by decide +kernel)))
  obtain ⟨c4, i4, h4⟩ := u_known (C := RX2) (T := TX2) (N := 6) (n := 6) ht2 wl_in_wsX20 (hts (.instantiable RX2 6) (List.mem_of_getElem? (i := 280) (by decide +kernel)))
  obtain ⟨c5, i5, h5⟩ := u_known (C := RX3) (T := TX3) (N := 3) (n := 3) ht2 wl_in_wsX30 (hts (.instantiable RX3 3) (List.mem_of_getElem? (i := 231) (by decide +kernel)))
  obtain ⟨c6, i6, h6⟩ := u_known (C := RX4) (T := TX4) (N := 2) (n := 2) ht2 wl_in_wsX40 (hts (.instantiable RX4 2) (List.mem_of_getElem? (i := 264) (by decide +kernel)))
  obtain ⟨c7, i7, h7⟩ := u_known (C := RX5) (T := TX5) (N := 2) (n := 2) ht2 wl_in_wsX50 (hts (.instantiable RX5 2) (List.mem_of_getElem? (i := 251) (by decide +kernel)))
  obtain ⟨c8, i8, h8⟩ := u_known (C := RX6) (T := TX6) (N := 11) (n := 11) ht2 wl_in_wsX60 (hts (.instantiable RX6 11) (List.mem_of_getElem? (i := 62) (by decide +kernel)))
  obtain ⟨c9, i9, h9⟩ := u_known (C := RJ4) (T := TJ4) (N := 4) (n := 4) ht2 wl_in_wsJ40 (hts (.instantiable RJ4 4) (List.mem_of_getElem? (i := 1160) (by decide +kernel)))
  refine ⟨(fun k => match k with | 0 => c0 | 1 => c1 | 2 => c2 | 3 => c3 | 4 => c4 | 5 => c5 | 6 => c6 | 7 => c7 | 8 => c8 | _ => c9, fun k => match k with | 0 => i0 | 1 => i1 | 2 => i2 | 3 => i3 | 4 => i4 | 5 => i5 | 6 => i6 | 7 => i7 | 8 => i8 | _ => i9), fun c q hq => ?_⟩
  match c, hq with
  | 0, hq => cases hq; exact h0
  | 1, hq => cases hq; exact h1
  | 2, hq => cases hq; exact h2
  | 3, hq => cases hq; exact h3
  | 4, hq => cases hq; exact h4
  | 5, hq => cases hq; exact h5
  | 6, hq => cases hq; exact h6
  | 7, hq => cases hq; exact h7
  | 8, hq => cases hq; exact h8
  | 9, hq => cases hq; exact h9
  | c + 10, hq => simp [vwCl] at hq
theorem st_arr {args : Array Value} {s : State} {ty : FieldType} (_hp : True) (h : (Cond.arrayClass ty).before args s = true) : ∃ cA : ClassId, ArrOfT s cA ty ∧ s.vm.findClass ("[" ++ ty.toString) = some cA := by
  obtain ⟨c, k, comp, h1, h2, h3⟩ := Cond.arrayClass_spec h
  exact ⟨c, fun n z => ⟨(fun k h => (by cases h)), k, h2, comp, h3⟩, h1⟩
theorem st_arro {s : State} {C : String} (h : va_AO C s) : ∃ cA : ClassId, ArrOfT s cA (.object C) ∧ va_RA s cA (.object C) := by
  obtain ⟨comp, c, k, h1, h2, h3, h4, h5⟩ := Cond.arrayOver_spec h
  exact ⟨c, fun n z => ⟨(fun k h => (by cases h)), k, h3, comp, h4⟩, k, comp, h3, h4, h1, h5⟩
/-- the strings that are looked into, by one of their places -/
def sTm (i : Nat) : Term := match i with | 0 => .string RX1 108 | 1 => .string RX1 113 | 2 => .string RX2 104 | 3 => .string RX1 60 | 4 => .string RX2 70 | 5 => .string RX2 72 | 6 => .string RX2 74 | 7 => .string RX2 76 | 8 => .string RX2 78 | 9 => .string RX2 80 | 10 => .string RX2 82 | 11 => .string RX2 84 | _ => .string RX2 86
def sB : List Nat := [472, 479, 964, 293, 850, 863, 872, 884, 894, 906, 915, 929, 938]
set_option maxRecDepth 100000 in
theorem sF_ex : ∀ i, i < 13 → lwF[sB.getD i 0]? = some (Cond.exactly (sTm i) "java/lang/String") := by decide +kernel
set_option maxRecDepth 100000 in
theorem sF_co : ∀ i, i < 13 → lwF[sB.getD i 0 + 1]? = some (Cond.eq (.field (sTm i) "java/lang/String" "coder" "B") (.int 0)) := by decide +kernel
set_option maxRecDepth 100000 in
theorem sF_ar : ∀ i, i < 13 → lwF[sB.getD i 0 + 2]? = some (Cond.arrayOf (.field (sTm i) "java/lang/String" "value" "[B") .byte) := by decide +kernel
set_option maxRecDepth 100000 in
theorem sF_le : ∀ i, i < 13 → lwF[sB.getD i 0 + 3]? = some (Cond.eq (.length (.field (sTm i) "java/lang/String" "value" "[B")) (.int (Int32.ofNat (sLen.getD i 0)))) := by decide +kernel
set_option maxRecDepth 100000 in
theorem sF_el : ∀ i, i < 13 → ∀ j, j < sLen.getD i 0 → lwF[sB.getD i 0 + 4 + j]? = some (Cond.eq (.elem (.field (sTm i) "java/lang/String" "value" "[B") (.int (Int32.ofNat j))) (.int ((sByt.getD i []).getD j 0))) := by decide +kernel
theorem sF_len : ∀ i, i < 13 → sLen.getD i 0 < 2 ^ 31 := by decide +kernel
theorem sF_dif : ∀ i, i < 13 → ∀ j, j < 13 → i ≠ j → sLen.getD i 0 ≠ sLen.getD j 0 ∨ ∃ k, k < sLen.getD i 0 ∧ (sByt.getD i []).getD k 0 ≠ (sByt.getD j []).getD k 0 := by decide +kernel
theorem OF_uniq {o n d : String} {v w : Value} {a : Nat} {A : Nat → Prop} {U : State} {H : Heap} (h : va_OF o n d v a A U H) (h9 : va_OF o n d w a A U H) : v = w := by
  obtain ⟨cf, k, i, f, cell, q1, q2, q3, q4, q5, q6⟩ := h
  obtain ⟨cf9, k9, i9, f9, cell9, r1, r2, r3, r4, r5, r6⟩ := h9
  cases Option.some.inj (q1.symm.trans r1)
  cases Option.some.inj (q3.symm.trans r3)
  exact Option.some.inj (q5.symm.trans r5)
theorem T_uniq {ty : FieldType} {t N M : Nat} {f g : Nat → Value} {A : Nat → Prop} {U : State} {H : Heap} (h : va_T ty t N f A U H) (h9 : va_T ty t M g A U H) (hN : N < 2 ^ 31) (hM : M < 2 ^ 31) : N = M ∧ ∀ j, j < N → f j = g j := by
  obtain ⟨cell, q1, q2, q3, q4, q5, q6, q7⟩ := h
  obtain ⟨cell9, r1, r2, r3, r4, r5, r6, r7⟩ := h9
  cases Option.some.inj (q1.symm.trans r1)
  have e : N = M := (nI_eq hN hM).mp (q5.symm.trans r5)
  exact ⟨e, fun j hj => Option.some.inj ((q6 j hj).symm.trans (r6 j (by omega)))⟩
theorem st_S {b : Nat} {s : State} {A : Nat → Prop} (hfl : ∀ w ∈ lwF, w.before #[Value.ref b] s = true) (hA : ∀ a : Nat, a < s.heap.size → ¬ A a) : ∃ sa : sA, vk_S 13 sLen sByt sa.1 sa.2 A s s.heap ∧ ∀ i, i < 13 → (sTm i).eval #[Value.ref b] s none [] s = some (.ref (sa.1 i)) := by
  have h0 : ∀ i : Nat, ∃ q : Nat × Nat, i < 13 → (va_O "java/lang/String" q.1 A s s.heap ∧ va_OF "java/lang/String" "coder" "B" (.int 0) q.1 A s s.heap ∧ va_OF "java/lang/String" "value" "[B" (.ref q.2) q.1 A s s.heap ∧ va_T .byte q.2 (sLen.getD i 0) (fun j => .int ((sByt.getD i []).getD j 0)) A s s.heap) ∧ (sTm i).eval #[Value.ref b] s none [] s = some (.ref q.1) := by
    intro i
    by_cases hi : i < 13
    · obtain ⟨adK, adV, h1, h2⟩ := vk_Sof (args := #[Value.ref b]) (s := s) (N := 1) (tm := fun _ => sTm i) (len := [sLen.getD i 0]) (byt := [sByt.getD i []]) (A := A)
        (fun j hj => by rw [show j = 0 by omega]; exact sF_len i hi) (fun j hj => hfl _ (List.mem_of_getElem? (sF_ex i hi))) (fun j hj => hfl _ (List.mem_of_getElem? (sF_co i hi))) (fun j hj => hfl _ (List.mem_of_getElem? (sF_ar i hi)))
        (fun j hj => by rw [show j = 0 by omega]; exact hfl _ (List.mem_of_getElem? (sF_le i hi))) (fun j hj k hk => by
          have e : j = 0 := by omega
          subst e
          exact hfl _ (List.mem_of_getElem? (sF_el i hi k hk))) (fun j k hj hk hne => absurd (show j = k by omega) hne) hA
      exact ⟨(adK 0, adV 0), fun _ => ⟨h1.1 0 (by decide), h2 0 (by decide)⟩⟩
    · exact ⟨(0, 0), fun h => absurd h hi⟩
  obtain ⟨ad, had⟩ := Classical.axiomOfChoice h0
  refine ⟨(fun i => (ad i).1, fun i => (ad i).2), ⟨fun i hi => (had i hi).1, fun i j hi hj e => ?_⟩, fun i hi => (had i hi).2⟩
  have e : (ad i).1 = (ad j).1 := e
  by_cases hij : i = j
  · exact hij
  · exfalso
    obtain ⟨⟨_, _, a1, a2⟩, _⟩ := had i hi
    obtain ⟨⟨_, _, b1, b2⟩, _⟩ := had j hj
    rw [← e] at b1
    have e2 : (ad i).2 = (ad j).2 := by
      have := OF_uniq a1 b1
      injection this
    rw [← e2] at b2
    have e3 := T_uniq a2 b2 (sF_len i hi) (sF_len j hj)
    rcases sF_dif i hi j hj hij with h | ⟨k, h1, h2⟩
    · exact h e3.1
    · have := e3.2 k h1
      injection this with h3
      exact h2 h3
set_option maxRecDepth 100000 in
theorem sM_t : ∀ q ∈ sMs, Cond.stringRef RX6 q.1 q.2 ∈ lw_tbl := by decide +kernel
set_option maxRecDepth 100000 in
theorem sM_f : ∀ q ∈ sMs, Cond.exactly (Term.string RX6 q.1) "java/lang/String" ∈ lwF := by decide +kernel
set_option maxRecDepth 100000 in
theorem sN_t : ∀ q ∈ nN, Cond.methodLinkNest q.1 q.2.1 q.2.2.1 q.2.2.2 ∈ lw_tbl := by decide +kernel
set_option maxRecDepth 100000 in
theorem sC_t : ∀ X ∈ xNs, Cond.castable X X ∈ lw_tbl := by decide +kernel
set_option maxRecDepth 100000 in
theorem sD_t : ∀ x ∈ xDs, Cond.declares x ∈ lw_tbl := by decide +kernel
set_option maxRecDepth 100000 in
theorem sX_f : ∀ a ∈ xC3, ∀ c ∈ xC3, a ≠ c → Cond.not (.castable a c) ∈ lwF := by decide +kernel
def lB : List Nat := [1174, 1386, 1256, 1267, 1279, 1293, 1299, 1311, 1321, 1327, 1337, 1350, 1359, 1371, 1381, 1395, 1408, 1413, 1426, 1451, 1460, 1178, 1183]
abbrev lQ (i : Nat) : Nat × String × List Nat := lRf.getD i (0, "", [])
set_option maxRecDepth 100000 in
theorem lF_ex : ∀ i, i < 23 → lwF[lB.getD i 0]? = some (Cond.exactly (.string RL (lQ i).1) "java/lang/String") := by decide +kernel
set_option maxRecDepth 100000 in
theorem lF_co : ∀ i, i < 23 → lwF[lB.getD i 0 + 1]? = some (Cond.eq (.field (.string RL (lQ i).1) "java/lang/String" "coder" "B") (.int 0)) := by decide +kernel
set_option maxRecDepth 100000 in
theorem lF_ar : ∀ i, i < 23 → lwF[lB.getD i 0 + 2]? = some (Cond.arrayOf (.field (.string RL (lQ i).1) "java/lang/String" "value" "[B") .byte) := by decide +kernel
set_option maxRecDepth 100000 in
theorem lF_le : ∀ i, i < 23 → lwF[lB.getD i 0 + 3]? = some (Cond.eq (.length (.field (.string RL (lQ i).1) "java/lang/String" "value" "[B")) (.int (Int32.ofNat (lQ i).2.2.length))) := by decide +kernel
set_option maxRecDepth 100000 in
theorem lF_el : ∀ i, i < 23 → ∀ j, j < (lQ i).2.2.length → lwF[lB.getD i 0 + 4 + j]? = some (Cond.eq (.elem (.field (.string RL (lQ i).1) "java/lang/String" "value" "[B") (.int (Int32.ofNat j))) (.int ((((lQ i).2.2).map nI).getD j 0))) := by decide +kernel
set_option maxRecDepth 100000 in
theorem lF_t : ∀ i, i < 23 → Cond.stringRef RL (lQ i).1 (lQ i).2.1 ∈ lw_tbl := by decide +kernel
theorem lF_ln : ∀ i, i < 23 → (lQ i).2.2.length < 1000 ∧ ∀ c ∈ (lQ i).2.2, c < 128 := by decide +kernel
theorem st_L {b : Nat} {s : State} {A : Nat → Prop} (hts : ∀ w ∈ lw_tbl, w.before #[Value.ref b] s = true) (hfl : ∀ w ∈ lwF, w.before #[Value.ref b] s = true) (hA : ∀ a : Nat, a < s.heap.size → ¬ A a) : ∀ q ∈ lRf, ∃ r v : Nat, vk_R RL q.1 q.2.1 r s ∧ tx A (r, v, q.2.2) s s.heap := by
  intro q hq
  obtain ⟨i, hi9⟩ := List.getElem?_of_mem hq
  have hi : i < 23 := (List.getElem?_eq_some_iff.mp hi9).1
  have e : lQ i = q := by show lRf.getD i _ = q; rw [List.getD_eq_getElem?_getD, hi9]; rfl
  subst e
  obtain ⟨hl1, hl2⟩ := lF_ln i hi
  obtain ⟨adK, adV, h1, h2⟩ := vk_Sof (args := #[Value.ref b]) (s := s) (N := 1) (tm := fun _ => .string RL (lQ i).1) (len := [(lQ i).2.2.length]) (byt := [((lQ i).2.2).map nI]) (A := A)
    (fun j hj => by rw [show j = 0 by omega]; show (lQ i).2.2.length < _; omega) (fun j hj => hfl _ (List.mem_of_getElem? (lF_ex i hi))) (fun j hj => hfl _ (List.mem_of_getElem? (lF_co i hi))) (fun j hj => hfl _ (List.mem_of_getElem? (lF_ar i hi)))
    (fun j hj => by rw [show j = 0 by omega]; exact hfl _ (List.mem_of_getElem? (lF_le i hi))) (fun j hj k hk => by
      have e : j = 0 := by omega
      subst e
      exact hfl _ (List.mem_of_getElem? (lF_el i hi k hk))) (fun j k hj hk hne => absurd (show j = k by omega) hne) hA
  obtain ⟨g1, g2, g3, cell, q1, q2, q3, q4, q5, q6, q7⟩ := h1.1 0 (by decide)
  refine ⟨adK 0, adV 0, vk_R.of (A := #[Value.ref b]) (hts _ (lF_t i hi)) (h2 0 (by decide)), hl1, hl2, g1, g2, g3, cell, q1, q2, q3, q4, q5, fun j hj => ?_, q7⟩
  refine (q6 j hj).trans ?_
  have e2 : (((lQ i).2.2).map nI).getD j 0 = nI ((lQ i).2.2.getD j 0) := by
    rw [List.getD_eq_getElem?_getD, List.getD_eq_getElem?_getD, List.getElem?_map]
    cases ((lQ i).2.2)[j]? with
    | none => show (0 : Int32) = nI 0; exact nI_0.symm
    | some c => rfl
  show some (Value.int (((lQ i).2.2.map nI).getD j 0)) = _
  rw [e2]
set_option maxHeartbeats 1000000 in
set_option maxRecDepth 100000 in
theorem law_facts {b : Nat} {s : State} (hts : ∀ w ∈ lw_tbl, w.before #[Value.ref b] s = true) (hfl : ∀ w ∈ lwF, w.before #[Value.ref b] s = true) : ∃ (D : va_G) (cI cC cD cR cB : ClassId) (sa : sA), kT D [(cI, .int), (cC, .char), (cD, .object "DoorDialect$Door"), (cR, .object "DoorDialect$House")] nN sa (aN s.heap.size) s s.heap ∧ lX D cB (aN s.heap.size) s s.heap := by
  have hA : ∀ a : Nat, a < s.heap.size → ¬ aN s.heap.size a := fun a h9 h8 => absurd h8 (Nat.not_le.mpr h9)
  obtain ⟨D, hD⟩ := st_D hts
  obtain ⟨cI, aI, fI⟩ := st_arr (ty := .int) trivial (hts (.arrayClass .int) (List.mem_of_getElem? (i := 133) (by decide +kernel)))
  obtain ⟨cC, aC, fC⟩ := st_arr (ty := .char) trivial (hts (.arrayClass .char) (List.mem_of_getElem? (i := 278) (by decide +kernel)))
  obtain ⟨cB, aB, fB⟩ := st_arr (ty := .byte) trivial (hts (.arrayClass .byte) (List.mem_of_getElem? (i := 229) (by decide +kernel)))
  have oD : va_AO RX0 s := va_AO.of (A := #[Value.ref b]) (hts (.arrayOver (.object RX0)) (List.mem_of_getElem? (i := 76) (by decide +kernel)))
  have oR : va_AO RX1 s := va_AO.of (A := #[Value.ref b]) (hts (.arrayOver (.object RX1)) (List.mem_of_getElem? (i := 237) (by decide +kernel)))
  obtain ⟨cD, aD, rD⟩ := st_arro oD
  obtain ⟨cR, aR, rR⟩ := st_arro oR
  obtain ⟨sa, hSa, hev⟩ := st_S hfl hA
  refine ⟨D, cI, cC, cD, cR, cB, sa, ⟨⟨⟨hD, fun k q hk => ?_⟩, fun q hq => va_Nw.of (A := #[Value.ref b]) rfl (hts _ (sN_t q hq))⟩, hSa, ?_, ?_, fun q hq => ?_, fun X hX => va_Nw.of (A := #[Value.ref b]) rfl (hts _ (sC_t X hX)), fun x hx => va_Nw.of (A := #[Value.ref b]) rfl (hts _ (sD_t x hx)), oD, oR⟩, ⟨⟨hD, fun k q hk => ?_⟩, va_Nw.of (A := #[Value.ref b]) rfl (hts _ (List.mem_of_getElem? (i := 1225) (by decide +kernel)))⟩, fun a ha c hc hn => va_Nc.of (args := #[Value.ref b]) (hfl _ (sX_f a ha c hc hn)), st_L hts hfl hA⟩
  · match k, hk with
    | 0, hk => cases hk; exact ⟨aI, fI⟩
    | 1, hk => cases hk; exact ⟨aC, fC⟩
    | 2, hk => cases hk; exact ⟨aD, rD⟩
    | 3, hk => cases hk; exact ⟨aR, rR⟩
    | k + 4, hk => simp at hk
  · have e96 : (Term.string RX2 96).eval #[Value.ref b] s none [] s = some (.ref (sa.1 0)) := va_eqR (hfl (.eq (.string RX1 108) (.string RX2 96)) (List.mem_of_getElem? (i := 956) (by decide +kernel))) (hev 0 (by decide))
    have e102 : (Term.string RX2 102).eval #[Value.ref b] s none [] s = some (.ref (sa.1 1)) := va_eqR (hfl (.eq (.string RX1 113) (.string RX2 102)) (List.mem_of_getElem? (i := 963) (by decide +kernel))) (hev 1 (by decide))
    exact List.forall_mem_cons.mpr ⟨vk_R.of (A := #[Value.ref b]) (hts _ (List.mem_of_getElem? (i := 141) (by decide +kernel))) (hev 3 (by decide)), List.forall_mem_cons.mpr ⟨vk_R.of (A := #[Value.ref b]) (hts _ (List.mem_of_getElem? (i := 603) (by decide +kernel))) (hev 0 (by decide)), List.forall_mem_cons.mpr ⟨vk_R.of (A := #[Value.ref b]) (hts _ (List.mem_of_getElem? (i := 604) (by decide +kernel))) (hev 1 (by decide)), List.forall_mem_cons.mpr ⟨vk_R.of (A := #[Value.ref b]) (hts _ (List.mem_of_getElem? (i := 893) (by decide +kernel))) (hev 4 (by decide)), List.forall_mem_cons.mpr ⟨vk_R.of (A := #[Value.ref b]) (hts _ (List.mem_of_getElem? (i := 894) (by decide +kernel))) (hev 5 (by decide)), List.forall_mem_cons.mpr ⟨vk_R.of (A := #[Value.ref b]) (hts _ (List.mem_of_getElem? (i := 895) (by decide +kernel))) (hev 6 (by decide)), List.forall_mem_cons.mpr ⟨vk_R.of (A := #[Value.ref b]) (hts _ (List.mem_of_getElem? (i := 896) (by decide +kernel))) (hev 7 (by decide)), List.forall_mem_cons.mpr ⟨vk_R.of (A := #[Value.ref b]) (hts _ (List.mem_of_getElem? (i := 897) (by decide +kernel))) (hev 8 (by decide)), List.forall_mem_cons.mpr ⟨vk_R.of (A := #[Value.ref b]) (hts _ (List.mem_of_getElem? (i := 898) (by decide +kernel))) (hev 9 (by decide)), List.forall_mem_cons.mpr ⟨vk_R.of (A := #[Value.ref b]) (hts _ (List.mem_of_getElem? (i := 899) (by decide +kernel))) (hev 10 (by decide)), List.forall_mem_cons.mpr ⟨vk_R.of (A := #[Value.ref b]) (hts _ (List.mem_of_getElem? (i := 900) (by decide +kernel))) (hev 11 (by decide)), List.forall_mem_cons.mpr ⟨vk_R.of (A := #[Value.ref b]) (hts _ (List.mem_of_getElem? (i := 901) (by decide +kernel))) (hev 12 (by decide)), List.forall_mem_cons.mpr ⟨vk_R.of (A := #[Value.ref b]) (hts _ (List.mem_of_getElem? (i := 926) (by decide +kernel))) e96, List.forall_mem_cons.mpr ⟨vk_R.of (A := #[Value.ref b]) (hts _ (List.mem_of_getElem? (i := 989) (by decide +kernel))) e102, List.forall_mem_cons.mpr ⟨vk_R.of (A := #[Value.ref b]) (hts _ (List.mem_of_getElem? (i := 990) (by decide +kernel))) (hev 2 (by decide)), fun _ h9 => nomatch h9⟩⟩⟩⟩⟩⟩⟩⟩⟩⟩⟩⟩⟩⟩⟩
  · exact ⟨va_Zof (args := #[Value.ref b]) (hts (.laysStatic "java/lang/String" "COMPACT_STRINGS" "Z") (List.mem_of_getElem? (i := 151) (by decide +kernel))) (hts (.initialized "java/lang/String") (List.mem_of_getElem? (i := 34) (by decide +kernel))) (va_eqi (hfl (.eq (.static "java/lang/String" "COMPACT_STRINGS" "Z") (.int 1)) (List.mem_of_getElem? (i := 4) (by decide +kernel)))) hA, va_Zqof (args := #[Value.ref b]) (hts (.laysStatic "jdk/internal/util/Preconditions" "SIOOBE_FORMATTER" "Ljava/util/function/BiFunction;") (List.mem_of_getElem? (i := 159) (by decide +kernel))) (hts (.initialized "jdk/internal/util/Preconditions") (List.mem_of_getElem? (i := 36) (by decide +kernel))) (hfl (.isRef (.static "jdk/internal/util/Preconditions" "SIOOBE_FORMATTER" "Ljava/util/function/BiFunction;")) (List.mem_of_getElem? (i := 5) (by decide +kernel))) hA, vx_Zqof (args := #[Value.ref b]) (hts (.laysStatic Bundle.tN "UNASSIGNED_STACK" Bundle.steD) (List.mem_of_getElem? (i := 396) (by decide +kernel))) (hts (.initialized Bundle.tN) (List.mem_of_getElem? (i := 42) (by decide +kernel))) (hfl (.isRef (.static Bundle.tN "UNASSIGNED_STACK" Bundle.steD)) (List.mem_of_getElem? (i := 9) (by decide +kernel))) hA, vx_Zqof (args := #[Value.ref b]) (hts (.laysStatic Bundle.tN "SUPPRESSED_SENTINEL" Bundle.listD) (List.mem_of_getElem? (i := 398) (by decide +kernel))) (hts (.initialized Bundle.tN) (List.mem_of_getElem? (i := 42) (by decide +kernel))) (hfl (.isRef (.static Bundle.tN "SUPPRESSED_SENTINEL" Bundle.listD)) (List.mem_of_getElem? (i := 10) (by decide +kernel))) hA⟩
  · obtain ⟨a, c9, cA, kA, q1, -⟩ := Cond.exactly_spec (args := #[Value.ref b]) (first := s) (o := none) (s := s) (idx := []) (t := Term.string RX6 q.1) (cls := "java/lang/String") (hfl _ (sM_f q hq))
    exact ⟨a, vk_R.of (A := #[Value.ref b]) (hts _ (sM_t q hq)) q1⟩
  · match k, hk with
    | 0, hk => cases hk; exact ⟨aB, fB⟩
    | k + 1, hk => simp at hk
