theorem sub_le {a b : Nat} (ha : a < 2 ^ 30) (hb : b < 2 ^ 30) : nI a - nI b ≤ 0 ↔ a ≤ b := by
  rw [Int32.le_iff_toInt_le, pk_sub_toInt ha hb, Int32.toInt_zero]
  omega
/-- one cell, or a new one -/
abbrev bN (b n1 : Nat) : Nat → Prop := fun q => q = b ∨ n1 ≤ q
abbrev oN (b : Nat) : Nat → Prop := fun q => q = b
theorem va_S.up {A B : Nat → Prop} {H0 H : Heap} {locs : List Loc} (h : va_S A H0 H locs) (hAB : ∀ q, A q → B q) : va_S B H0 H locs := ⟨h.1, fun q h1 h2 => h.2.1 q h1 (fun h3 => h2 (hAB q h3)), fun q hq => hAB _ (h.2.2 q hq)⟩
theorem va_P1 {D : va_G} {cl : List vw_C} {q : Nat × va_E} {H H1 : Heap} (h : va_P D cl [q] H) (hK : H1[q.1]? = H[q.1]?) : va_P D cl [q] H1 := h.kept (fun k p hk => by
  match k, hk with
  | 0, hk => cases hk; exact hK
  | k + 1, hk => simp at hk)
set_option maxHeartbeats 1000000 in
set_option maxRecDepth 100000 in
theorem c_S_isLatin1 (l : Launch) {D : va_G} {cI cC cD cR cB : ClassId} {sa : sA} {A : Nat → Prop} {a b m n : Nat} {F : Nat → Nat} : Met l yJ5_isLatin1_aae02 wsJ5_isLatin1_aae02 ({ frames := 0, cells := 0, slots := 0, locals := 0 }) (va_Pc [.ref a] (sPx D [(cI, .int), (cC, .char), (cD, .object "DoorDialect$Door"), (cR, .object "DoorDialect$House")] nN sa A cB (fun H => va_P D vwCl (sbW cB a b m F n) H) [])) (sQ (nI 1)) 0 0 (fun _ => False) := by
  refine nv_met (cc := cJ5_isLatin1_aae02) (maxL := 1) (ret := (some .boolean)) (by decide) rfl (Nat.le_of_ble_eq_true rfl) ?_
  intro p0 e0 s m0 args below meth c0 Q hq hargs hnA hpre ls hl
  obtain ⟨hx, hb, hr, hts, hown, hlocks, hml⟩ := hnA
  obtain ⟨hP, hT, hBk, hX⟩ := hpre
  have hown : s.vm.findClass RJ5 = some m0.cls := hown
  have hl : lv_has ls 1 [(0, .ref a)] := hl
  have hS : va_S A s.heap s.heap [] := va_S.rf
  have hP : va_P D vwCl [(a, .inr (9, [.ref b, .int (nI 0), .int (nI 0), .int (nI n)])), (b, .inl (cB, m, .inl (gN F)))] s.heap := hP
  have in_J4 : ∀ w ∈ wsJ40, w ∈ wsJ5_isLatin1_aae02 := by decide +kernel
  have fl_18 := hts (.fieldLink RJ5 18 "java/lang/String" "COMPACT_STRINGS" "Z") (by decide +kernel)
  have fl_22 := hts (.fieldLink RJ5 22 "java/lang/AbstractStringBuilder" "coder" "B") (by decide +kernel)
  refine va_gets hx hb hT.2.2.2.1.1 hS hown fl_18 (fun _ h9 => h9) dJ5_isLatin1_aae02_0 ?_
  refine nv_to 1 rfl ?_
  refine nv_if_eq (tgt := 17) hx hb dJ5_isLatin1_aae02_3 (by decide) (by omega) (fun c1 => absurd c1 (by decide)) (fun c1 => ?_)
  refine lv_aload_n hx hb dJ5_isLatin1_aae02_6 rfl (lv_at hl 0 rfl) ?_
  refine va_get (D := D) (ci := 9) (v := .int (nI 0)) (C := RJ4) (T := TJ4) (N := 4) hx hb hts in_J4 hown hBk.1 hP 0 rfl rfl 1 (by decide) fl_22 (fun _ h9 => h9) rfl dJ5_isLatin1_aae02_7 ?_
  refine nv_if_ne (tgt := 17) hx hb dJ5_isLatin1_aae02_10 (by decide) (by omega) (fun c2 => absurd c2 (by decide)) (fun c2 => ?_)
  refine lv_iconst (v := nI 1) hx hb dJ5_isLatin1_aae02_13 (by decide) ?_
  refine lv_goto (tgt := 18) hx hb dJ5_isLatin1_aae02_14 (by decide) ?_
  exact nv_retS hq hx hb hr hlocks (nar_z (by omega)) (rfl) dJ5_isLatin1_aae02_18
set_option maxHeartbeats 1000000 in
set_option maxRecDepth 100000 in
theorem c_S_length5 (l : Launch) {D : va_G} {cI cC cD cR cB : ClassId} {sa : sA} {A : Nat → Prop} {a b m n : Nat} {F : Nat → Nat} : Met l yJ5_length_8abf5 wsJ5_length_8abf5 ({ frames := 0, cells := 0, slots := 0, locals := 0 }) (va_Pc [.ref a] (sPx D [(cI, .int), (cC, .char), (cD, .object "DoorDialect$Door"), (cR, .object "DoorDialect$House")] nN sa A cB (fun H => va_P D vwCl (sbW cB a b m F n) H) [])) (sQ (nI n)) 0 0 (fun _ => False) := by
  refine nv_met (cc := cJ5_length_8abf5) (maxL := 1) (ret := (some .int)) (by decide) rfl (Nat.le_of_ble_eq_true rfl) ?_
  intro p0 e0 s m0 args below meth c0 Q hq hargs hnA hpre ls hl
  obtain ⟨hx, hb, hr, hts, hown, hlocks, hml⟩ := hnA
  obtain ⟨hP, hT, hBk, hX⟩ := hpre
  have hown : s.vm.findClass RJ5 = some m0.cls := hown
  have hl : lv_has ls 1 [(0, .ref a)] := hl
  have hS : va_S A s.heap s.heap [] := va_S.rf
  have hP : va_P D vwCl [(a, .inr (9, [.ref b, .int (nI 0), .int (nI 0), .int (nI n)])), (b, .inl (cB, m, .inl (gN F)))] s.heap := hP
  have in_J4 : ∀ w ∈ wsJ40, w ∈ wsJ5_length_8abf5 := by decide +kernel
  have fl_79 := hts (.fieldLink RJ5 79 "java/lang/AbstractStringBuilder" "count" "I") (by decide +kernel)
  refine lv_aload_n hx hb dJ5_length_8abf5_0 rfl (lv_at hl 0 rfl) ?_
  refine va_get (D := D) (ci := 9) (v := .int (nI n)) (C := RJ4) (T := TJ4) (N := 4) hx hb hts in_J4 hown hBk.1 hP 0 rfl rfl 3 (by decide) fl_79 (fun _ h9 => h9) rfl dJ5_length_8abf5_1 ?_
  exact nv_retS hq hx hb hr hlocks (nar_i _) (rfl) dJ5_length_8abf5_4
set_option maxHeartbeats 1000000 in
set_option maxRecDepth 100000 in
theorem c_S_length4 (l : Launch) {D : va_G} {cI cC cD cR cB : ClassId} {sa : sA} {A : Nat → Prop} {a b m n : Nat} {F : Nat → Nat} : Met l yJ4_length_8abf5 wsJ4_length_8abf5 ({ frames := 1, cells := 0, slots := 0, locals := 20 }) (va_Pc [.ref a] (sPx D [(cI, .int), (cC, .char), (cD, .object "DoorDialect$Door"), (cR, .object "DoorDialect$House")] nN sa A cB (fun H => va_P D vwCl (sbW cB a b m F n) H) [])) (sQ (nI n)) 0 0 (fun _ => False) := by
  refine nv_met (cc := cJ4_length_8abf5) (maxL := 1) (ret := (some .int)) (by decide) rfl (Nat.le_of_ble_eq_true rfl) ?_
  intro p0 e0 s m0 args below meth c0 Q hq hargs hnA hpre ls hl
  obtain ⟨hx, hb, hr, hts, hown, hlocks, hml⟩ := hnA
  obtain ⟨hP, hT, hBk, hX⟩ := hpre
  have hown : s.vm.findClass RJ4 = some m0.cls := hown
  have hl : lv_has ls 1 [(0, .ref a)] := hl
  have hS : va_S A s.heap s.heap [] := va_S.rf
  have hP : va_P D vwCl [(a, .inr (9, [.ref b, .int (nI 0), .int (nI 0), .int (nI n)])), (b, .inl (cB, m, .inl (gN F)))] s.heap := hP
  refine lv_aload_n hx hb dJ4_length_8abf5_0 rfl (lv_at hl 0 rfl) ?_
  refine nv_kS (va_runSU (hBk.1.1 9 _ rfl).2 (As := []) (rest := []) ⟨hx, hb, hml, hown, hts⟩ (c_S_length5 l (A := A)) (va_cwSU 0 hts gJ4_length_8abf5_J5_length_8abf5_s343 rfl rfl rfl (by decide +kernel) ⟨Nat.le_of_ble_eq_true rfl, Nat.le_of_ble_eq_true rfl⟩) (nx_pV hT hBk tx0 hS (fun q h => h) hP (va_recv hBk.1 hP (ci := 9) (q0 := 0) rfl rfl)) rfl rfl hl.1 rfl (lv_room (Nat.le_of_ble_eq_true rfl)) dJ4_length_8abf5_1 ⟨Nat.le_of_ble_eq_true rfl, Nat.le_of_ble_eq_true rfl⟩) ?_
  exact nv_retS hq hx hb hr hlocks (nar_i _) (rfl) dJ4_length_8abf5_4
set_option maxHeartbeats 1000000 in
set_option maxRecDepth 100000 in
theorem c_S_getValue (l : Launch) {D : va_G} {cI cC cD cR cB : ClassId} {sa : sA} {A : Nat → Prop} {a b m n : Nat} {F : Nat → Nat} : Met l yJ5_getValue_6d5f1 wsJ5_getValue_6d5f1 ({ frames := 0, cells := 0, slots := 0, locals := 0 }) (va_Pc [.ref a] (sPx D [(cI, .int), (cC, .char), (cD, .object "DoorDialect$Door"), (cR, .object "DoorDialect$House")] nN sa A cB (fun H => va_P D vwCl (sbW cB a b m F n) H) [])) (gQr b (fun H => va_P D vwCl (sbW cB a b m F n) H) (fun _ => False)) 0 0 (fun _ => False) := by
  refine nv_met (cc := cJ5_getValue_6d5f1) (maxL := 1) (ret := (some (.array .byte))) (by decide) rfl (Nat.le_of_ble_eq_true rfl) ?_
  intro p0 e0 s m0 args below meth c0 Q hq hargs hnA hpre ls hl
  obtain ⟨hx, hb, hr, hts, hown, hlocks, hml⟩ := hnA
  obtain ⟨hP, hT, hBk, hX⟩ := hpre
  have hown : s.vm.findClass RJ5 = some m0.cls := hown
  have hl : lv_has ls 1 [(0, .ref a)] := hl
  have hS : va_S A s.heap s.heap [] := va_S.rf
  have hP : va_P D vwCl [(a, .inr (9, [.ref b, .int (nI 0), .int (nI 0), .int (nI n)])), (b, .inl (cB, m, .inl (gN F)))] s.heap := hP
  have in_J4 : ∀ w ∈ wsJ40, w ∈ wsJ5_getValue_6d5f1 := by decide +kernel
  have fl_15 := hts (.fieldLink RJ5 15 "java/lang/AbstractStringBuilder" "value" "[B") (by decide +kernel)
  refine lv_aload_n hx hb dJ5_getValue_6d5f1_0 rfl (lv_at hl 0 rfl) ?_
  refine va_get (D := D) (ci := 9) (v := .ref b) (C := RJ4) (T := TJ4) (N := 4) hx hb hts in_J4 hown hBk.1 hP 0 rfl rfl 0 (by decide) fl_15 (fun _ h9 => h9) rfl dJ5_getValue_6d5f1_1 ?_
  exact nv_retGr2 hq hx hb hr (Or.inr ⟨_, rfl⟩) hlocks (Nat.zero_le _) (Nat.zero_le _) (va_S.rf) hP dJ5_getValue_6d5f1_4
set_option maxHeartbeats 1000000 in
set_option maxRecDepth 100000 in
theorem c_S_newLength (l : Launch) {D : va_G} {cI cC cD cR cB : ClassId} {sa : sA} {A : Nat → Prop} (o x y : Nat) (h0 : 0 < o + max x y) (ho : o < 1000) (hx9 : x < 1000) (hy9 : y < 1000) : Met l yJ8_newLength_cabcc wsJ8_newLength_cabcc ({ frames := 1, cells := 0, slots := 0, locals := 30 }) (va_Pc [.int (nI o), .int (nI x), .int (nI y)] (sPx D [(cI, .int), (cC, .char), (cD, .object "DoorDialect$Door"), (cR, .object "DoorDialect$House")] nN sa A cB (fun _ => True) [])) (sQ (nI (o + max x y))) 0 0 (fun _ => False) := by
  refine nv_met (cc := cJ8_newLength_cabcc) (maxL := 4) (ret := (some .int)) (by decide) rfl (Nat.le_of_ble_eq_true rfl) ?_
  intro p0 e0 s m0 args below meth c0 Q hq hargs hnA hpre ls hl
  obtain ⟨hx, hb, hr, hts, hown, hlocks, hml⟩ := hnA
  obtain ⟨hP, hT, hBk, hX⟩ := hpre
  have hown : s.vm.findClass RJ8 = some m0.cls := hown
  have hl : lv_has ls 4 [(0, .int (nI o)), (1, .int (nI x)), (2, .int (nI y))] := hl
  have hS : va_S A s.heap s.heap [] := va_S.rf
  refine lv_iload_n hx hb dJ8_newLength_cabcc_0 rfl (lv_at hl 0 rfl) ?_
  refine lv_iload_n hx hb dJ8_newLength_cabcc_1 rfl (lv_at hl 1 rfl) ?_
  refine lv_iload_n hx hb dJ8_newLength_cabcc_2 rfl (lv_at hl 2 rfl) ?_
  refine nv_mmax hx hb (hml.trans hl.1.symm) hown (hts (.methodLink RJ8 194 Lib.Math.max.name) (by decide +kernel)) (hts (.static Lib.Math.max.name) (by decide +kernel)) (hts (.initialized "java/lang/Math") (by decide +kernel)) (hts (.code Lib.Math.max.name Lib.Math.max.code 2 (some .int)) (by decide +kernel)) (Nat.le_of_ble_eq_true rfl) (Nat.le_of_ble_eq_true rfl) (by first | exact Nat.zero_le _ | exact Nat.le_of_ble_eq_true rfl) (by first | exact Nat.zero_le _ | (show _ ≤ (150 : Nat); omega) | (show _ ≤ (60 : Nat); omega)) (by omega) (by omega) dJ8_newLength_cabcc_3 ?_
  refine nv_iadd hx hb dJ8_newLength_cabcc_6 ?_
  refine lv_istore_n (lv' := [(3, .int (nI (o + (max x y)))), (0, .int (nI o)), (1, .int (nI x)), (2, .int (nI y))]) hx hb dJ8_newLength_cabcc_7 rfl hl (by decide) rfl (fun ls hl => ?_)
  refine lv_iconst (v := nI 0) hx hb dJ8_newLength_cabcc_8 (by decide) ?_
  refine lv_iload_n hx hb dJ8_newLength_cabcc_9 rfl (lv_at hl 0 rfl) ?_
  refine nv_icmp_ge (tgt := 21) hx hb dJ8_newLength_cabcc_10 (by decide) (by omega) (by omega) (fun c1 => absurd c1 (by omega)) (fun c1 => ?_)
  refine lv_iload_n hx hb dJ8_newLength_cabcc_13 rfl (lv_at hl 0 rfl) ?_
  refine lv_ldc (v := nI 2147483639) hx hb hown (hts (.constant RJ8 200 2147483639) (by decide +kernel)) dJ8_newLength_cabcc_14 ?_
  refine nv_icmp_gt (tgt := 21) hx hb dJ8_newLength_cabcc_16 (by decide) (by omega) (by omega) (fun c2 => absurd c2 (by omega)) (fun c2 => ?_)
  refine lv_iload_n hx hb dJ8_newLength_cabcc_19 rfl (lv_at hl 0 rfl) ?_
  exact nv_retS hq hx hb hr hlocks (nar_i _) (rfl) dJ8_newLength_cabcc_20
set_option maxHeartbeats 1000000 in
set_option maxRecDepth 100000 in
theorem c_S_newCap (l : Launch) {D : va_G} {cI cC cD cR cB : ClassId} {sa : sA} {A : Nat → Prop} {a b m n : Nat} {F : Nat → Nat} (q : Nat) (hmq : m < q) (hq9 : q ≤ 60) : Met l yJ5_newCapacity_0f7a4 wsJ5_newCapacity_0f7a4 ({ frames := 2, cells := 0, slots := 0, locals := 53 }) (va_Pc [.ref a, .int (nI q)] (sPx D [(cI, .int), (cC, .char), (cD, .object "DoorDialect$Door"), (cR, .object "DoorDialect$House")] nN sa A cB (fun H => va_P D vwCl (sbW cB a b m F n) H) [])) (sQ (nI (m + max (q - m) (m + 2)))) 0 0 (fun _ => False) := by
  refine nv_met (cc := cJ5_newCapacity_0f7a4) (maxL := 6) (ret := (some .int)) (by decide) rfl (Nat.le_of_ble_eq_true rfl) ?_
  intro p0 e0 s m0 args below meth c0 Q hq hargs hnA hpre ls hl
  obtain ⟨hx, hb, hr, hts, hown, hlocks, hml⟩ := hnA
  obtain ⟨hP, hT, hBk, hX⟩ := hpre
  have hown : s.vm.findClass RJ5 = some m0.cls := hown
  have hl : lv_has ls 6 [(0, .ref a), (1, .int (nI q))] := hl
  have hS : va_S A s.heap s.heap [] := va_S.rf
  have hP : va_P D vwCl [(a, .inr (9, [.ref b, .int (nI 0), .int (nI 0), .int (nI n)])), (b, .inl (cB, m, .inl (gN F)))] s.heap := hP
  have in_J4 : ∀ w ∈ wsJ40, w ∈ wsJ5_newCapacity_0f7a4 := by decide +kernel
  have fl_15 := hts (.fieldLink RJ5 15 "java/lang/AbstractStringBuilder" "value" "[B") (by decide +kernel)
  have fl_22 := hts (.fieldLink RJ5 22 "java/lang/AbstractStringBuilder" "coder" "B") (by decide +kernel)
  refine lv_aload_n hx hb dJ5_newCapacity_0f7a4_0 rfl (lv_at hl 0 rfl) ?_
  refine va_get (D := D) (ci := 9) (v := .ref b) (C := RJ4) (T := TJ4) (N := 4) hx hb hts in_J4 hown hBk.1 hP 0 rfl rfl 0 (by decide) fl_15 (fun _ h9 => h9) rfl dJ5_newCapacity_0f7a4_1 ?_
  refine va_alen (v := nI m) hx hb hBk.1 hP 1 0 (ty := .byte) rfl rfl rfl dJ5_newCapacity_0f7a4_4 ?_
  refine lv_istore_n (lv' := [(2, .int (nI m)), (0, .ref a), (1, .int (nI q))]) hx hb dJ5_newCapacity_0f7a4_5 rfl hl (by decide) rfl (fun ls hl => ?_)
  refine lv_iload_n hx hb dJ5_newCapacity_0f7a4_6 rfl (lv_at hl 2 rfl) ?_
  refine lv_aload_n hx hb dJ5_newCapacity_0f7a4_7 rfl (lv_at hl 1 rfl) ?_
  refine va_get (D := D) (ci := 9) (v := .int (nI 0)) (C := RJ4) (T := TJ4) (N := 4) hx hb hts in_J4 hown hBk.1 hP 0 rfl rfl 1 (by decide) fl_22 (fun _ h9 => h9) rfl dJ5_newCapacity_0f7a4_8 ?_
  refine lv_ishl hx hb dJ5_newCapacity_0f7a4_11 ?_
  refine nv_to (q) (nb_shl (k := 0) (by decide) (by omega)) ?_
  refine lv_istore_n (lv' := [(3, .int (nI q)), (2, .int (nI m)), (0, .ref a), (1, .int (nI q))]) hx hb dJ5_newCapacity_0f7a4_12 rfl hl (by decide) rfl (fun ls hl => ?_)
  refine lv_iload_n hx hb dJ5_newCapacity_0f7a4_13 rfl (lv_at hl 0 rfl) ?_
  refine lv_iload_n hx hb dJ5_newCapacity_0f7a4_14 rfl (lv_at hl 1 rfl) ?_
  refine nv_isub hx hb dJ5_newCapacity_0f7a4_15 (by omega) ?_
  refine lv_istore (lv' := [(4, .int (nI (q - m))), (3, .int (nI q)), (2, .int (nI m)), (0, .ref a), (1, .int (nI q))]) hx hb dJ5_newCapacity_0f7a4_16 hl (by decide) rfl (fun ls hl => ?_)
  refine lv_iload_n hx hb dJ5_newCapacity_0f7a4_18 rfl (lv_at hl 2 rfl) ?_
  refine lv_iload hx hb dJ5_newCapacity_0f7a4_19 (lv_at hl 0 rfl) ?_
  refine lv_iload_n hx hb dJ5_newCapacity_0f7a4_21 rfl (lv_at hl 2 rfl) ?_
  refine lv_iconst (v := nI 2) hx hb dJ5_newCapacity_0f7a4_22 (by decide) ?_
  refine lv_aload_n hx hb dJ5_newCapacity_0f7a4_23 rfl (lv_at hl 3 rfl) ?_
  refine va_get (D := D) (ci := 9) (v := .int (nI 0)) (C := RJ4) (T := TJ4) (N := 4) hx hb hts in_J4 hown hBk.1 hP 0 rfl rfl 1 (by decide) fl_22 (fun _ h9 => h9) rfl dJ5_newCapacity_0f7a4_24 ?_
  refine lv_ishl hx hb dJ5_newCapacity_0f7a4_27 ?_
  refine nv_to (2) (nb_shl (k := 0) (by decide) (by omega)) ?_
  refine nv_iadd hx hb dJ5_newCapacity_0f7a4_28 ?_
  refine nv_kS (va_runS (As := [.int (nI m), .int (nI (q - m)), .int (nI (m + 2))]) (rest := []) ⟨hx, hb, hml, hown, hts⟩ (c_S_newLength l (A := A) m (q - m) (m + 2) (by omega) (by omega) (by omega) (by omega)) (va_cwS 3 hts gJ5_newCapacity_0f7a4_J8_newLength_cabcc rfl rfl rfl (by decide +kernel) ⟨Nat.le_of_ble_eq_true rfl, Nat.le_of_ble_eq_true rfl⟩) (nx_pS hT hBk tx0 hS (fun q h => h) trivial) rfl rfl hl.1 rfl (lv_room (Nat.le_of_ble_eq_true rfl)) dJ5_newCapacity_0f7a4_29 ⟨Nat.le_of_ble_eq_true rfl, Nat.le_of_ble_eq_true rfl⟩) ?_
  refine lv_istore (lv' := [(5, .int (nI (m + max (q - m) (m + 2)))), (4, .int (nI (q - m))), (3, .int (nI q)), (2, .int (nI m)), (0, .ref a), (1, .int (nI q))]) hx hb dJ5_newCapacity_0f7a4_32 hl (by decide) rfl (fun ls hl => ?_)
  refine lv_iload hx hb dJ5_newCapacity_0f7a4_34 (lv_at hl 0 rfl) ?_
  refine lv_ldc (v := nI 2147483647) hx hb hown (hts (.constant RJ5 39 2147483647) (by decide +kernel)) dJ5_newCapacity_0f7a4_36 ?_
  refine nv_icmp_ne (tgt := 51) hx hb dJ5_newCapacity_0f7a4_38 (by decide) (by omega) (by omega) (fun c1 => ?_) (fun c1 => absurd c1 (by omega))
  refine lv_iload hx hb dJ5_newCapacity_0f7a4_51 (lv_at hl 0 rfl) ?_
  refine lv_aload_n hx hb dJ5_newCapacity_0f7a4_53 rfl (lv_at hl 4 rfl) ?_
  refine va_get (D := D) (ci := 9) (v := .int (nI 0)) (C := RJ4) (T := TJ4) (N := 4) hx hb hts in_J4 hown hBk.1 hP 0 rfl rfl 1 (by decide) fl_22 (fun _ h9 => h9) rfl dJ5_newCapacity_0f7a4_54 ?_
  refine lv_ishr hx hb dJ5_newCapacity_0f7a4_57 ?_
  refine nv_to (m + max (q - m) (m + 2)) (nb_shr (k := 0) (by decide) (by omega)) ?_
  exact nv_retS hq hx hb hr hlocks (nar_i _) (rfl) dJ5_newCapacity_0f7a4_58
set_option maxHeartbeats 1000000 in
set_option maxRecDepth 100000 in
theorem c_S_copyOf (l : Launch) {D : va_G} {cI cC cD cR cB : ClassId} {sa : sA} {b m n1 : Nat} {F : Nat → Nat} (q : Nat) (hmq : m < q) (hq9 : q ≤ 150) (hF9 : ∀ j, F j < 128) : Met l yJ7_copyOf_9075b wsJ7_copyOf_9075b ({ frames := 1, cells := 1, slots := 150, locals := 80 }) (va_Pc [.ref b, .int (nI q)] (sPx D [(cI, .int), (cC, .char), (cD, .object "DoorDialect$Door"), (cR, .object "DoorDialect$House")] nN sa (bN b n1) cB (fun H => n1 ≤ H.size ∧ va_P D vwCl [(b, .inl (cB, m, .inl (gN F)))] H) [])) (gQn (fun r H => va_P D vwCl [(r, .inl (cB, q, .inl (gN (va_cpy F (fun _ => 0) 0 0 (min m q)))))] H ∧ r ≠ b ∧ n1 ≤ r) (bN b n1)) 1 150 (bN b n1) := by
  refine nv_met (cc := cJ7_copyOf_9075b) (maxL := 3) (ret := (some (.array .byte))) (by decide) rfl (Nat.le_of_ble_eq_true rfl) ?_
  intro p0 e0 s m0 args below meth c0 Q hq hargs hnA hpre ls hl
  obtain ⟨hx, hb, hr, hts, hown, hlocks, hml⟩ := hnA
  obtain ⟨hP, hT, hBk, hX⟩ := hpre
  have hown : s.vm.findClass RJ7 = some m0.cls := hown
  have hl : lv_has ls 3 [(0, .ref b), (1, .int (nI q))] := hl
  have hS : va_S (bN b n1) s.heap s.heap [] := va_S.rf
  have hn1 : n1 ≤ s.heap.size := hP.1
  have hA : ∀ q : Nat, s.heap.size ≤ q → bN b n1 q := fun q hq => Or.inr (Nat.le_trans hn1 hq)
  have hP : va_P D vwCl [(b, .inl (cB, m, .inl (gN F)))] s.heap := hP.2
  have hD : va_D (bN b n1) [(b, .inl (cB, m, .inl (gN F)))] := va_D1 (Or.inl rfl)
  refine lv_iload_n hx hb dJ7_copyOf_9075b_0 rfl (lv_at hl 1 rfl) ?_
  refine lv_aload_n hx hb dJ7_copyOf_9075b_1 rfl (lv_at hl 0 rfl) ?_
  refine va_alen (v := nI m) hx hb hBk.1 hP 0 0 (ty := .byte) rfl rfl rfl dJ7_copyOf_9075b_2 ?_
  refine nv_icmp_ne (tgt := 14) hx hb dJ7_copyOf_9075b_3 (by decide) (by omega) (by omega) (fun c1 => ?_) (fun c1 => absurd c1 (by omega))
  refine lv_iload_n hx hb dJ7_copyOf_9075b_14 rfl (lv_at hl 1 rfl) ?_
  refine nv_newa (atype := .byte) (ty := .byte) (n := q) (a0 := (q, .inl (gN (fun _ => 0)))) hx hb (hts (.arrayClass .byte) (by decide +kernel)) rfl hBk.1 hP hD hS hA 0 rfl (fun _ => rfl) (by omega) (by show (q) * 1 ≤ 536870912; omega) (by first | exact Nat.le_of_ble_eq_true rfl | (simp only []; omega)) (by show 0 + q ≤ 150; omega) dJ7_copyOf_9075b_15 (fun r H hP hD hS => ?_)
  have hP : va_P D vwCl [(b, .inl (cB, m, .inl (gN F))), (r, .inl (cB, q, .inl (gN (fun _ => 0))))] H := hP
  have hD : va_D _ [(b, .inl (cB, m, .inl (gN F))), (r, .inl (cB, q, .inl (gN (fun _ => 0))))] := hD
  refine lv_astore_n (lv' := [(2, .ref r), (0, .ref b), (1, .int (nI q))]) hx hb dJ7_copyOf_9075b_17 rfl hl (by decide) rfl (fun ls hl => ?_)
  refine lv_aload_n hx hb dJ7_copyOf_9075b_18 rfl (lv_at hl 1 rfl) ?_
  refine lv_iconst (v := nI 0) hx hb dJ7_copyOf_9075b_19 (by decide) ?_
  refine lv_aload_n hx hb dJ7_copyOf_9075b_20 rfl (lv_at hl 0 rfl) ?_
  refine lv_iconst (v := nI 0) hx hb dJ7_copyOf_9075b_21 (by decide) ?_
  refine lv_aload_n hx hb dJ7_copyOf_9075b_22 rfl (lv_at hl 1 rfl) ?_
  refine va_alen (v := nI m) hx hb hBk.1 hP 0 0 (ty := .byte) rfl rfl rfl dJ7_copyOf_9075b_23 ?_
  refine lv_iload_n hx hb dJ7_copyOf_9075b_24 rfl (lv_at hl 2 rfl) ?_
  refine nv_mmin hx hb (hml.trans hl.1.symm) hown (hts (.methodLink RJ7 304 Lib.Math.min.name) (by decide +kernel)) (hts (.static Lib.Math.min.name) (by decide +kernel)) (hts (.initialized "java/lang/Math") (by decide +kernel)) (hts (.code Lib.Math.min.name Lib.Math.min.code 2 (some .int)) (by decide +kernel)) (Nat.le_of_ble_eq_true rfl) (Nat.le_of_ble_eq_true rfl) (by first | exact Nat.zero_le _ | exact Nat.le_of_ble_eq_true rfl) (by first | exact Nat.zero_le _ | (show _ ≤ (150 : Nat); omega) | (show _ ≤ (60 : Nat); omega)) (by omega) (by omega) dJ7_copyOf_9075b_25 ?_
  have h0c : (nI 0).toNatClampNeg = 0 := nI_clamp (by decide)
  have hlc : (nI (min m q)).toNatClampNeg = (min m q) := nI_clamp (by omega)
  refine va_copyi (f := gN F) (g := gN (fun _ => 0)) hx hb (hml.trans hl.1.symm) hown (hts (.methodLink RJ7 150 arraycopyName) (by decide +kernel)) (hts (.native arraycopyName) (by decide +kernel)) (hts (.static arraycopyName) (by decide +kernel)) (hts (.initialized "java/lang/System") (by decide +kernel)) hBk.1 hP hD hS 0 1 0 0 rfl rfl rfl rfl rfl (by decide) (by decide) (nI_pos (by omega)) (by rw [h0c, hlc]; omega) (by rw [h0c, hlc]; omega) (fun i _ => fit_byte (hF9 _)) (Nat.le_of_ble_eq_true rfl) (Nat.le_of_ble_eq_true rfl) dJ7_copyOf_9075b_28 (fun H locs hP hD hS => ?_)
  rw [h0c, hlc, ← gN_cpy] at hP
  have hP : va_P D vwCl [(b, .inl (cB, m, .inl (gN F))), (r, .inl (cB, q, .inl (gN (va_cpy F (fun _ => 0) 0 0 (min m q)))))] H := hP
  have hD : va_D _ [(b, .inl (cB, m, .inl (gN F))), (r, .inl (cB, q, .inl (gN (va_cpy F (fun _ => 0) 0 0 (min m q)))))] := nd_same hD rfl
  refine lv_aload_n hx hb dJ7_copyOf_9075b_31 rfl (lv_at hl 0 rfl) ?_
  have hrb : r ≠ b := fun e => absurd (hD.1 0 1 _ _ rfl rfl e.symm) (by decide)
  have hrn : n1 ≤ r := (hD.2 1 _ rfl).resolve_left hrb
  exact nv_retGn hq hx hb hr (Or.inr ⟨_, rfl⟩) hlocks (Nat.le_of_ble_eq_true rfl) (by omega) hS ⟨hP.sub [1] rfl, hrb, hrn⟩ dJ7_copyOf_9075b_32
set_option maxHeartbeats 1000000 in
set_option maxRecDepth 100000 in
theorem c_S_ensure (l : Launch) {D : va_G} {cI cC cD cR cB : ClassId} {sa : sA} {n0 a b m n : Nat} {F : Nat → Nat} (q : Nat) (hq9 : q ≤ 60) (hm9 : m ≤ 150) (hab : a ≠ b) (ha0 : n0 ≤ a) (hb0 : n0 ≤ b) (hF9 : ∀ j, F j < 128) : Met l yJ5_ensureCapacityInternal_d00df wsJ5_ensureCapacityInternal_d00df ({ frames := 3, cells := 1, slots := 150, locals := 102 }) (va_Pc [.ref a, .int (nI q)] (sPx D [(cI, .int), (cC, .char), (cD, .object "DoorDialect$Door"), (cR, .object "DoorDialect$House")] nN sa (aN n0) cB (fun H => va_P D vwCl (sbW cB a b m F n) H) [])) (gQv (sbC D cB n0 a n m F q) (aN n0)) 1 150 (aN n0) := by
  refine nv_met (cc := cJ5_ensureCapacityInternal_d00df) (maxL := 3) (ret := none) (by decide) rfl (Nat.le_of_ble_eq_true rfl) ?_
  intro p0 e0 s m0 args below meth c0 Q hq hargs hnA hpre ls hl
  obtain ⟨hx, hb, hr, hts, hown, hlocks, hml⟩ := hnA
  obtain ⟨hP, hT, hBk, hX⟩ := hpre
  have hown : s.vm.findClass RJ5 = some m0.cls := hown
  have hl : lv_has ls 3 [(0, .ref a), (1, .int (nI q))] := hl
  have hS : va_S (aN n0) s.heap s.heap [] := va_S.rf
  have hP : va_P D vwCl [(a, .inr (9, [.ref b, .int (nI 0), .int (nI 0), .int (nI n)])), (b, .inl (cB, m, .inl (gN F)))] s.heap := hP
  have in_J4 : ∀ w ∈ wsJ40, w ∈ wsJ5_ensureCapacityInternal_d00df := by decide +kernel
  have fl_15 := hts (.fieldLink RJ5 15 "java/lang/AbstractStringBuilder" "value" "[B") (by decide +kernel)
  have fl_22 := hts (.fieldLink RJ5 22 "java/lang/AbstractStringBuilder" "coder" "B") (by decide +kernel)
  have ha9 : a < s.heap.size := vx_lt hP (k := 0) rfl
  have hns : n0 ≤ s.heap.size := Nat.le_trans ha0 (Nat.le_of_lt ha9)
  have hPa0 : va_P D vwCl [(a, .inr (9, [.ref b, .int (nI 0), .int (nI 0), .int (nI n)]))] s.heap := hP.sub [0] rfl
  refine lv_aload_n hx hb dJ5_ensureCapacityInternal_d00df_0 rfl (lv_at hl 0 rfl) ?_
  refine va_get (D := D) (ci := 9) (v := .ref b) (C := RJ4) (T := TJ4) (N := 4) hx hb hts in_J4 hown hBk.1 hP 0 rfl rfl 0 (by decide) fl_15 (fun _ h9 => h9) rfl dJ5_ensureCapacityInternal_d00df_1 ?_
  refine va_alen (v := nI m) hx hb hBk.1 hP 1 0 (ty := .byte) rfl rfl rfl dJ5_ensureCapacityInternal_d00df_4 ?_
  refine lv_aload_n hx hb dJ5_ensureCapacityInternal_d00df_5 rfl (lv_at hl 0 rfl) ?_
  refine va_get (D := D) (ci := 9) (v := .int (nI 0)) (C := RJ4) (T := TJ4) (N := 4) hx hb hts in_J4 hown hBk.1 hP 0 rfl rfl 1 (by decide) fl_22 (fun _ h9 => h9) rfl dJ5_ensureCapacityInternal_d00df_6 ?_
  refine lv_ishr hx hb dJ5_ensureCapacityInternal_d00df_9 ?_
  refine nv_to (m) (nb_shr (k := 0) (by decide) (by omega)) ?_
  refine lv_istore_n (lv' := [(2, .int (nI m)), (0, .ref a), (1, .int (nI q))]) hx hb dJ5_ensureCapacityInternal_d00df_10 rfl hl (by decide) rfl (fun ls hl => ?_)
  refine lv_iload_n hx hb dJ5_ensureCapacityInternal_d00df_11 rfl (lv_at hl 2 rfl) ?_
  refine lv_iload_n hx hb dJ5_ensureCapacityInternal_d00df_12 rfl (lv_at hl 0 rfl) ?_
  refine lv_isub hx hb dJ5_ensureCapacityInternal_d00df_13 ?_
  refine lv_if_le (tgt := 38) hx hb dJ5_ensureCapacityInternal_d00df_14 (by decide) (fun c1 => ?_) (fun c1 => ?_)
  · have h14 : q ≤ m := (sub_le (by omega) (by omega)).mp c1
    exact nv_retGv2 hq hx hb hr hlocks (Nat.zero_le _) (Nat.zero_le _) hS ⟨b, m, F, hP, hab, hb0, h14, Nat.le_refl _, hm9, hF9, fun j _ => rfl⟩ dJ5_ensureCapacityInternal_d00df_38
  · have h14 : m < q := Nat.lt_of_not_le (fun h => c1 ((sub_le (by omega) (by omega)).mpr h))
    refine lv_aload_n hx hb dJ5_ensureCapacityInternal_d00df_17 rfl (lv_at hl 1 rfl) ?_
    refine lv_aload_n hx hb dJ5_ensureCapacityInternal_d00df_18 rfl (lv_at hl 1 rfl) ?_
    refine va_get (D := D) (ci := 9) (v := .ref b) (C := RJ4) (T := TJ4) (N := 4) hx hb hts in_J4 hown hBk.1 hP 0 rfl rfl 0 (by decide) fl_15 (fun _ h9 => h9) rfl dJ5_ensureCapacityInternal_d00df_19 ?_
    refine lv_aload_n hx hb dJ5_ensureCapacityInternal_d00df_22 rfl (lv_at hl 1 rfl) ?_
    refine lv_iload_n hx hb dJ5_ensureCapacityInternal_d00df_23 rfl (lv_at hl 2 rfl) ?_
    refine nv_kS (va_runU (As := [.int (nI q)]) (rest := [.ref b, .ref a]) ⟨hx, hb, hml, hown, hts⟩ (c_S_newCap l (A := aN n0) q h14 hq9) (va_cwU 1 hts gJ5_ensureCapacityInternal_d00df_J5_newCapacity_0f7a4_u104J4 rfl rfl rfl rfl (by decide +kernel) ⟨Nat.le_of_ble_eq_true rfl, Nat.le_of_ble_eq_true rfl⟩) (nx_pV hT hBk tx0 hS (fun q h => h) hP (va_recv hBk.1 hP (ci := 9) (q0 := 0) rfl rfl)) rfl rfl hl.1 rfl (lv_room (Nat.le_of_ble_eq_true rfl)) dJ5_ensureCapacityInternal_d00df_24 ⟨Nat.le_of_ble_eq_true rfl, Nat.le_of_ble_eq_true rfl⟩) ?_
    refine lv_aload_n hx hb dJ5_ensureCapacityInternal_d00df_27 rfl (lv_at hl 1 rfl) ?_
    refine va_get (D := D) (ci := 9) (v := .int (nI 0)) (C := RJ4) (T := TJ4) (N := 4) hx hb hts in_J4 hown hBk.1 hP 0 rfl rfl 1 (by decide) fl_22 (fun _ h9 => h9) rfl dJ5_ensureCapacityInternal_d00df_28 ?_
    refine lv_ishl hx hb dJ5_ensureCapacityInternal_d00df_31 ?_
    refine nv_to (m + max (q - m) (m + 2)) (nb_shl (k := 0) (by decide) (by omega)) ?_
    refine nv_kGn (va_runS (As := [.ref b, .int (nI (m + max (q - m) (m + 2)))]) (rest := [.ref a]) ⟨hx, hb, hml, hown, hts⟩ (c_S_copyOf l (n1 := s.heap.size) (m + max (q - m) (m + 2)) (by omega) (by omega) hF9) (va_cwS 2 hts gJ5_ensureCapacityInternal_d00df_J7_copyOf_9075b rfl rfl rfl (by decide +kernel) ⟨Nat.le_of_ble_eq_true rfl, Nat.le_of_ble_eq_true rfl⟩) (nx_pS hT hBk tx0 hS (fun q h => h.elim (fun e => e ▸ hb0) (fun h => Nat.le_trans hns h)) ⟨Nat.le_refl _, hP.sub [1] rfl⟩) rfl rfl hl.1 rfl (lv_room (Nat.le_of_ble_eq_true rfl)) dJ5_ensureCapacityInternal_d00df_32 ⟨Nat.le_of_ble_eq_true rfl, Nat.le_of_ble_eq_true rfl⟩) hS (fun q h => h.elim (fun e => e ▸ hb0) (fun h => Nat.le_trans hns h)) (fun r H locs hPn hK hS => ?_)
    obtain ⟨hPr, hrb, hrn⟩ := hPn
    have hab2 : a ≠ r := fun e => by rw [← e] at hrn; exact absurd ha9 (Nat.not_lt.mpr hrn)
    have hPa : va_P D vwCl [(a, .inr (9, [.ref b, .int (nI 0), .int (nI 0), .int (nI n)]))] H := va_P1 hPa0 (hK a ha9 (fun h => h.elim (fun e => hab e) (fun h => absurd ha9 (Nat.not_lt.mpr h))))
    have hP : va_P D vwCl [(a, .inr (9, [.ref b, .int (nI 0), .int (nI 0), .int (nI n)])), (r, .inl (cB, m + max (q - m) (m + 2), .inl (gN (va_cpy F (fun _ => 0) 0 0 (min m (m + max (q - m) (m + 2)))))))] H := hPa.app hPr
    have hn9 : n0 ≤ r := Nat.le_trans hns hrn
    have hD : va_D (aN n0) [(a, .inr (9, [.ref b, .int (nI 0), .int (nI 0), .int (nI n)])), (r, .inl (cB, m + max (q - m) (m + 2), .inl (gN (va_cpy F (fun _ => 0) 0 0 (min m (m + max (q - m) (m + 2)))))))] := va_D2 hab2 ha0 hn9
    refine va_put (D := D) (ci := 9) (v := .ref r) (ty := (.array .byte)) (C := RJ4) (T := TJ4) (N := 4) hx hb hts in_J4 tyJ4 tyJ4_ok nmJ4 hown hBk.1 hP hD hS 0 rfl rfl 0 (by decide) fl_15 (fun _ h9 => h9) rfl (by decide +kernel) rfl rfl (Nat.le_of_ble_eq_true rfl) dJ5_ensureCapacityInternal_d00df_35 (fun H locs hP hD hS => ?_)
    have hP : va_P D vwCl [(a, .inr (9, [.ref r, .int (nI 0), .int (nI 0), .int (nI n)])), (r, .inl (cB, m + max (q - m) (m + 2), .inl (gN (va_cpy F (fun _ => 0) 0 0 (min m (m + max (q - m) (m + 2)))))))] H := hP
    have hD : va_D _ [(a, .inr (9, [.ref r, .int (nI 0), .int (nI 0), .int (nI n)])), (r, .inl (cB, m + max (q - m) (m + 2), .inl (gN (va_cpy F (fun _ => 0) 0 0 (min m (m + max (q - m) (m + 2)))))))] := hD
    exact nv_retGv2 hq hx hb hr hlocks (Nat.le_of_ble_eq_true rfl) (Nat.le_of_ble_eq_true rfl) hS ⟨r, m + max (q - m) (m + 2), _, hP, hab2, hn9, by omega, by omega, by omega, va_cpy_lt hF9 (fun _ => by decide), fun j hj => by unfold va_cpy; rw [if_pos (by omega)]; congr 1; omega⟩ dJ5_ensureCapacityInternal_d00df_38
