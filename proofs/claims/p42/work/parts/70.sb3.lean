theorem sb_app {L0 L : List Nat} {F F2 : Nat → Nat} {m : Nat} (h0 : ∀ j, j < L0.length → F j = L0.getD j 0) (hm : L0.length ≤ m) (h2 : ∀ j, j < m → F2 j = F j) : ∀ j, j < (L0 ++ L).length → va_cpy (fun j => L.getD j 0) F2 0 L0.length L.length j = (L0 ++ L).getD j 0 := by
  intro j hj
  rw [List.length_append] at hj
  unfold va_cpy
  by_cases h : j < L0.length
  · rw [if_neg (by omega), h2 j (by omega), h0 j h, getD_app_l h]
  · rw [if_pos (by omega), getD_app_r (by omega)]
    congr 1
    omega
theorem sb_app1 {L0 : List Nat} {F F2 : Nat → Nat} {m c : Nat} (h0 : ∀ j, j < L0.length → F j = L0.getD j 0) (hm : L0.length ≤ m) (h2 : ∀ j, j < m → F2 j = F j) : ∀ j, j < (L0 ++ [c]).length → va_up F2 L0.length c j = (L0 ++ [c]).getD j 0 := by
  intro j hj
  rw [List.length_append] at hj
  have hj : j < L0.length + 1 := hj
  unfold va_up
  by_cases h : j < L0.length
  · rw [if_neg (by omega), h2 j (by omega), h0 j h, getD_app_l h]
  · have e : j = L0.length := by omega
    subst e
    rw [if_pos rfl, getD_app_r (Nat.le_refl _), Nat.sub_self]
    rfl
theorem fit_arr {cB : ClassId} {m : Nat} {F : Nat → Nat} (hF : ∀ j, F j < 128) : ∀ (i : Nat) (v : Value), (vp_cell cB (m, .inl (gN F))).slots[i]? = some v → fits .byte v = true := by
  intro i v h
  rw [vp_cell_i] at h
  by_cases hi : i < m
  · rw [arrV_read _ _ hi] at h
    cases h
    exact fit_byte (hF i)
  · rw [Array.getElem?_eq_none (by rw [arrV_size]; omega)] at h
    cases h
set_option maxHeartbeats 1000000 in
set_option maxRecDepth 100000 in
theorem c_S_inflate (l : Launch) {D : va_G} {cI cC cD cR cB : ClassId} {sa : sA} {A : Nat → Prop} {a b m n : Nat} {F : Nat → Nat} {r v : Nat} {L : List Nat} : Met l yJ5_inflateIfNeededFor_a7421 wsJ5_inflateIfNeededFor_a7421 ({ frames := 1, cells := 0, slots := 0, locals := 20 }) (va_Pc [.ref a, .ref r] (sPx D [(cI, .int), (cC, .char), (cD, .object "DoorDialect$Door"), (cR, .object "DoorDialect$House")] nN sa A cB (fun H => va_P D vwCl (sbW cB a b m F n) H) [(r, v, L)])) (sQv) 0 0 (fun _ => False) := by
  refine nv_met (cc := cJ5_inflateIfNeededFor_a7421) (maxL := 2) (ret := none) (by decide) rfl (Nat.le_of_ble_eq_true rfl) ?_
  intro p0 e0 s m0 args below meth c0 Q hq hargs hnA hpre ls hl
  obtain ⟨hx, hb, hr, hts, hown, hlocks, hml⟩ := hnA
  obtain ⟨hP, hT, hBk, hX⟩ := hpre
  have hown : s.vm.findClass RJ5 = some m0.cls := hown
  have hl : lv_has ls 2 [(0, .ref a), (1, .ref r)] := hl
  have hS : va_S A s.heap s.heap [] := va_S.rf
  have hP : va_P D vwCl [(a, .inr (9, [.ref b, .int (nI 0), .int (nI 0), .int (nI n)])), (b, .inl (cB, m, .inl (gN F)))] s.heap := hP
  have in_J4 : ∀ w ∈ wsJ40, w ∈ wsJ5_inflateIfNeededFor_a7421 := by decide +kernel
  have fl_18 := hts (.fieldLink RJ5 18 "java/lang/String" "COMPACT_STRINGS" "Z") (by decide +kernel)
  have fl_22 := hts (.fieldLink RJ5 22 "java/lang/AbstractStringBuilder" "coder" "B") (by decide +kernel)
  have hX1 : tx A (r, v, L) s s.heap := hX _ List.mem_cons_self
  have hLn : L.length < 1000 := hX1.1
  have hLc : ∀ k, L.getD k 0 < 128 := getD_lt hX1.2.1 (by decide)
  have hO : va_O "java/lang/String" r A s s.heap := hX1.2.2.1
  have hCo : va_OF "java/lang/String" "coder" "B" (.int 0) r A s s.heap := hX1.2.2.2.1
  have hVa : va_OF "java/lang/String" "value" "[B" (.ref v) r A s s.heap := hX1.2.2.2.2.1
  have hBy : va_T .byte v L.length (fun j => .int (nI (L.getD j 0))) A s s.heap := hX1.2.2.2.2.2
  refine va_gets hx hb hT.2.2.2.1.1 hS hown fl_18 (fun _ h9 => h9) dJ5_inflateIfNeededFor_a7421_0 ?_
  refine nv_to 1 rfl ?_
  refine nv_if_eq (tgt := 21) hx hb dJ5_inflateIfNeededFor_a7421_3 (by decide) (by omega) (fun c1 => absurd c1 (by decide)) (fun c1 => ?_)
  refine lv_aload_n hx hb dJ5_inflateIfNeededFor_a7421_6 rfl (lv_at hl 0 rfl) ?_
  refine va_get (D := D) (ci := 9) (v := .int (nI 0)) (C := RJ4) (T := TJ4) (N := 4) hx hb hts in_J4 hown hBk.1 hP 0 rfl rfl 1 (by decide) fl_22 (fun _ h9 => h9) rfl dJ5_inflateIfNeededFor_a7421_7 ?_
  refine lv_aload_n hx hb dJ5_inflateIfNeededFor_a7421_10 rfl (lv_at hl 1 rfl) ?_
  refine nv_kS (va_runV (As := []) (rest := [.int (nI 0)]) ⟨hx, hb, hml, hown, hts⟩ (c_T_coder l (A := A)) (cwV 0 hts gJ5_inflateIfNeededFor_a7421_J0_coder_7d493 rfl rfl rfl (by decide +kernel) ⟨Nat.le_of_ble_eq_true rfl, Nat.le_of_ble_eq_true rfl⟩) (nx_pV hT hBk (tx1 hX1) hS (fun q h => h) trivial (va_Orecv hO hS)) rfl rfl hl.1 rfl (lv_room (Nat.le_of_ble_eq_true rfl)) dJ5_inflateIfNeededFor_a7421_11 ⟨Nat.le_of_ble_eq_true rfl, Nat.le_of_ble_eq_true rfl⟩) ?_
  refine nv_icmp_eq (tgt := 21) hx hb dJ5_inflateIfNeededFor_a7421_14 (by decide) (by omega) (by omega) (fun c2 => ?_) (fun c2 => absurd c2 (by decide))
  exact nv_retSv hq hx hb hr hlocks dJ5_inflateIfNeededFor_a7421_21
set_option maxHeartbeats 1000000 in
set_option maxRecDepth 100000 in
theorem c_S_putStringAt (l : Launch) {D : va_G} {cI cC cD cR cB : ClassId} {sa : sA} {n0 a b m : Nat} {F : Nat → Nat} {r v : Nat} {L : List Nat} {n : Nat} (k : Nat) (hk : k + L.length ≤ m) (hm9 : m ≤ 150) (hab : a ≠ b) (ha0 : n0 ≤ a) (hb0 : n0 ≤ b) : Met l yJ5_putStringAt_47b60 wsJ5_putStringAt_47b60 ({ frames := 2, cells := 0, slots := 0, locals := 103 }) (va_Pc [.ref a, .int (nI k), .ref r] (sPx D [(cI, .int), (cC, .char), (cD, .object "DoorDialect$Door"), (cR, .object "DoorDialect$House")] nN sa (aN n0) cB (fun H => va_P D vwCl (sbW cB a b m F n) H) [(r, v, L)])) (gQv (fun H => va_P D vwCl (sbW cB a b m (va_cpy (fun j => L.getD j 0) F 0 k L.length) n) H) (aN n0)) 0 0 (aN n0) := by
  refine nv_met (cc := cJ5_putStringAt_47b60) (maxL := 3) (ret := none) (by decide) rfl (Nat.le_of_ble_eq_true rfl) ?_
  intro p0 e0 s m0 args below meth c0 Q hq hargs hnA hpre ls hl
  obtain ⟨hx, hb, hr, hts, hown, hlocks, hml⟩ := hnA
  obtain ⟨hP, hT, hBk, hX⟩ := hpre
  have hown : s.vm.findClass RJ5 = some m0.cls := hown
  have hl : lv_has ls 3 [(0, .ref a), (1, .int (nI k)), (2, .ref r)] := hl
  have hS : va_S (aN n0) s.heap s.heap [] := va_S.rf
  have hP : va_P D vwCl [(a, .inr (9, [.ref b, .int (nI 0), .int (nI 0), .int (nI n)])), (b, .inl (cB, m, .inl (gN F)))] s.heap := hP
  have in_J4 : ∀ w ∈ wsJ40, w ∈ wsJ5_putStringAt_47b60 := by decide +kernel
  have fl_15 := hts (.fieldLink RJ5 15 "java/lang/AbstractStringBuilder" "value" "[B") (by decide +kernel)
  have fl_22 := hts (.fieldLink RJ5 22 "java/lang/AbstractStringBuilder" "coder" "B") (by decide +kernel)
  have hX1 : tx (aN n0) (r, v, L) s s.heap := hX _ List.mem_cons_self
  have hLn : L.length < 1000 := hX1.1
  have hLc : ∀ k, L.getD k 0 < 128 := getD_lt hX1.2.1 (by decide)
  have hO : va_O "java/lang/String" r (aN n0) s s.heap := hX1.2.2.1
  have hCo : va_OF "java/lang/String" "coder" "B" (.int 0) r (aN n0) s s.heap := hX1.2.2.2.1
  have hVa : va_OF "java/lang/String" "value" "[B" (.ref v) r (aN n0) s s.heap := hX1.2.2.2.2.1
  have hBy : va_T .byte v L.length (fun j => .int (nI (L.getD j 0))) (aN n0) s s.heap := hX1.2.2.2.2.2
  have ha9 : a < s.heap.size := vx_lt hP (k := 0) rfl
  have hPa0 : va_P D vwCl [(a, .inr (9, [.ref b, .int (nI 0), .int (nI 0), .int (nI n)]))] s.heap := hP.sub [0] rfl
  refine lv_aload_n hx hb dJ5_putStringAt_47b60_0 rfl (lv_at hl 0 rfl) ?_
  refine lv_aload_n hx hb dJ5_putStringAt_47b60_1 rfl (lv_at hl 2 rfl) ?_
  refine nv_kSv (va_runU (As := [.ref r]) (rest := []) ⟨hx, hb, hml, hown, hts⟩ (c_S_inflate l (A := aN n0)) (va_cwU 1 hts gJ5_putStringAt_47b60_J5_inflateIfNeededFor_a7421_u397J4 rfl rfl rfl rfl (by decide +kernel) ⟨Nat.le_of_ble_eq_true rfl, Nat.le_of_ble_eq_true rfl⟩) (nx_pV hT hBk (tx1 hX1) hS (fun q h => h) hP (va_recv hBk.1 hP (ci := 9) (q0 := 0) rfl rfl)) rfl rfl hl.1 rfl (lv_room (Nat.le_of_ble_eq_true rfl)) dJ5_putStringAt_47b60_2 ⟨Nat.le_of_ble_eq_true rfl, Nat.le_of_ble_eq_true rfl⟩) ?_
  refine lv_aload_n hx hb dJ5_putStringAt_47b60_5 rfl (lv_at hl 2 rfl) ?_
  refine lv_aload_n hx hb dJ5_putStringAt_47b60_6 rfl (lv_at hl 0 rfl) ?_
  refine va_get (D := D) (ci := 9) (v := .ref b) (C := RJ4) (T := TJ4) (N := 4) hx hb hts in_J4 hown hBk.1 hP 0 rfl rfl 0 (by decide) fl_15 (fun _ h9 => h9) rfl dJ5_putStringAt_47b60_7 ?_
  refine lv_iload_n hx hb dJ5_putStringAt_47b60_10 rfl (lv_at hl 1 rfl) ?_
  refine lv_aload_n hx hb dJ5_putStringAt_47b60_11 rfl (lv_at hl 0 rfl) ?_
  refine va_get (D := D) (ci := 9) (v := .int (nI 0)) (C := RJ4) (T := TJ4) (N := 4) hx hb hts in_J4 hown hBk.1 hP 0 rfl rfl 1 (by decide) fl_22 (fun _ h9 => h9) rfl dJ5_putStringAt_47b60_12 ?_
  refine nv_kGv (va_runV (As := [.ref b, .int (nI k), .int (nI 0)]) (rest := []) ⟨hx, hb, hml, hown, hts⟩ (c_T_getBytes l (A := oN b) k hk hm9 rfl) (cwV 3 hts gJ5_putStringAt_47b60_J0_getBytes_840e7 rfl rfl rfl (by decide +kernel) ⟨Nat.le_of_ble_eq_true rfl, Nat.le_of_ble_eq_true rfl⟩) (nx_pV hT hBk (tx1 (hX1.go hS (fun q e => e ▸ hb0))) hS (fun q e => e ▸ hb0) (hP.sub [1] rfl) (va_Orecv hO hS)) rfl rfl hl.1 rfl (lv_room (Nat.le_of_ble_eq_true rfl)) dJ5_putStringAt_47b60_15 ⟨Nat.le_of_ble_eq_true rfl, Nat.le_of_ble_eq_true rfl⟩) hS (fun q e => e ▸ hb0) (fun H locs hPn hK hS => ?_)
  have hPa : va_P D vwCl [(a, .inr (9, [.ref b, .int (nI 0), .int (nI 0), .int (nI n)]))] H := va_P1 hPa0 (hK a ha9 hab)
  have hP : va_P D vwCl [(a, .inr (9, [.ref b, .int (nI 0), .int (nI 0), .int (nI n)])), (b, .inl (cB, m, .inl (gN (va_cpy (fun j => L.getD j 0) F 0 k L.length))))] H := hPa.app hPn
  exact nv_retGv2 hq hx hb hr hlocks (Nat.zero_le _) (Nat.zero_le _) hS hP dJ5_putStringAt_47b60_18
set_option maxHeartbeats 1000000 in
set_option maxRecDepth 100000 in
theorem c_S_appS5 (l : Launch) {D : va_G} {cI cC cD cR cB : ClassId} {sa : sA} {n0 a b m : Nat} {F : Nat → Nat} {r v : Nat} {L : List Nat} {L0 : List Nat} (h60 : (L0 ++ L).length ≤ 60) (hab : a ≠ b) (ha0 : n0 ≤ a) (hb0 : n0 ≤ b) (hLm : L0.length ≤ m) (hm9 : m ≤ 150) (hF9 : ∀ j, F j < 128) (hF0 : ∀ j, j < L0.length → F j = L0.getD j 0) : Met l yJ5_append_cf1ce wsJ5_append_cf1ce ({ frames := 4, cells := 1, slots := 150, locals := 125 }) (va_Pc [.ref a, .ref r] (sPx D [(cI, .int), (cC, .char), (cD, .object "DoorDialect$Door"), (cR, .object "DoorDialect$House")] nN sa (aN n0) cB (fun H => va_P D vwCl (sbW cB a b m F L0.length) H) [(r, v, L)])) (gQr a (sbP D cB n0 a (L0 ++ L)) (aN n0)) 1 150 (aN n0) := by
  refine nv_met (cc := cJ5_append_cf1ce) (maxL := 3) (ret := (some (.object "java/lang/AbstractStringBuilder"))) (by decide) rfl (Nat.le_of_ble_eq_true rfl) ?_
  intro p0 e0 s m0 args below meth c0 Q hq hargs hnA hpre ls hl
  obtain ⟨hx, hb, hr, hts, hown, hlocks, hml⟩ := hnA
  obtain ⟨hP, hT, hBk, hX⟩ := hpre
  have hown : s.vm.findClass RJ5 = some m0.cls := hown
  have hl : lv_has ls 3 [(0, .ref a), (1, .ref r)] := hl
  have hS : va_S (aN n0) s.heap s.heap [] := va_S.rf
  have hP : va_P D vwCl [(a, .inr (9, [.ref b, .int (nI 0), .int (nI 0), .int (nI L0.length)])), (b, .inl (cB, m, .inl (gN F)))] s.heap := hP
  have in_J4 : ∀ w ∈ wsJ40, w ∈ wsJ5_append_cf1ce := by decide +kernel
  have fl_79 := hts (.fieldLink RJ5 79 "java/lang/AbstractStringBuilder" "count" "I") (by decide +kernel)
  have hX1 : tx (aN n0) (r, v, L) s s.heap := hX _ List.mem_cons_self
  have hLn : L.length < 1000 := hX1.1
  have hLc : ∀ k, L.getD k 0 < 128 := getD_lt hX1.2.1 (by decide)
  have hO : va_O "java/lang/String" r (aN n0) s s.heap := hX1.2.2.1
  have hCo : va_OF "java/lang/String" "coder" "B" (.int 0) r (aN n0) s s.heap := hX1.2.2.2.1
  have hVa : va_OF "java/lang/String" "value" "[B" (.ref v) r (aN n0) s s.heap := hX1.2.2.2.2.1
  have hBy : va_T .byte v L.length (fun j => .int (nI (L.getD j 0))) (aN n0) s s.heap := hX1.2.2.2.2.2
  have h60 : L0.length + L.length ≤ 60 := by rw [← List.length_append]; exact h60
  refine lv_aload_n hx hb dJ5_append_cf1ce_0 rfl (lv_at hl 1 rfl) ?_
  refine lv_ifnonnull (tgt := 9) hx hb dJ5_append_cf1ce_1 (by decide) ?_
  refine lv_aload_n hx hb dJ5_append_cf1ce_9 rfl (lv_at hl 1 rfl) ?_
  refine nv_kS (va_runV (As := []) (rest := []) ⟨hx, hb, hml, hown, hts⟩ (c_T_length l (A := aN n0)) (cwV 0 hts gJ5_append_cf1ce_J0_length_8abf5 rfl rfl rfl (by decide +kernel) ⟨Nat.le_of_ble_eq_true rfl, Nat.le_of_ble_eq_true rfl⟩) (nx_pV hT hBk (tx1 hX1) hS (fun q h => h) trivial (va_Orecv hO hS)) rfl rfl hl.1 rfl (lv_room (Nat.le_of_ble_eq_true rfl)) dJ5_append_cf1ce_10 ⟨Nat.le_of_ble_eq_true rfl, Nat.le_of_ble_eq_true rfl⟩) ?_
  refine lv_istore_n (lv' := [(2, .int (nI L.length)), (0, .ref a), (1, .ref r)]) hx hb dJ5_append_cf1ce_13 rfl hl (by decide) rfl (fun ls hl => ?_)
  refine lv_aload_n hx hb dJ5_append_cf1ce_14 rfl (lv_at hl 1 rfl) ?_
  refine lv_aload_n hx hb dJ5_append_cf1ce_15 rfl (lv_at hl 1 rfl) ?_
  refine va_get (D := D) (ci := 9) (v := .int (nI L0.length)) (C := RJ4) (T := TJ4) (N := 4) hx hb hts in_J4 hown hBk.1 hP 0 rfl rfl 3 (by decide) fl_79 (fun _ h9 => h9) rfl dJ5_append_cf1ce_16 ?_
  refine lv_iload_n hx hb dJ5_append_cf1ce_19 rfl (lv_at hl 0 rfl) ?_
  refine nv_iadd hx hb dJ5_append_cf1ce_20 ?_
  refine nv_kGv (va_runU (As := [.int (nI (L0.length + L.length))]) (rest := []) ⟨hx, hb, hml, hown, hts⟩ (c_S_ensure l (n0 := n0) (L0.length + L.length) h60 hm9 hab ha0 hb0 hF9) (va_cwU 1 hts gJ5_append_cf1ce_J5_ensureCapacityInternal_d00df_u100J4 rfl rfl rfl rfl (by decide +kernel) ⟨Nat.le_of_ble_eq_true rfl, Nat.le_of_ble_eq_true rfl⟩) (nx_pV hT hBk tx0 hS (fun q h => h) hP (va_recv hBk.1 hP (ci := 9) (q0 := 0) rfl rfl)) rfl rfl hl.1 rfl (lv_room (Nat.le_of_ble_eq_true rfl)) dJ5_append_cf1ce_21 ⟨Nat.le_of_ble_eq_true rfl, Nat.le_of_ble_eq_true rfl⟩) hS (fun q h => h) (fun H locs hPn hK hS => ?_)
  obtain ⟨b2, m2, F2, hP2, hab2, hb2, hq2, hmm2, hm2, hF2, hFF2⟩ := hPn
  have hP : va_P D vwCl [(a, .inr (9, [.ref b2, .int (nI 0), .int (nI 0), .int (nI L0.length)])), (b2, .inl (cB, m2, .inl (gN F2)))] H := hP2
  refine lv_aload_n hx hb dJ5_append_cf1ce_24 rfl (lv_at hl 1 rfl) ?_
  refine lv_aload_n hx hb dJ5_append_cf1ce_25 rfl (lv_at hl 1 rfl) ?_
  refine va_get (D := D) (ci := 9) (v := .int (nI L0.length)) (C := RJ4) (T := TJ4) (N := 4) hx hb hts in_J4 hown hBk.1 hP 0 rfl rfl 3 (by decide) fl_79 (fun _ h9 => h9) rfl dJ5_append_cf1ce_26 ?_
  refine lv_aload_n hx hb dJ5_append_cf1ce_29 rfl (lv_at hl 2 rfl) ?_
  refine nv_kGv (va_runU (As := [.int (nI L0.length), .ref r]) (rest := []) ⟨hx, hb, hml, hown, hts⟩ (c_S_putStringAt l (n0 := n0) L0.length (by omega) hm2 hab2 ha0 hb2) (va_cwU 2 hts gJ5_append_cf1ce_J5_putStringAt_47b60_u208J4 rfl rfl rfl rfl (by decide +kernel) ⟨Nat.le_of_ble_eq_true rfl, Nat.le_of_ble_eq_true rfl⟩) (nx_pV hT hBk (tx1 (hX1.go hS (fun q h => h))) hS (fun q h => h) hP (va_recv hBk.1 hP (ci := 9) (q0 := 0) rfl rfl)) rfl rfl hl.1 rfl (lv_room (Nat.le_of_ble_eq_true rfl)) dJ5_append_cf1ce_30 ⟨Nat.le_of_ble_eq_true rfl, Nat.le_of_ble_eq_true rfl⟩) hS (fun q h => h) (fun H locs hPn hK hS => ?_)
  have hP : va_P D vwCl [(a, .inr (9, [.ref b2, .int (nI 0), .int (nI 0), .int (nI L0.length)])), (b2, .inl (cB, m2, .inl (gN (va_cpy (fun j => L.getD j 0) F2 0 L0.length L.length))))] H := hPn
  have hD : va_D (aN n0) [(a, .inr (9, [.ref b2, .int (nI 0), .int (nI 0), .int (nI L0.length)])), (b2, .inl (cB, m2, .inl (gN (va_cpy (fun j => L.getD j 0) F2 0 L0.length L.length))))] := va_D2 hab2 ha0 hb2
  refine lv_aload_n hx hb dJ5_append_cf1ce_33 rfl (lv_at hl 1 rfl) ?_
  refine lv_dup hx hb dJ5_append_cf1ce_34 rfl ?_
  refine va_get (D := D) (ci := 9) (v := .int (nI L0.length)) (C := RJ4) (T := TJ4) (N := 4) hx hb hts in_J4 hown hBk.1 hP 0 rfl rfl 3 (by decide) fl_79 (fun _ h9 => h9) rfl dJ5_append_cf1ce_35 ?_
  refine lv_iload_n hx hb dJ5_append_cf1ce_38 rfl (lv_at hl 0 rfl) ?_
  refine nv_iadd hx hb dJ5_append_cf1ce_39 ?_
  refine va_put (D := D) (ci := 9) (v := .int (nI (L0.length + L.length))) (ty := .int) (C := RJ4) (T := TJ4) (N := 4) hx hb hts in_J4 tyJ4 tyJ4_ok nmJ4 hown hBk.1 hP hD hS 0 rfl rfl 3 (by decide) fl_79 (fun _ h9 => h9) rfl (by decide +kernel) rfl rfl (Nat.le_of_ble_eq_true rfl) dJ5_append_cf1ce_40 (fun H locs hP hD hS => ?_)
  have hP : va_P D vwCl [(a, .inr (9, [.ref b2, .int (nI 0), .int (nI 0), .int (nI (L0.length + L.length))])), (b2, .inl (cB, m2, .inl (gN (va_cpy (fun j => L.getD j 0) F2 0 L0.length L.length))))] H := hP
  have hD : va_D _ [(a, .inr (9, [.ref b2, .int (nI 0), .int (nI 0), .int (nI (L0.length + L.length))])), (b2, .inl (cB, m2, .inl (gN (va_cpy (fun j => L.getD j 0) F2 0 L0.length L.length))))] := hD
  refine lv_aload_n hx hb dJ5_append_cf1ce_43 rfl (lv_at hl 1 rfl) ?_
  exact nv_retGr2 hq hx hb hr (Or.inl ⟨_, rfl⟩) hlocks (Nat.le_of_ble_eq_true rfl) (Nat.le_of_ble_eq_true rfl) hS ⟨b2, m2, _, by rw [List.length_append]; exact hP, hab2, ha0, hb2, by rw [List.length_append]; omega, hm2, va_cpy_lt hLc hF2, sb_app hF0 hLm hFF2⟩ dJ5_append_cf1ce_44
set_option maxHeartbeats 1000000 in
set_option maxRecDepth 100000 in
theorem c_S_canEncode (l : Launch) {D : va_G} {cI cC cD cR cB : ClassId} {sa : sA} {A : Nat → Prop} (c : Nat) (hc : c < 128) : Met l yJ1_canEncode_fc78d wsJ1_canEncode_fc78d ({ frames := 0, cells := 0, slots := 0, locals := 0 }) (va_Pc [.int (nI c)] (sPx D [(cI, .int), (cC, .char), (cD, .object "DoorDialect$Door"), (cR, .object "DoorDialect$House")] nN sa A cB (fun _ => True) [])) (sQ (nI 1)) 0 0 (fun _ => False) := by
  refine nv_met (cc := cJ1_canEncode_fc78d) (maxL := 1) (ret := (some .boolean)) (by decide) rfl (Nat.le_of_ble_eq_true rfl) ?_
  intro p0 e0 s m0 args below meth c0 Q hq hargs hnA hpre ls hl
  obtain ⟨hx, hb, hr, hts, hown, hlocks, hml⟩ := hnA
  obtain ⟨hP, hT, hBk, hX⟩ := hpre
  have hown : s.vm.findClass RJ1 = some m0.cls := hown
  have hl : lv_has ls 1 [(0, .int (nI c))] := hl
  have hS : va_S A s.heap s.heap [] := va_S.rf
  refine lv_iload_n hx hb dJ1_canEncode_fc78d_0 rfl (lv_at hl 0 rfl) ?_
  refine lv_sipush (v := nI 255) hx hb dJ1_canEncode_fc78d_1 (by decide) ?_
  refine nv_icmp_gt (tgt := 11) hx hb dJ1_canEncode_fc78d_4 (by decide) (by omega) (by omega) (fun c1 => absurd c1 (by omega)) (fun c1 => ?_)
  refine lv_iconst (v := nI 1) hx hb dJ1_canEncode_fc78d_7 (by decide) ?_
  refine lv_goto (tgt := 12) hx hb dJ1_canEncode_fc78d_8 (by decide) ?_
  exact nv_retS hq hx hb hr hlocks (nar_z (by omega)) (rfl) dJ1_canEncode_fc78d_12
set_option maxHeartbeats 1000000 in
set_option maxRecDepth 100000 in
theorem c_S_appC5 (l : Launch) {D : va_G} {cI cC cD cR cB : ClassId} {sa : sA} {n0 a b m : Nat} {F : Nat → Nat} {L0 : List Nat} (c : Nat) (hc : c < 128) (h60 : L0.length + 1 ≤ 60) (hab : a ≠ b) (ha0 : n0 ≤ a) (hb0 : n0 ≤ b) (hLm : L0.length ≤ m) (hm9 : m ≤ 150) (hF9 : ∀ j, F j < 128) (hF0 : ∀ j, j < L0.length → F j = L0.getD j 0) : Met l yJ5_append_3fe6f wsJ5_append_3fe6f ({ frames := 4, cells := 1, slots := 150, locals := 124 }) (va_Pc [.ref a, .int (nI c)] (sPx D [(cI, .int), (cC, .char), (cD, .object "DoorDialect$Door"), (cR, .object "DoorDialect$House")] nN sa (aN n0) cB (fun H => va_P D vwCl (sbW cB a b m F L0.length) H) [])) (gQr a (sbP D cB n0 a (L0 ++ [c])) (aN n0)) 1 150 (aN n0) := by
  refine nv_met (cc := cJ5_append_3fe6f) (maxL := 2) (ret := (some (.object "java/lang/AbstractStringBuilder"))) (by decide) rfl (Nat.le_of_ble_eq_true rfl) ?_
  intro p0 e0 s m0 args below meth c0 Q hq hargs hnA hpre ls hl
  obtain ⟨hx, hb, hr, hts, hown, hlocks, hml⟩ := hnA
  obtain ⟨hP, hT, hBk, hX⟩ := hpre
  have hown : s.vm.findClass RJ5 = some m0.cls := hown
  have hl : lv_has ls 2 [(0, .ref a), (1, .int (nI c))] := hl
  have hS : va_S (aN n0) s.heap s.heap [] := va_S.rf
  have hP : va_P D vwCl [(a, .inr (9, [.ref b, .int (nI 0), .int (nI 0), .int (nI L0.length)])), (b, .inl (cB, m, .inl (gN F)))] s.heap := hP
  have in_J4 : ∀ w ∈ wsJ40, w ∈ wsJ5_append_3fe6f := by decide +kernel
  have fl_15 := hts (.fieldLink RJ5 15 "java/lang/AbstractStringBuilder" "value" "[B") (by decide +kernel)
  have fl_79 := hts (.fieldLink RJ5 79 "java/lang/AbstractStringBuilder" "count" "I") (by decide +kernel)
  refine lv_aload_n hx hb dJ5_append_3fe6f_0 rfl (lv_at hl 0 rfl) ?_
  refine lv_aload_n hx hb dJ5_append_3fe6f_1 rfl (lv_at hl 0 rfl) ?_
  refine va_get (D := D) (ci := 9) (v := .int (nI L0.length)) (C := RJ4) (T := TJ4) (N := 4) hx hb hts in_J4 hown hBk.1 hP 0 rfl rfl 3 (by decide) fl_79 (fun _ h9 => h9) rfl dJ5_append_3fe6f_2 ?_
  refine lv_iconst (v := nI 1) hx hb dJ5_append_3fe6f_5 (by decide) ?_
  refine nv_iadd hx hb dJ5_append_3fe6f_6 ?_
  refine nv_kGv (va_runU (As := [.int (nI (L0.length + 1))]) (rest := []) ⟨hx, hb, hml, hown, hts⟩ (c_S_ensure l (n0 := n0) (L0.length + 1) h60 hm9 hab ha0 hb0 hF9) (va_cwU 1 hts gJ5_append_3fe6f_J5_ensureCapacityInternal_d00df_u100J4 rfl rfl rfl rfl (by decide +kernel) ⟨Nat.le_of_ble_eq_true rfl, Nat.le_of_ble_eq_true rfl⟩) (nx_pV hT hBk tx0 hS (fun q h => h) hP (va_recv hBk.1 hP (ci := 9) (q0 := 0) rfl rfl)) rfl rfl hl.1 rfl (lv_room (Nat.le_of_ble_eq_true rfl)) dJ5_append_3fe6f_7 ⟨Nat.le_of_ble_eq_true rfl, Nat.le_of_ble_eq_true rfl⟩) hS (fun q h => h) (fun H locs hPn hK hS => ?_)
  obtain ⟨b2, m2, F2, hP2, hab2, hb2, hq2, hmm2, hm2, hF2, hFF2⟩ := hPn
  have hP : va_P D vwCl [(a, .inr (9, [.ref b2, .int (nI 0), .int (nI 0), .int (nI L0.length)])), (b2, .inl (cB, m2, .inl (gN F2)))] H := hP2
  have hD : va_D (aN n0) [(a, .inr (9, [.ref b2, .int (nI 0), .int (nI 0), .int (nI L0.length)])), (b2, .inl (cB, m2, .inl (gN F2)))] := va_D2 hab2 ha0 hb2
  refine lv_aload_n hx hb dJ5_append_3fe6f_10 rfl (lv_at hl 0 rfl) ?_
  refine nv_kS (va_runU (As := []) (rest := []) ⟨hx, hb, hml, hown, hts⟩ (c_S_isLatin1 l (A := aN n0)) (va_cwU 0 hts gJ5_append_3fe6f_J5_isLatin1_aae02_u83J4 rfl rfl rfl rfl (by decide +kernel) ⟨Nat.le_of_ble_eq_true rfl, Nat.le_of_ble_eq_true rfl⟩) (nx_pV hT hBk tx0 hS (fun q h => h) hP (va_recv hBk.1 hP (ci := 9) (q0 := 0) rfl rfl)) rfl rfl hl.1 rfl (lv_room (Nat.le_of_ble_eq_true rfl)) dJ5_append_3fe6f_11 ⟨Nat.le_of_ble_eq_true rfl, Nat.le_of_ble_eq_true rfl⟩) ?_
  refine nv_if_eq (tgt := 45) hx hb dJ5_append_3fe6f_14 (by decide) (by omega) (fun c1 => absurd c1 (by decide)) (fun c1 => ?_)
  refine lv_iload_n hx hb dJ5_append_3fe6f_17 rfl (lv_at hl 1 rfl) ?_
  refine nv_kS (va_runS (As := [.int (nI c)]) (rest := []) ⟨hx, hb, hml, hown, hts⟩ (c_S_canEncode l (A := aN n0) c hc) (va_cwS 1 hts gJ5_append_3fe6f_J1_canEncode_fc78d rfl rfl rfl (by decide +kernel) ⟨Nat.le_of_ble_eq_true rfl, Nat.le_of_ble_eq_true rfl⟩) (nx_pS hT hBk tx0 hS (fun q h => h) trivial) rfl rfl hl.1 rfl (lv_room (Nat.le_of_ble_eq_true rfl)) dJ5_append_3fe6f_18 ⟨Nat.le_of_ble_eq_true rfl, Nat.le_of_ble_eq_true rfl⟩) ?_
  refine nv_if_eq (tgt := 45) hx hb dJ5_append_3fe6f_21 (by decide) (by omega) (fun c2 => absurd c2 (by decide)) (fun c2 => ?_)
  refine lv_aload_n hx hb dJ5_append_3fe6f_24 rfl (lv_at hl 0 rfl) ?_
  refine va_get (D := D) (ci := 9) (v := .ref b2) (C := RJ4) (T := TJ4) (N := 4) hx hb hts in_J4 hown hBk.1 hP 0 rfl rfl 0 (by decide) fl_15 (fun _ h9 => h9) rfl dJ5_append_3fe6f_25 ?_
  refine lv_aload_n hx hb dJ5_append_3fe6f_28 rfl (lv_at hl 0 rfl) ?_
  refine lv_dup hx hb dJ5_append_3fe6f_29 rfl ?_
  refine va_get (D := D) (ci := 9) (v := .int (nI L0.length)) (C := RJ4) (T := TJ4) (N := 4) hx hb hts in_J4 hown hBk.1 hP 0 rfl rfl 3 (by decide) fl_79 (fun _ h9 => h9) rfl dJ5_append_3fe6f_30 ?_
  refine lv_dup_x1 hx hb dJ5_append_3fe6f_33 rfl rfl ?_
  refine lv_iconst (v := nI 1) hx hb dJ5_append_3fe6f_34 (by decide) ?_
  refine nv_iadd hx hb dJ5_append_3fe6f_35 ?_
  refine va_put (D := D) (ci := 9) (v := .int (nI (L0.length + 1))) (ty := .int) (C := RJ4) (T := TJ4) (N := 4) hx hb hts in_J4 tyJ4 tyJ4_ok nmJ4 hown hBk.1 hP hD hS 0 rfl rfl 3 (by decide) fl_79 (fun _ h9 => h9) rfl (by decide +kernel) rfl rfl (Nat.le_of_ble_eq_true rfl) dJ5_append_3fe6f_36 (fun H locs hP hD hS => ?_)
  have hP : va_P D vwCl [(a, .inr (9, [.ref b2, .int (nI 0), .int (nI 0), .int (nI (L0.length + 1))])), (b2, .inl (cB, m2, .inl (gN F2)))] H := hP
  have hD : va_D _ [(a, .inr (9, [.ref b2, .int (nI 0), .int (nI 0), .int (nI (L0.length + 1))])), (b2, .inl (cB, m2, .inl (gN F2)))] := hD
  refine lv_iload_n hx hb dJ5_append_3fe6f_39 rfl (lv_at hl 1 rfl) ?_
  refine lv_i2b (v := nI c) hx hb dJ5_append_3fe6f_40 (i2b_n _ hc) ?_
  have hlc : (nI L0.length).toNatClampNeg = L0.length := nI_clamp (by omega)
  refine va_bast hx hb hBk.1 hP hD hS 1 0 rfl rfl (vp_in_nI (by omega) (by omega)) dJ5_append_3fe6f_41 (fun H locs hP _ hS => ?_)
  rw [hlc, nar_byte hc, gN_upd] at hP
  have hP : va_P D vwCl [(a, .inr (9, [.ref b2, .int (nI 0), .int (nI 0), .int (nI (L0.length + 1))])), (b2, .inl (cB, m2, .inl (gN (va_up F2 L0.length c))))] H := hP
  refine lv_goto (tgt := 75) hx hb dJ5_append_3fe6f_42 (by decide) ?_
  refine lv_aload_n hx hb dJ5_append_3fe6f_75 rfl (lv_at hl 0 rfl) ?_
  exact nv_retGr2 hq hx hb hr (Or.inl ⟨_, rfl⟩) hlocks (Nat.le_of_ble_eq_true rfl) (Nat.le_of_ble_eq_true rfl) hS ⟨b2, m2, _, by rw [List.length_append]; exact hP, hab2, ha0, hb2, by rw [List.length_append]; exact hq2, hm2, va_up_lt hF2 hc, sb_app1 hF0 hLm hFF2⟩ dJ5_append_3fe6f_76
set_option maxHeartbeats 1000000 in
set_option maxRecDepth 100000 in
theorem c_B_appS (l : Launch) {D : va_G} {cI cC cD cR cB : ClassId} {sa : sA} {n0 a : Nat} {r v : Nat} {L L0 : List Nat} (h60 : (L0 ++ L).length ≤ 60) : Met l yJ4_append_15ec4 wsJ4_append_15ec4 ({ frames := 5, cells := 1, slots := 150, locals := 147 }) (va_Pc [.ref a, .ref r] (sPx D [(cI, .int), (cC, .char), (cD, .object "DoorDialect$Door"), (cR, .object "DoorDialect$House")] nN sa (aN n0) cB (sbP D cB n0 a L0) [(r, v, L)])) (gQr a (sbP D cB n0 a (L0 ++ L)) (aN n0)) 1 150 (aN n0) := by
  refine nv_met (cc := cJ4_append_15ec4) (maxL := 2) (ret := (some (.object "java/lang/StringBuilder"))) (by decide) rfl (Nat.le_of_ble_eq_true rfl) ?_
  intro p0 e0 s m0 args below meth c0 Q hq hargs hnA hpre ls hl
  obtain ⟨hx, hb, hr, hts, hown, hlocks, hml⟩ := hnA
  obtain ⟨hP, hT, hBk, hX⟩ := hpre
  have hown : s.vm.findClass RJ4 = some m0.cls := hown
  have hl : lv_has ls 2 [(0, .ref a), (1, .ref r)] := hl
  have hS : va_S (aN n0) s.heap s.heap [] := va_S.rf
  have hX1 : tx (aN n0) (r, v, L) s s.heap := hX _ List.mem_cons_self
  have hLn : L.length < 1000 := hX1.1
  have hLc : ∀ k, L.getD k 0 < 128 := getD_lt hX1.2.1 (by decide)
  have hO : va_O "java/lang/String" r (aN n0) s s.heap := hX1.2.2.1
  have hCo : va_OF "java/lang/String" "coder" "B" (.int 0) r (aN n0) s s.heap := hX1.2.2.2.1
  have hVa : va_OF "java/lang/String" "value" "[B" (.ref v) r (aN n0) s s.heap := hX1.2.2.2.2.1
  have hBy : va_T .byte v L.length (fun j => .int (nI (L.getD j 0))) (aN n0) s s.heap := hX1.2.2.2.2.2
  obtain ⟨b, m, F, hP0, hab, ha0, hb0, hLm, hm9, hF9, hF0⟩ := hP
  have hP : va_P D vwCl [(a, .inr (9, [.ref b, .int (nI 0), .int (nI 0), .int (nI L0.length)])), (b, .inl (cB, m, .inl (gN F)))] s.heap := hP0
  refine lv_aload_n hx hb dJ4_append_15ec4_0 rfl (lv_at hl 0 rfl) ?_
  refine lv_aload_n hx hb dJ4_append_15ec4_1 rfl (lv_at hl 1 rfl) ?_
  refine nv_kGr2 (va_runSU (hBk.1.1 9 _ rfl).2 (As := [.ref r]) (rest := []) ⟨hx, hb, hml, hown, hts⟩ (c_S_appS5 l (n0 := n0) h60 hab ha0 hb0 hLm hm9 hF9 hF0) (va_cwSU 1 hts gJ4_append_15ec4_J5_append_cf1ce_s29 rfl rfl rfl (by decide +kernel) ⟨Nat.le_of_ble_eq_true rfl, Nat.le_of_ble_eq_true rfl⟩) (nx_pV hT hBk (tx1 hX1) hS (fun q h => h) hP (va_recv hBk.1 hP (ci := 9) (q0 := 0) rfl rfl)) rfl rfl hl.1 rfl (lv_room (Nat.le_of_ble_eq_true rfl)) dJ4_append_15ec4_2 ⟨Nat.le_of_ble_eq_true rfl, Nat.le_of_ble_eq_true rfl⟩) hS (fun q h => h) (fun H locs hPn hK hS => ?_)
  refine lv_pop hx hb dJ4_append_15ec4_5 rfl ?_
  refine lv_aload_n hx hb dJ4_append_15ec4_6 rfl (lv_at hl 0 rfl) ?_
  exact nv_retGr2 hq hx hb hr (Or.inl ⟨_, rfl⟩) hlocks (Nat.le_of_ble_eq_true rfl) (Nat.le_of_ble_eq_true rfl) hS hPn dJ4_append_15ec4_7
set_option maxHeartbeats 1000000 in
set_option maxRecDepth 100000 in
theorem c_B_appC (l : Launch) {D : va_G} {cI cC cD cR cB : ClassId} {sa : sA} {n0 a : Nat} {L0 : List Nat} (c : Nat) (hc : c < 128) (h60 : L0.length + 1 ≤ 60) : Met l yJ4_append_cf468 wsJ4_append_cf468 ({ frames := 5, cells := 1, slots := 150, locals := 145 }) (va_Pc [.ref a, .int (nI c)] (sPx D [(cI, .int), (cC, .char), (cD, .object "DoorDialect$Door"), (cR, .object "DoorDialect$House")] nN sa (aN n0) cB (sbP D cB n0 a L0) [])) (gQr a (sbP D cB n0 a (L0 ++ [c])) (aN n0)) 1 150 (aN n0) := by
  refine nv_met (cc := cJ4_append_cf468) (maxL := 2) (ret := (some (.object "java/lang/StringBuilder"))) (by decide) rfl (Nat.le_of_ble_eq_true rfl) ?_
  intro p0 e0 s m0 args below meth c0 Q hq hargs hnA hpre ls hl
  obtain ⟨hx, hb, hr, hts, hown, hlocks, hml⟩ := hnA
  obtain ⟨hP, hT, hBk, hX⟩ := hpre
  have hown : s.vm.findClass RJ4 = some m0.cls := hown
  have hl : lv_has ls 2 [(0, .ref a), (1, .int (nI c))] := hl
  have hS : va_S (aN n0) s.heap s.heap [] := va_S.rf
  obtain ⟨b, m, F, hP0, hab, ha0, hb0, hLm, hm9, hF9, hF0⟩ := hP
  have hP : va_P D vwCl [(a, .inr (9, [.ref b, .int (nI 0), .int (nI 0), .int (nI L0.length)])), (b, .inl (cB, m, .inl (gN F)))] s.heap := hP0
  refine lv_aload_n hx hb dJ4_append_cf468_0 rfl (lv_at hl 0 rfl) ?_
  refine lv_iload_n hx hb dJ4_append_cf468_1 rfl (lv_at hl 1 rfl) ?_
  refine nv_kGr2 (va_runSU (hBk.1.1 9 _ rfl).2 (As := [.int (nI c)]) (rest := []) ⟨hx, hb, hml, hown, hts⟩ (c_S_appC5 l (n0 := n0) c hc h60 hab ha0 hb0 hLm hm9 hF9 hF0) (va_cwSU 1 hts gJ4_append_cf468_J5_append_3fe6f_s50 rfl rfl rfl (by decide +kernel) ⟨Nat.le_of_ble_eq_true rfl, Nat.le_of_ble_eq_true rfl⟩) (nx_pV hT hBk tx0 hS (fun q h => h) hP (va_recv hBk.1 hP (ci := 9) (q0 := 0) rfl rfl)) rfl rfl hl.1 rfl (lv_room (Nat.le_of_ble_eq_true rfl)) dJ4_append_cf468_2 ⟨Nat.le_of_ble_eq_true rfl, Nat.le_of_ble_eq_true rfl⟩) hS (fun q h => h) (fun H locs hPn hK hS => ?_)
  refine lv_pop hx hb dJ4_append_cf468_5 rfl ?_
  refine lv_aload_n hx hb dJ4_append_cf468_6 rfl (lv_at hl 0 rfl) ?_
  exact nv_retGr2 hq hx hb hr (Or.inl ⟨_, rfl⟩) hlocks (Nat.le_of_ble_eq_true rfl) (Nat.le_of_ble_eq_true rfl) hS hPn dJ4_append_cf468_7
