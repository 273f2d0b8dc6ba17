set_option maxHeartbeats 1000000 in
set_option maxRecDepth 100000 in
theorem c_T_isLatin1 (l : Launch) {D : va_G} {cI cC cD cR cB : ClassId} {sa : sA} {A : Nat → Prop} {r v : Nat} {L : List Nat} : Met l yJ0_isLatin1_aae02 wsJ0_isLatin1_aae02 ({ frames := 0, cells := 0, slots := 0, locals := 0 }) (va_Pc [.ref r] (sPx D [(cI, .int), (cC, .char), (cD, .object "DoorDialect$Door"), (cR, .object "DoorDialect$House")] nN sa A cB (fun _ => True) [(r, v, L)])) (sQ (nI 1)) 0 0 (fun _ => False) := by
  refine nv_met (cc := cJ0_isLatin1_aae02) (maxL := 1) (ret := (some .boolean)) (by decide) rfl (Nat.le_of_ble_eq_true rfl) ?_
  intro p0 e0 s m0 args below meth c0 Q hq hargs hnA hpre ls hl
  obtain ⟨hx, hb, hr, hts, hown, hlocks, hml⟩ := hnA
  obtain ⟨hP, hT, hBk, hX⟩ := hpre
  have hown : s.vm.findClass RJ0 = some m0.cls := hown
  have hl : lv_has ls 1 [(0, .ref r)] := hl
  have hS : va_S A s.heap s.heap [] := va_S.rf
  have fl_15 := hts (.fieldLink RJ0 15 "java/lang/String" "coder" "B") (by decide +kernel)
  have fl_38 := hts (.fieldLink RJ0 38 "java/lang/String" "COMPACT_STRINGS" "Z") (by decide +kernel)
  have hX1 : tx A (r, v, L) s s.heap := hX _ List.mem_cons_self
  have hLn : L.length < 1000 := hX1.1
  have hLc : ∀ k, L.getD k 0 < 128 := getD_lt hX1.2.1 (by decide)
  have hO : va_O "java/lang/String" r A s s.heap := hX1.2.2.1
  have hCo : va_OF "java/lang/String" "coder" "B" (.int 0) r A s s.heap := hX1.2.2.2.1
  have hVa : va_OF "java/lang/String" "value" "[B" (.ref v) r A s s.heap := hX1.2.2.2.2.1
  have hBy : va_T .byte v L.length (fun j => .int (nI (L.getD j 0))) A s s.heap := hX1.2.2.2.2.2
  refine va_gets hx hb hT.2.2.2.1.1 hS hown fl_38 (fun _ h9 => h9) dJ0_isLatin1_aae02_0 ?_
  refine nv_to 1 rfl ?_
  refine nv_if_eq (tgt := 17) hx hb dJ0_isLatin1_aae02_3 (by decide) (by omega) (fun c1 => absurd c1 (by decide)) (fun c1 => ?_)
  refine lv_aload_n hx hb dJ0_isLatin1_aae02_6 rfl (lv_at hl 0 rfl) ?_
  refine vk_getf hx hb hCo hS hown fl_15 (fun _ h9 => h9) dJ0_isLatin1_aae02_7 ?_
  refine nv_to 0 rfl ?_
  refine nv_if_ne (tgt := 17) hx hb dJ0_isLatin1_aae02_10 (by decide) (by omega) (fun c2 => absurd c2 (by decide)) (fun c2 => ?_)
  refine lv_iconst (v := nI 1) hx hb dJ0_isLatin1_aae02_13 (by decide) ?_
  refine lv_goto (tgt := 18) hx hb dJ0_isLatin1_aae02_14 (by decide) ?_
  exact nv_retS hq hx hb hr hlocks (nar_z (by omega)) (rfl) dJ0_isLatin1_aae02_18
set_option maxHeartbeats 1000000 in
set_option maxRecDepth 100000 in
theorem c_T_coder (l : Launch) {D : va_G} {cI cC cD cR cB : ClassId} {sa : sA} {A : Nat → Prop} {r v : Nat} {L : List Nat} : Met l yJ0_coder_7d493 wsJ0_coder_7d493 ({ frames := 0, cells := 0, slots := 0, locals := 0 }) (va_Pc [.ref r] (sPx D [(cI, .int), (cC, .char), (cD, .object "DoorDialect$Door"), (cR, .object "DoorDialect$House")] nN sa A cB (fun _ => True) [(r, v, L)])) (sQ (nI 0)) 0 0 (fun _ => False) := by
  refine nv_met (cc := cJ0_coder_7d493) (maxL := 1) (ret := (some .byte)) (by decide) rfl (Nat.le_of_ble_eq_true rfl) ?_
  intro p0 e0 s m0 args below meth c0 Q hq hargs hnA hpre ls hl
  obtain ⟨hx, hb, hr, hts, hown, hlocks, hml⟩ := hnA
  obtain ⟨hP, hT, hBk, hX⟩ := hpre
  have hown : s.vm.findClass RJ0 = some m0.cls := hown
  have hl : lv_has ls 1 [(0, .ref r)] := hl
  have hS : va_S A s.heap s.heap [] := va_S.rf
  have fl_15 := hts (.fieldLink RJ0 15 "java/lang/String" "coder" "B") (by decide +kernel)
  have fl_38 := hts (.fieldLink RJ0 38 "java/lang/String" "COMPACT_STRINGS" "Z") (by decide +kernel)
  have hX1 : tx A (r, v, L) s s.heap := hX _ List.mem_cons_self
  have hLn : L.length < 1000 := hX1.1
  have hLc : ∀ k, L.getD k 0 < 128 := getD_lt hX1.2.1 (by decide)
  have hO : va_O "java/lang/String" r A s s.heap := hX1.2.2.1
  have hCo : va_OF "java/lang/String" "coder" "B" (.int 0) r A s s.heap := hX1.2.2.2.1
  have hVa : va_OF "java/lang/String" "value" "[B" (.ref v) r A s s.heap := hX1.2.2.2.2.1
  have hBy : va_T .byte v L.length (fun j => .int (nI (L.getD j 0))) A s s.heap := hX1.2.2.2.2.2
  refine va_gets hx hb hT.2.2.2.1.1 hS hown fl_38 (fun _ h9 => h9) dJ0_coder_7d493_0 ?_
  refine nv_to 1 rfl ?_
  refine nv_if_eq (tgt := 13) hx hb dJ0_coder_7d493_3 (by decide) (by omega) (fun c1 => absurd c1 (by decide)) (fun c1 => ?_)
  refine lv_aload_n hx hb dJ0_coder_7d493_6 rfl (lv_at hl 0 rfl) ?_
  refine vk_getf hx hb hCo hS hown fl_15 (fun _ h9 => h9) dJ0_coder_7d493_7 ?_
  refine nv_to 0 rfl ?_
  refine lv_goto (tgt := 14) hx hb dJ0_coder_7d493_10 (by decide) ?_
  exact nv_retS hq hx hb hr hlocks rfl (rfl) dJ0_coder_7d493_14
set_option maxHeartbeats 1000000 in
set_option maxRecDepth 100000 in
theorem c_T_length (l : Launch) {D : va_G} {cI cC cD cR cB : ClassId} {sa : sA} {A : Nat → Prop} {r v : Nat} {L : List Nat} : Met l yJ0_length_8abf5 wsJ0_length_8abf5 ({ frames := 1, cells := 0, slots := 0, locals := 20 }) (va_Pc [.ref r] (sPx D [(cI, .int), (cC, .char), (cD, .object "DoorDialect$Door"), (cR, .object "DoorDialect$House")] nN sa A cB (fun _ => True) [(r, v, L)])) (sQ (nI L.length)) 0 0 (fun _ => False) := by
  refine nv_met (cc := cJ0_length_8abf5) (maxL := 1) (ret := (some .int)) (by decide) rfl (Nat.le_of_ble_eq_true rfl) ?_
  intro p0 e0 s m0 args below meth c0 Q hq hargs hnA hpre ls hl
  obtain ⟨hx, hb, hr, hts, hown, hlocks, hml⟩ := hnA
  obtain ⟨hP, hT, hBk, hX⟩ := hpre
  have hown : s.vm.findClass RJ0 = some m0.cls := hown
  have hl : lv_has ls 1 [(0, .ref r)] := hl
  have hS : va_S A s.heap s.heap [] := va_S.rf
  have fl_9 := hts (.fieldLink RJ0 9 "java/lang/String" "value" "[B") (by decide +kernel)
  have hX1 : tx A (r, v, L) s s.heap := hX _ List.mem_cons_self
  have hLn : L.length < 1000 := hX1.1
  have hLc : ∀ k, L.getD k 0 < 128 := getD_lt hX1.2.1 (by decide)
  have hO : va_O "java/lang/String" r A s s.heap := hX1.2.2.1
  have hCo : va_OF "java/lang/String" "coder" "B" (.int 0) r A s s.heap := hX1.2.2.2.1
  have hVa : va_OF "java/lang/String" "value" "[B" (.ref v) r A s s.heap := hX1.2.2.2.2.1
  have hBy : va_T .byte v L.length (fun j => .int (nI (L.getD j 0))) A s s.heap := hX1.2.2.2.2.2
  refine lv_aload_n hx hb dJ0_length_8abf5_0 rfl (lv_at hl 0 rfl) ?_
  refine vk_getf hx hb hVa hS hown fl_9 (fun _ h9 => h9) dJ0_length_8abf5_1 ?_
  refine va_tlen (v := nI L.length) hx hb hBy hS rfl dJ0_length_8abf5_4 ?_
  refine lv_aload_n hx hb dJ0_length_8abf5_5 rfl (lv_at hl 0 rfl) ?_
  refine nv_kS (va_runV (As := []) (rest := [.int (nI L.length)]) ⟨hx, hb, hml, hown, hts⟩ (c_T_coder l (A := A)) (cwV 0 hts gJ0_length_8abf5_J0_coder_7d493 rfl rfl rfl (by decide +kernel) ⟨Nat.le_of_ble_eq_true rfl, Nat.le_of_ble_eq_true rfl⟩) (nx_pV hT hBk (tx1 hX1) hS (fun q h => h) trivial (va_Orecv hO hS)) rfl rfl hl.1 rfl (lv_room (Nat.le_of_ble_eq_true rfl)) dJ0_length_8abf5_6 ⟨Nat.le_of_ble_eq_true rfl, Nat.le_of_ble_eq_true rfl⟩) ?_
  refine lv_ishr hx hb dJ0_length_8abf5_9 ?_
  refine nv_to L.length (nb_shr (k := 0) (by decide) (by omega)) ?_
  exact nv_retS hq hx hb hr hlocks (nar_i _) (rfl) dJ0_length_8abf5_10
set_option maxHeartbeats 1000000 in
set_option maxRecDepth 100000 in
theorem c_T1_charAt (l : Launch) {D : va_G} {cI cC cD cR cB : ClassId} {sa : sA} {A : Nat → Prop} {r v : Nat} {L : List Nat} (k : Nat) (hk : k < L.length) : Met l yJ1_charAt_3b067 wsJ1_charAt_3b067 ({ frames := 2, cells := 0, slots := 0, locals := 43 }) (va_Pc [.ref v, .int (nI k)] (sPx D [(cI, .int), (cC, .char), (cD, .object "DoorDialect$Door"), (cR, .object "DoorDialect$House")] nN sa A cB (fun _ => True) [(r, v, L)])) (sQ (nI (L.getD k 0))) 0 0 (fun _ => False) := by
  refine nv_met (cc := cJ1_charAt_3b067) (maxL := 2) (ret := (some .char)) (by decide) rfl (Nat.le_of_ble_eq_true rfl) ?_
  intro p0 e0 s m0 args below meth c0 Q hq hargs hnA hpre ls hl
  obtain ⟨hx, hb, hr, hts, hown, hlocks, hml⟩ := hnA
  obtain ⟨hP, hT, hBk, hX⟩ := hpre
  have hown : s.vm.findClass RJ1 = some m0.cls := hown
  have hl : lv_has ls 2 [(0, .ref v), (1, .int (nI k))] := hl
  have hS : va_S A s.heap s.heap [] := va_S.rf
  have hX1 : tx A (r, v, L) s s.heap := hX _ List.mem_cons_self
  have hLn : L.length < 1000 := hX1.1
  have hLc : ∀ k, L.getD k 0 < 128 := getD_lt hX1.2.1 (by decide)
  have hO : va_O "java/lang/String" r A s s.heap := hX1.2.2.1
  have hCo : va_OF "java/lang/String" "coder" "B" (.int 0) r A s s.heap := hX1.2.2.2.1
  have hVa : va_OF "java/lang/String" "value" "[B" (.ref v) r A s s.heap := hX1.2.2.2.2.1
  have hBy : va_T .byte v L.length (fun j => .int (nI (L.getD j 0))) A s s.heap := hX1.2.2.2.2.2
  have hc := hLc k
  refine lv_iload_n hx hb dJ1_charAt_3b067_0 rfl (lv_at hl 1 rfl) ?_
  refine lv_aload_n hx hb dJ1_charAt_3b067_1 rfl (lv_at hl 0 rfl) ?_
  refine va_tlen (v := nI L.length) hx hb hBy hS rfl dJ1_charAt_3b067_2 ?_
  refine nv_kSv (va_runS (As := [.int (nI k), .int (nI L.length)]) (rest := []) ⟨hx, hb, hml, hown, hts⟩ (c_J0_checkIndex_df160 l k L.length (by omega) (by omega)) (va_cwS 2 hts gJ1_charAt_3b067_J0_checkIndex_df160 rfl rfl rfl (by decide +kernel) ⟨Nat.le_of_ble_eq_true rfl, Nat.le_of_ble_eq_true rfl⟩) (nt_pS hT hS trivial) rfl rfl hl.1 rfl (lv_room (Nat.le_of_ble_eq_true rfl)) dJ1_charAt_3b067_3 ⟨Nat.zero_le _, Nat.zero_le _⟩) ?_
  refine lv_aload_n hx hb dJ1_charAt_3b067_6 rfl (lv_at hl 0 rfl) ?_
  refine lv_iload_n hx hb dJ1_charAt_3b067_7 rfl (lv_at hl 1 rfl) ?_
  refine va_tb (i := nI k) (v := .int (nI (L.getD k 0))) hx hb hBy hS (vp_in_nI hk (by omega)) (by show Value.int (nI (L.getD (nI k).toNatClampNeg 0)) = _; rw [nI_clamp (by omega)]) dJ1_charAt_3b067_8 ?_
  refine lv_sipush (v := nI 255) hx hb dJ1_charAt_3b067_9 (by decide) ?_
  refine lv_iand hx hb dJ1_charAt_3b067_12 ?_
  refine nv_to (L.getD k 0) (nv_and255 (by omega)) ?_
  refine lv_i2c (v := nI (L.getD k 0)) hx hb dJ1_charAt_3b067_13 (nv_i2c (by omega)) ?_
  exact nv_retS hq hx hb hr hlocks (nar_c (by omega)) (rfl) dJ1_charAt_3b067_14
set_option maxHeartbeats 1000000 in
set_option maxRecDepth 100000 in
theorem c_T_charAt (l : Launch) {D : va_G} {cI cC cD cR cB : ClassId} {sa : sA} {A : Nat → Prop} {r v : Nat} {L : List Nat} (k : Nat) (hk : k < L.length) : Met l yJ0_charAt_5068e wsJ0_charAt_5068e ({ frames := 3, cells := 0, slots := 0, locals := 64 }) (va_Pc [.ref r, .int (nI k)] (sPx D [(cI, .int), (cC, .char), (cD, .object "DoorDialect$Door"), (cR, .object "DoorDialect$House")] nN sa A cB (fun _ => True) [(r, v, L)])) (sQ (nI (L.getD k 0))) 0 0 (fun _ => False) := by
  refine nv_met (cc := cJ0_charAt_5068e) (maxL := 2) (ret := (some .char)) (by decide) rfl (Nat.le_of_ble_eq_true rfl) ?_
  intro p0 e0 s m0 args below meth c0 Q hq hargs hnA hpre ls hl
  obtain ⟨hx, hb, hr, hts, hown, hlocks, hml⟩ := hnA
  obtain ⟨hP, hT, hBk, hX⟩ := hpre
  have hown : s.vm.findClass RJ0 = some m0.cls := hown
  have hl : lv_has ls 2 [(0, .ref r), (1, .int (nI k))] := hl
  have hS : va_S A s.heap s.heap [] := va_S.rf
  have fl_9 := hts (.fieldLink RJ0 9 "java/lang/String" "value" "[B") (by decide +kernel)
  have hX1 : tx A (r, v, L) s s.heap := hX _ List.mem_cons_self
  have hLn : L.length < 1000 := hX1.1
  have hLc : ∀ k, L.getD k 0 < 128 := getD_lt hX1.2.1 (by decide)
  have hO : va_O "java/lang/String" r A s s.heap := hX1.2.2.1
  have hCo : va_OF "java/lang/String" "coder" "B" (.int 0) r A s s.heap := hX1.2.2.2.1
  have hVa : va_OF "java/lang/String" "value" "[B" (.ref v) r A s s.heap := hX1.2.2.2.2.1
  have hBy : va_T .byte v L.length (fun j => .int (nI (L.getD j 0))) A s s.heap := hX1.2.2.2.2.2
  have hc := hLc k
  refine lv_aload_n hx hb dJ0_charAt_5068e_0 rfl (lv_at hl 0 rfl) ?_
  refine nv_kS (va_runV (As := []) (rest := []) ⟨hx, hb, hml, hown, hts⟩ (c_T_isLatin1 l (A := A)) (cwV 0 hts gJ0_charAt_5068e_J0_isLatin1_aae02 rfl rfl rfl (by decide +kernel) ⟨Nat.le_of_ble_eq_true rfl, Nat.le_of_ble_eq_true rfl⟩) (nx_pV hT hBk (tx1 hX1) hS (fun q h => h) trivial (va_Orecv hO hS)) rfl rfl hl.1 rfl (lv_room (Nat.le_of_ble_eq_true rfl)) dJ0_charAt_5068e_1 ⟨Nat.le_of_ble_eq_true rfl, Nat.le_of_ble_eq_true rfl⟩) ?_
  refine nv_if_eq (tgt := 16) hx hb dJ0_charAt_5068e_4 (by decide) (by omega) (fun c1 => absurd c1 (by decide)) (fun c1 => ?_)
  refine lv_aload_n hx hb dJ0_charAt_5068e_7 rfl (lv_at hl 0 rfl) ?_
  refine vk_getf hx hb hVa hS hown fl_9 (fun _ h9 => h9) dJ0_charAt_5068e_8 ?_
  refine lv_iload_n hx hb dJ0_charAt_5068e_11 rfl (lv_at hl 1 rfl) ?_
  refine nv_kS (va_runS (As := [.ref v, .int (nI k)]) (rest := []) ⟨hx, hb, hml, hown, hts⟩ (c_T1_charAt l (A := A) (r := r) k hk) (va_cwS 2 hts gJ0_charAt_5068e_J1_charAt_3b067 rfl rfl rfl (by decide +kernel) ⟨Nat.le_of_ble_eq_true rfl, Nat.le_of_ble_eq_true rfl⟩) (nx_pS hT hBk (tx1 hX1) hS (fun q h => h) trivial) rfl rfl hl.1 rfl (lv_room (Nat.le_of_ble_eq_true rfl)) dJ0_charAt_5068e_12 ⟨Nat.le_of_ble_eq_true rfl, Nat.le_of_ble_eq_true rfl⟩) ?_
  exact nv_retS hq hx hb hr hlocks (nar_c (by omega)) (rfl) dJ0_charAt_5068e_15
set_option maxHeartbeats 1000000 in
set_option maxRecDepth 100000 in
theorem c_T_getBytes (l : Launch) {D : va_G} {cI cC cD cR cB : ClassId} {sa : sA} {A : Nat → Prop} {r v : Nat} {L : List Nat} {c m : Nat} {F : Nat → Nat} (k : Nat) (hk : k + L.length ≤ m) (hm : m ≤ 150) (hc0 : A c) : Met l yJ0_getBytes_840e7 wsJ0_getBytes_840e7 ({ frames := 1, cells := 0, slots := 0, locals := 80 }) (va_Pc [.ref r, .ref c, .int (nI k), .int (nI 0)] (sPx D [(cI, .int), (cC, .char), (cD, .object "DoorDialect$Door"), (cR, .object "DoorDialect$House")] nN sa A cB (fun H => va_P D vwCl [(c, .inl (cB, m, .inl (gN F)))] H) [(r, v, L)])) (gQv (fun H => va_P D vwCl [(c, .inl (cB, m, .inl (gN (va_cpy (fun j => L.getD j 0) F 0 k L.length))))] H) A) 0 0 A := by
  refine nv_met (cc := cJ0_getBytes_840e7) (maxL := 4) (ret := none) (by decide) rfl (Nat.le_of_ble_eq_true rfl) ?_
  intro p0 e0 s m0 args below meth c0 Q hq hargs hnA hpre ls hl
  obtain ⟨hx, hb, hr, hts, hown, hlocks, hml⟩ := hnA
  obtain ⟨hP, hT, hBk, hX⟩ := hpre
  have hown : s.vm.findClass RJ0 = some m0.cls := hown
  have hl : lv_has ls 4 [(0, .ref r), (1, .ref c), (2, .int (nI k)), (3, .int (nI 0))] := hl
  have hS : va_S A s.heap s.heap [] := va_S.rf
  have hP : va_P D vwCl [(c, .inl (cB, m, .inl (gN F)))] s.heap := hP
  have fl_9 := hts (.fieldLink RJ0 9 "java/lang/String" "value" "[B") (by decide +kernel)
  have hX1 : tx A (r, v, L) s s.heap := hX _ List.mem_cons_self
  have hLn : L.length < 1000 := hX1.1
  have hLc : ∀ k, L.getD k 0 < 128 := getD_lt hX1.2.1 (by decide)
  have hO : va_O "java/lang/String" r A s s.heap := hX1.2.2.1
  have hCo : va_OF "java/lang/String" "coder" "B" (.int 0) r A s s.heap := hX1.2.2.2.1
  have hVa : va_OF "java/lang/String" "value" "[B" (.ref v) r A s s.heap := hX1.2.2.2.2.1
  have hBy : va_T .byte v L.length (fun j => .int (nI (L.getD j 0))) A s s.heap := hX1.2.2.2.2.2
  have hD : va_D A [(c, .inl (cB, m, .inl (gN F)))] := va_D1 hc0
  refine lv_aload_n hx hb dJ0_getBytes_840e7_0 rfl (lv_at hl 0 rfl) ?_
  refine nv_kS (va_runV (As := []) (rest := []) ⟨hx, hb, hml, hown, hts⟩ (c_T_coder l (A := A)) (cwV 0 hts gJ0_getBytes_840e7_J0_coder_7d493 rfl rfl rfl (by decide +kernel) ⟨Nat.le_of_ble_eq_true rfl, Nat.le_of_ble_eq_true rfl⟩) (nx_pV hT hBk (tx1 hX1) hS (fun q h => h) trivial (va_Orecv hO hS)) rfl rfl hl.1 rfl (lv_room (Nat.le_of_ble_eq_true rfl)) dJ0_getBytes_840e7_1 ⟨Nat.le_of_ble_eq_true rfl, Nat.le_of_ble_eq_true rfl⟩) ?_
  refine lv_iload_n hx hb dJ0_getBytes_840e7_4 rfl (lv_at hl 3 rfl) ?_
  refine nv_icmp_ne (tgt := 28) hx hb dJ0_getBytes_840e7_5 (by decide) (by omega) (by omega) (fun c1 => absurd c1 (by decide)) (fun c1 => ?_)
  refine lv_aload_n hx hb dJ0_getBytes_840e7_8 rfl (lv_at hl 0 rfl) ?_
  refine vk_getf hx hb hVa hS hown fl_9 (fun _ h9 => h9) dJ0_getBytes_840e7_9 ?_
  refine lv_iconst (v := nI 0) hx hb dJ0_getBytes_840e7_12 (by decide) ?_
  refine lv_aload_n hx hb dJ0_getBytes_840e7_13 rfl (lv_at hl 1 rfl) ?_
  refine lv_iload_n hx hb dJ0_getBytes_840e7_14 rfl (lv_at hl 2 rfl) ?_
  refine lv_iload_n hx hb dJ0_getBytes_840e7_15 rfl (lv_at hl 3 rfl) ?_
  refine lv_ishl hx hb dJ0_getBytes_840e7_16 ?_
  refine nv_to k (nb_shl (k := 0) (by decide) (by omega)) ?_
  refine lv_aload_n hx hb dJ0_getBytes_840e7_17 rfl (lv_at hl 0 rfl) ?_
  refine vk_getf hx hb hVa hS hown fl_9 (fun _ h9 => h9) dJ0_getBytes_840e7_18 ?_
  refine va_tlen (v := nI L.length) hx hb hBy hS rfl dJ0_getBytes_840e7_21 ?_
  have hkc : (nI k).toNatClampNeg = k := nI_clamp (by omega)
  have hlc : (nI L.length).toNatClampNeg = L.length := nI_clamp (by omega)
  have h0c : (nI 0).toNatClampNeg = 0 := nI_clamp (by decide)
  refine vk_copyt (f := fun j => nI (L.getD j 0)) (g := gN F) hx hb (hml.trans hl.1.symm) hown (hts (.methodLink RJ0 212 arraycopyName) (by decide +kernel)) (hts (.native arraycopyName) (by decide +kernel)) (hts (.static arraycopyName) (by decide +kernel)) (hts (.initialized "java/lang/System") (by decide +kernel)) hBk.1 hP hD hS hBy 0 0 rfl rfl (nI_pos (by omega)) (nI_pos (by omega)) (nI_pos (by omega)) (by rw [h0c, hlc]; omega) (by rw [hkc, hlc]; omega) (fun i _ => fit_byte (hLc _)) (Nat.le_of_ble_eq_true rfl) (Nat.le_of_ble_eq_true rfl) dJ0_getBytes_840e7_22 (fun H locs hP hD hS => ?_)
  rw [h0c, hkc, hlc] at hP
  have hP : va_P D vwCl [(c, .inl (cB, m, .inl (gN (va_cpy (fun j => L.getD j 0) F 0 k L.length))))] H := by rw [gN_cpy]; exact hP
  refine lv_goto (tgt := 43) hx hb dJ0_getBytes_840e7_25 (by decide) ?_
  exact nv_retGv2 hq hx hb hr hlocks (Nat.zero_le _) (Nat.zero_le _) hS hP dJ0_getBytes_840e7_43
