theorem xV_far {D : va_G} {cI cC cD cR : ClassId} {AE G : Nat → Nat} {k : Nat} {H H1 : Heap} {A1 : Nat → Prop} (h : xV D cI cC cD cR AE k G H) (hn : ∀ j, j < 165 → ¬ A1 (AE j)) (hK : cFr A1 H H1) : xV D cI cC cD cR AE k G H1 := by
  obtain ⟨Hi, In, ch, wy, ea, ra, wd, h1, h2⟩ := h
  exact ⟨Hi, In, ch, wy, ea, ra, wd, h1, cW_far h2 hn hK⟩
set_option maxHeartbeats 4000000 in
set_option maxRecDepth 100000 in
theorem law_G {p0 : Program} {e0 : Env} {s : State} {m0 : MethodId} {below : List Frame} {meth : Method} {c0 : Code} {Q : State → Prop} {l : Launch} {b9 L : Nat} {xs : Nat → Int32} {D : va_G} {cI cC cD cR cB : ClassId} {sa : sA} (hC : lwC p0 l s m0 c0 b9 L xs D cI cC cD cR cB sa) {G : Nat → Nat} {w : Nat} {ADx : Nat → Nat} (hIx : cInj ADx) (hAx : ∀ i, i < 165 → s.heap.size ≤ ADx i) {ADy : Nat → Nat} (kz : ∀ (g : Nat) (ADz Hz Le : Nat → Nat) (cz : Nat), g < 3 → cInj ADz → (∀ i, i < 165 → s.heap.size ≤ ADz i) → (∀ i j, i < 165 → j < 165 → ADx i ≠ ADz j) → (∀ i j, i < 165 → j < 165 → ADz i ≠ ADx j) → lF 1 gNew qZ Hz ((apI qZ 0 (nI 1685024626) 4).1) Le 0 cz 4 0 9 → ∀ (H : Heap) (locs : List Loc) (ls : Array Slot), (xV D cI cC cD cR ADx 176 G H ∧ cW D cI cC cD cR ADz gNew qZ Hz ((apI qZ 0 (nI 1685024626) 4).1) Le 0 cz 4 0 9 (-1) (-1) (nI 0) H) → va_S (aN s.heap.size) s.heap H locs → lv_has ls 13 [(12, .ref (ADz 0)), (11, .int (nI (gl g))), (10, .int (nI (gH g))), (9, .int (nI g)), (4, .int (stF G)), (3, .int (nI (G 0))), (1, .ref (ADx 0)), (0, .ref b9)] → W p0 l e0 room_1 s m0 #[Value.ref b9] below meth c0 H locs (2000 * 7) (20000 * 7) Q (F0 m0 607 ls [])) : ∀ (H : Heap) (locs : List Loc) (ls : Array Slot), xV D cI cC cD cR ADx 176 G H → va_S (aN s.heap.size) s.heap H locs → lv_has ls 13 [(6, .int (nI (97 + oW w))), (5, .int (nI (97 + w))), (4, .int (stF G)), (3, .int (nI (G 0))), (2, .ref (ADy 0)), (1, .ref (ADx 0)), (0, .ref b9)] → W p0 l e0 room_1 s m0 #[Value.ref b9] below meth c0 H locs (2000 * 6) (20000 * 6) Q (F0 m0 467 ls []) := by
  obtain ⟨hx, hb, hml, hown, hts, hl9, hXs, hbl, hL, hT, hX⟩ := id hC
  rintro H locs ls hPx hS hl
  have hsx : ∀ q, cRg ADx 0 165 q → aN s.heap.size q := cRg_A hAx (Nat.le_refl _)
  have hnA9 : ¬ aN s.heap.size b9 := Nat.not_le.mpr hbl
  refine lv_aload_n hx hb dL_law_467 rfl (lv_at hl 6 rfl) ?_
  refine lv_bipush (v := nI 13) hx hb dL_law_468 (by decide) ?_
  refine nv_kS (va_runS (As := [.ref b9, .int (nI 13)]) (rest := []) ⟨hx, hb, hml, hown, hts⟩ (c_L_at l (xs := xs) hL 13 (by decide)) (va_cwS 2 hts gL_law_L_at rfl rfl rfl (by decide +kernel) ⟨Nat.le_of_ble_eq_true rfl, Nat.le_of_ble_eq_true rfl⟩) (xPre_pS hXs hbl hnA9 hS) rfl rfl hl.1 rfl (lv_room (Nat.le_of_ble_eq_true rfl)) dL_law_470 ⟨Nat.le_of_ble_eq_true rfl, Nat.le_of_ble_eq_true rfl⟩) ?_
  generalize (if 13 < L then xs 13 else 0) = c
  refine lv_istore (lv' := [(8, .int c), (6, .int (nI (97 + oW w))), (5, .int (nI (97 + w))), (4, .int (stF G)), (3, .int (nI (G 0))), (2, .ref (ADy 0)), (1, .ref (ADx 0)), (0, .ref b9)]) hx hb dL_law_473 hl (by decide) rfl (fun ls hl => ?_)
  refine lv_iload hx hb dL_law_475 (lv_at hl 0 rfl) ?_
  refine lv_iconst (v := nI 3) hx hb dL_law_477 (by decide) ?_
  refine lv_iand hx hb dL_law_478 ?_
  refine nv_to (c.toBitVec.toNat % 2 ^ 2) (pk_and c 2 (by decide)) ?_
  refine lv_iconst (v := nI 3) hx hb dL_law_479 (by decide) ?_
  refine nv_irem hx hb dL_law_480 (Nat.lt_of_lt_of_le (Nat.mod_lt _ (by decide)) (by decide)) (by decide) (by decide) ?_
  obtain ⟨g, hg9⟩ : ∃ g, g = c.toBitVec.toNat % 2 ^ 2 % 3 := ⟨_, rfl⟩
  have hg : g < 3 := by rw [hg9]; exact Nat.mod_lt _ (by decide)
  refine nv_to g (by rw [hg9]) ?_
  refine lv_istore (lv' := [(9, .int (nI g)), (8, .int c), (6, .int (nI (97 + oW w))), (5, .int (nI (97 + w))), (4, .int (stF G)), (3, .int (nI (G 0))), (2, .ref (ADy 0)), (1, .ref (ADx 0)), (0, .ref b9)]) hx hb dL_law_481 hl (by decide) rfl (fun ls hl => ?_)
  refine lv_iload hx hb dL_law_483 (lv_at hl 0 rfl) ?_
  refine lv_iconst (v := nI 1) hx hb dL_law_485 (by decide) ?_
  refine nv_iadd hx hb dL_law_486 ?_
  refine lv_iconst (v := nI 3) hx hb dL_law_487 (by decide) ?_
  refine nv_irem hx hb dL_law_488 (by omega) (by decide) (by decide) ?_
  refine nv_to (gH g) rfl ?_
  refine lv_istore (lv' := [(10, .int (nI (gH g))), (9, .int (nI g)), (8, .int c), (6, .int (nI (97 + oW w))), (5, .int (nI (97 + w))), (4, .int (stF G)), (3, .int (nI (G 0))), (2, .ref (ADy 0)), (1, .ref (ADx 0)), (0, .ref b9)]) hx hb dL_law_489 hl (by decide) rfl (fun ls hl => ?_)
  obtain ⟨r99, v99, hZ99, hL99⟩ := hX.2.2 (99, "oig", [111, 105, 103]) (by decide)
  refine va_ldcS hx hb hown hZ99 dL_law_491 ?_
  refine lv_iload hx hb dL_law_493 (lv_at hl 1 rfl) ?_
  refine nv_kS (va_runV (As := [.int (nI g)]) (rest := []) ⟨hx, hb, hml, hown, hts⟩ (c_T_charAt l (A := aN s.heap.size) (L := [111, 105, 103]) g hg) (cwV 1 hts gL_law_J0_charAt_5068e rfl rfl rfl (by decide +kernel) ⟨Nat.le_of_ble_eq_true rfl, Nat.le_of_ble_eq_true rfl⟩) (nx_pV hT hX.1 (tx1 (hL99.go hS (fun _ h => h))) hS (fun _ h => h) trivial (va_Orecv hL99.2.2.1 hS)) rfl rfl hl.1 rfl (lv_room (Nat.le_of_ble_eq_true rfl)) dL_law_495 ⟨Nat.le_of_ble_eq_true rfl, Nat.le_of_ble_eq_true rfl⟩) ?_
  refine nv_to (gl g) (congrArg nI (gl_ok g hg).2.2.symm) ?_
  refine lv_istore (lv' := [(11, .int (nI (gl g))), (10, .int (nI (gH g))), (9, .int (nI g)), (8, .int c), (6, .int (nI (97 + oW w))), (5, .int (nI (97 + w))), (4, .int (stF G)), (3, .int (nI (G 0))), (2, .ref (ADy 0)), (1, .ref (ADx 0)), (0, .ref b9)]) hx hb dL_law_498 hl (by decide) rfl (fun ls hl => ?_)
  rename Heap => K4
  have hP0 : ∀ H : Heap, va_P D vwCl [] H := fun H k q h => by simp at h
  have hD0 : ∀ A : Nat → Prop, va_D A [] := fun A => ⟨fun i j p q h => by simp at h, fun k q h => by simp at h⟩
  have hltx := xV_lt hPx
  have hn4 : s.heap.size ≤ K4.size := hS.1
  refine va_forget (fun q hq => hS.2.2 q hq) ?_
  refine va_new (D := D) (ci := 8) (C := RX6) (T := TX6) (N := 11) (fs := [.null, .null, .null, .null, .null, .null, .int (nI 0), .int (nI 0), .int (nI 0), .int (nI 0), .int (nI 0)]) (A := aN K4.size) (H0 := K4) hx hb hts wl_in_wsX60 tyX6 tyX6_ok hown (hts (.classLink RL 18 RX6) (List.mem_of_getElem? (i := 67) (by decide +kernel))) (hts (.instantiable RX6 11) (List.mem_of_getElem? (i := 68) (by decide +kernel))) (hts (.initialized RX6) (List.mem_of_getElem? (i := 37) (by decide +kernel))) hT.1.1 (hP0 _) (hD0 _) va_S.rf (fun _ h => h) rfl (fun j hj => by rcases (show j = 0 ∨ j = 1 ∨ j = 2 ∨ j = 3 ∨ j = 4 ∨ j = 5 ∨ j = 6 ∨ j = 7 ∨ j = 8 ∨ j = 9 ∨ j = 10 by omega) with rfl | rfl | rfl | rfl | rfl | rfl | rfl | rfl | rfl | rfl | rfl <;> rfl) (Nat.le_of_ble_eq_true rfl) (Nat.le_of_ble_eq_true rfl) dL_law_500 (fun h6 H hP hD hS9 => ?_)
  have hS : va_S (aN s.heap.size) s.heap H [] := hS.none.trans hS9 (aN_sub hn4)
  have hPx := xV_grow hPx (fun q h1 h2 => hS9.2.1 q h1 h2)
  have hn5 : K4.size ≤ H.size := hS9.1
  refine lv_dup hx hb dL_law_503 rfl ?_
  refine nv_kQv (A1 := aN K4.size) (S := Nat → Nat) (post := fun AD => AD 0 = h6) (B := fun AD H9 => cInj AD ∧ (∀ i, i < 165 → aN K4.size (AD i)) ∧ qW D cI cC cD cR AD qN H9) (va_runI (As := []) (rest := [.ref h6]) ⟨hx, hb, hml, hown, hts⟩ (c_X6_init l (A := aN K4.size) K4.size (fun _ h => h) hD qZ qZ qZ) ⟨callB_of 0 hts gL_law_X6_init rfl rfl rfl (hts (.initialized RX6) (List.mem_of_getElem? (i := 37) (by decide +kernel))) (hts (.methodLink RL 23 yX6_init) (List.mem_of_getElem? (i := 69) (by decide +kernel))) (by decide +kernel) ⟨Nat.le_of_ble_eq_true rfl, Nat.le_of_ble_eq_true rfl⟩, rfl, (hts (.instanceMethod yX6_init) (List.mem_of_getElem? (i := 70) (by decide +kernel)))⟩ (nt_pSn hT hS (aN_sub hn4) ⟨hn5, hP⟩) rfl rfl hl.1 rfl (lv_room (Nat.le_of_ble_eq_true rfl)) dL_law_504 ⟨Nat.le_of_ble_eq_true rfl, Nat.le_of_ble_eq_true rfl⟩) hS (aN_sub hn4) (fun ADz H locs hp9 hB9 hK hS => ?_)
  have hp9 : ADz 0 = h6 := hp9
  subst hp9
  obtain ⟨hIz, hNz, hPz⟩ := hB9
  obtain ⟨hxz, hzx⟩ := apart_lt hltx hNz
  have hPx := xV_far hPx (fun j hj h9 => absurd (hltx j hj) (Nat.not_lt.mpr h9)) hK
  have hAz : ∀ i, i < 165 → s.heap.size ≤ ADz i := fun i hi => Nat.le_trans hn4 (hNz i hi)
  have hsz : ∀ q, cRg ADz 0 165 q → aN s.heap.size q := cRg_A hAz (Nat.le_refl _)
  refine lv_astore (lv' := [(12, .ref (ADz 0)), (11, .int (nI (gl g))), (10, .int (nI (gH g))), (9, .int (nI g)), (8, .int c), (6, .int (nI (97 + oW w))), (5, .int (nI (97 + w))), (4, .int (stF G)), (3, .int (nI (G 0))), (2, .ref (ADy 0)), (1, .ref (ADx 0)), (0, .ref b9)]) hx hb dL_law_507 hl (by decide) rfl (fun ls hl => ?_)
  have hPz : cW D cI cC cD cR ADz gNew qZ qZ qZ qZ 0 0 0 0 0 (-1) (-1) (nI 0) H := hPz
  have hFz : lF 0 gNew qZ qZ qZ qZ 0 0 0 0 0 := qN_F
  obtain ⟨Hz, cz, hFz, hPz⟩ : ∃ (Hz : Nat → Nat) (cz : Nat), lF 0 gNew qZ Hz qZ qZ 0 cz 0 0 0 ∧ cW D cI cC cD cR ADz gNew qZ Hz qZ qZ 0 cz 0 0 0 (-1) (-1) (nI 0) H := ⟨_, _, hFz, hPz⟩
  refine lv_aload hx hb dL_law_509 (lv_at hl 0 rfl) ?_
  refine lv_bipush (v := nI 10) hx hb dL_law_511 (by decide) ?_
  obtain ⟨bqz, hGz, h25z, hbkz, hk5z, hchz, hHbz, hhsz, hSvbz, htyz, hIn7z, hlnz, hLez, hwyz⟩ := id hFz
  have hHwz : ∀ j, j < _ → hAt _ j 0 ≤ 8 ∧ hAt _ j 1 ≤ 6 ∧ hAt _ j 2 ≤ 5 := fun j hj => ⟨(hHbz j hj).2.2.1, (hHbz j hj).2.2.2.1, (hHbz j hj).2.2.2.2.1⟩
  have hbbz : bqz + 1 < 2 ^ 20 := by omega
  have hb32z : bqz + 32 < 2 ^ 20 := by omega
  have h13z : bqz < 8192 := by omega
  refine nv_kLX (vx_runV (As := [.int (nI 10)]) (rest := []) ⟨hx, hb, hml, hown, hts⟩ (c_X6_account l hl9 (A := cRg ADz 0 165) hGz hIz cRg_self (nI 10)) (cwV 1 hts gL_law_X6_account rfl rfl rfl (by decide +kernel) ⟨Nat.le_of_ble_eq_true rfl, Nat.le_of_ble_eq_true rfl⟩) (nt_pVn hT hS hsz hPz (va_recv hT.1.1 hPz.1 (ci := 8) (q0 := 0) rfl rfl)) rfl rfl hl.1 rfl (lv_room (Nat.le_of_ble_eq_true rfl)) dL_law_513 ⟨Nat.le_of_ble_eq_true rfl, Nat.le_of_ble_eq_true rfl⟩) hS hsz (fun E ce q9 H1 locs1 h0 hE hP1 hK1 hS1 hcell hv9 hcl => absurd (if_pos (by decide)) h0) (fun H locs h0 hPz hK hS => ?_)
  refine nv_to 5 (by rw [if_pos (show iR (nI 10) 13 by decide), tN_nI (by decide)]; exact congrArg nI zn_f.1) ?_
  have hPx := xV_keep hPx hK hzx
  refine lv_iconst (v := nI 5) hx hb dL_law_516 (by decide) ?_
  refine nv_icmp_ne (tgt := 592) hx hb dL_law_517 (by decide) (by omega) (by omega) (fun c9 => absurd rfl c9) (fun _ => ?_)
  refine lv_aload hx hb dL_law_520 (lv_at hl 0 rfl) ?_
  refine lv_aload hx hb dL_law_522 (lv_at hl 0 rfl) ?_
  refine lv_iconst (v := nI 0) hx hb dL_law_524 (by decide) ?_
  refine nv_kLX (vx_runV (As := [.int (nI 0)]) (rest := [.ref (ADz 0)]) ⟨hx, hb, hml, hown, hts⟩ (c_X6_endings l hl9 (A := cRg ADz 0 165) hGz hIz cRg_self (nI 0)) (cwV 1 hts gL_law_X6_endings rfl rfl rfl (by decide +kernel) ⟨Nat.le_of_ble_eq_true rfl, Nat.le_of_ble_eq_true rfl⟩) (nt_pVn hT hS hsz hPz (va_recv hT.1.1 hPz.1 (ci := 8) (q0 := 0) rfl rfl)) rfl rfl hl.1 rfl (lv_room (Nat.le_of_ble_eq_true rfl)) dL_law_525 ⟨Nat.le_of_ble_eq_true rfl, Nat.le_of_ble_eq_true rfl⟩) hS hsz (fun E ce q9 H1 locs1 h0 hE hP1 hK1 hS1 hcell hv9 hcl => absurd (if_pos (by decide)) h0) (fun H locs h0 hPz hK hS => ?_)
  refine nv_to 9 (if_pos (by decide)) ?_
  have hPx := xV_keep hPx hK hzx
  simp only [if_pos (show iR (nI 0) 3 by decide), tN_nI (show 0 < 2 ^ 31 by decide), zn_f.2.1] at hPz
  have hPz : cW D cI cC cD cR ADz gNew qZ Hz qZ (wrL [97, 105, 117, 101, 47, 101, 111, 97, 105] qZ 0) 0 cz 0 0 9 (-1) (-1) (nI 0) H := hPz
  have hFz : lF 0 gNew qZ Hz qZ (wrL [97, 105, 117, 101, 47, 101, 111, 97, 105] qZ 0) 0 cz 0 0 9 := lF_line hFz (T := [97, 105, 117, 101, 47, 101, 111, 97, 105]) (by decide) (by decide)
  obtain ⟨r177, v177, hZ177, hL177⟩ := hX.2.2 (177, "aiue/eoai", [97, 105, 117, 101, 47, 101, 111, 97, 105]) (by decide)
  refine va_ldcS hx hb hown hZ177 dL_law_528 ?_
  refine nv_kN (vx_runS (As := [.ref (ADz 0), .int (nI 9), .ref r177]) (rest := []) ⟨hx, hb, hml, hown, hts⟩ (c_L_isLine l hl9 hIz hFz (T := [97, 105, 117, 101, 47, 101, 111, 97, 105]) (by decide) rfl (fun j hj => wrL_get _ _ j hj)) (va_cwS 3 hts gL_law_L_isLine rfl rfl rfl (by decide +kernel) ⟨Nat.le_of_ble_eq_true rfl, Nat.le_of_ble_eq_true rfl⟩) (nl_pS hT hX (tx1 (hL177.go hS hsz)) hS hsz hPz) rfl rfl hl.1 rfl (lv_room (Nat.le_of_ble_eq_true rfl)) dL_law_530 ⟨Nat.le_of_ble_eq_true rfl, Nat.le_of_ble_eq_true rfl⟩) hS hsz (fun H locs hPz hK hS => ?_)
  have hPx := xV_keep hPx hK hzx
  refine nv_if_eq (tgt := 592) hx hb dL_law_533 (by decide) (by omega) (fun c9 => absurd c9 (by decide)) (fun _ => ?_)
  refine lv_aload hx hb dL_law_536 (lv_at hl 0 rfl) ?_
  refine lv_aload hx hb dL_law_538 (lv_at hl 0 rfl) ?_
  refine lv_iconst (v := nI 2) hx hb dL_law_540 (by decide) ?_
  obtain ⟨bqz, hGz, h25z, hbkz, hk5z, hchz, hHbz, hhsz, hSvbz, htyz, hIn7z, hlnz, hLez, hwyz⟩ := id hFz
  have hHwz : ∀ j, j < _ → hAt _ j 0 ≤ 8 ∧ hAt _ j 1 ≤ 6 ∧ hAt _ j 2 ≤ 5 := fun j hj => ⟨(hHbz j hj).2.2.1, (hHbz j hj).2.2.2.1, (hHbz j hj).2.2.2.2.1⟩
  have hbbz : bqz + 1 < 2 ^ 20 := by omega
  have hb32z : bqz + 32 < 2 ^ 20 := by omega
  have h13z : bqz < 8192 := by omega
  refine nv_kLX (vx_runV (As := [.int (nI 2)]) (rest := [.ref (ADz 0)]) ⟨hx, hb, hml, hown, hts⟩ (c_X6_endings l hl9 (A := cRg ADz 0 165) hGz hIz cRg_self (nI 2)) (cwV 1 hts gL_law_X6_endings rfl rfl rfl (by decide +kernel) ⟨Nat.le_of_ble_eq_true rfl, Nat.le_of_ble_eq_true rfl⟩) (nt_pVn hT hS hsz hPz (va_recv hT.1.1 hPz.1 (ci := 8) (q0 := 0) rfl rfl)) rfl rfl hl.1 rfl (lv_room (Nat.le_of_ble_eq_true rfl)) dL_law_541 ⟨Nat.le_of_ble_eq_true rfl, Nat.le_of_ble_eq_true rfl⟩) hS hsz (fun E ce q9 H1 locs1 h0 hE hP1 hK1 hS1 hcell hv9 hcl => absurd (if_pos (by decide)) h0) (fun H locs h0 hPz hK hS => ?_)
  refine nv_to 9 (if_pos (by decide)) ?_
  have hPx := xV_keep hPx hK hzx
  simp only [if_pos (show iR (nI 2) 3 by decide), tN_nI (show 2 < 2 ^ 31 by decide), zn_f.2.2.1] at hPz
  have hPz : cW D cI cC cD cR ADz gNew qZ Hz qZ (wrL [105, 117, 101, 111, 47, 111, 97, 105, 117] (wrL [97, 105, 117, 101, 47, 101, 111, 97, 105] qZ 0) 0) 0 cz 0 0 9 (-1) (-1) (nI 0) H := hPz
  have hFz : lF 0 gNew qZ Hz qZ (wrL [105, 117, 101, 111, 47, 111, 97, 105, 117] (wrL [97, 105, 117, 101, 47, 101, 111, 97, 105] qZ 0) 0) 0 cz 0 0 9 := lF_line hFz (T := [105, 117, 101, 111, 47, 111, 97, 105, 117]) (by decide) (by decide)
  rename Heap => K5
  have hltz := cW_lt hPz
  refine nv_kNn (vx_runS (As := []) (rest := [.int (nI 9), .ref (ADz 0)]) ⟨hx, hb, hml, hown, hts⟩ (c_L_ending l hl9 (n1 := K5.size)) (va_cwS 0 hts gL_law_L_ending rfl rfl rfl (by decide +kernel) ⟨Nat.le_of_ble_eq_true rfl, Nat.le_of_ble_eq_true rfl⟩) (nl_pS hT hX tx0 hS (aN_sub hS.1) (Nat.le_refl _)) rfl rfl hl.1 rfl (lv_room (Nat.le_of_ble_eq_true rfl)) dL_law_544 ⟨Nat.le_of_ble_eq_true rfl, Nat.le_of_ble_eq_true rfl⟩) hS (aN_sub hS.1) (fun te H locs hst5 hK hS => ?_)
  have hPx := xV_grow hPx hK
  have hPz := cW_grow hPz hK
  obtain ⟨u5, hxt5⟩ := tx_made hL177 hT.1.1 hX.1 hst5 (by decide) (by decide) hltz
  refine nv_kN (vx_runS (As := [.ref (ADz 0), .int (nI 9), .ref te]) (rest := []) ⟨hx, hb, hml, hown, hts⟩ (c_L_isLine l hl9 hIz hFz (T := [105, 117, 101, 111, 47, 111, 97, 105, 117]) (by decide) rfl (fun j hj => wrL_get _ _ j hj)) (va_cwS 3 hts gL_law_L_isLine rfl rfl rfl (by decide +kernel) ⟨Nat.le_of_ble_eq_true rfl, Nat.le_of_ble_eq_true rfl⟩) (nl_pS hT hX (tx1 hxt5) hS hsz hPz) rfl rfl hl.1 rfl (lv_room (Nat.le_of_ble_eq_true rfl)) dL_law_547 ⟨Nat.le_of_ble_eq_true rfl, Nat.le_of_ble_eq_true rfl⟩) hS hsz (fun H locs hPz hK hS => ?_)
  have hPx := xV_keep hPx hK hzx
  refine nv_if_eq (tgt := 592) hx hb dL_law_550 (by decide) (by omega) (fun c9 => absurd c9 (by decide)) (fun _ => ?_)
  refine lv_aload hx hb dL_law_553 (lv_at hl 0 rfl) ?_
  refine lv_iconst (v := nI 3) hx hb dL_law_555 (by decide) ?_
  obtain ⟨bqz, hGz, h25z, hbkz, hk5z, hchz, hHbz, hhsz, hSvbz, htyz, hIn7z, hlnz, hLez, hwyz⟩ := id hFz
  have hHwz : ∀ j, j < _ → hAt _ j 0 ≤ 8 ∧ hAt _ j 1 ≤ 6 ∧ hAt _ j 2 ≤ 5 := fun j hj => ⟨(hHbz j hj).2.2.1, (hHbz j hj).2.2.2.1, (hHbz j hj).2.2.2.2.1⟩
  have hbbz : bqz + 1 < 2 ^ 20 := by omega
  have hb32z : bqz + 32 < 2 ^ 20 := by omega
  have h13z : bqz < 8192 := by omega
  refine nv_kLX (vx_runV (As := [.int (nI 3)]) (rest := []) ⟨hx, hb, hml, hown, hts⟩ (c_X6_reached l hl9 (A := cRg ADz 0 165) hGz hIz cRg_self (nI 3)) (cwV 1 hts gL_law_X6_reached rfl rfl rfl (by decide +kernel) ⟨Nat.le_of_ble_eq_true rfl, Nat.le_of_ble_eq_true rfl⟩) (nt_pVn hT hS hsz hPz (va_recv hT.1.1 hPz.1 (ci := 8) (q0 := 0) rfl rfl)) rfl rfl hl.1 rfl (lv_room (Nat.le_of_ble_eq_true rfl)) dL_law_556 ⟨Nat.le_of_ble_eq_true rfl, Nat.le_of_ble_eq_true rfl⟩) hS hsz (fun E ce q9 H1 locs1 h0 hE hP1 hK1 hS1 hcell hv9 hcl => absurd (if_pos (by decide)) h0) (fun H locs h0 hPz hK hS => ?_)
  refine nv_to 8 (by rw [if_pos (show iR (nI 3) 6 by decide), tN_nI (by decide), zn_f.2.2.2.1]) ?_
  have hPx := xV_keep hPx hK hzx
  refine lv_bipush (v := nI 8) hx hb dL_law_559 (by decide) ?_
  refine nv_icmp_ne (tgt := 592) hx hb dL_law_561 (by decide) (by omega) (by omega) (fun c9 => absurd rfl c9) (fun _ => ?_)
  refine lv_aload hx hb dL_law_564 (lv_at hl 0 rfl) ?_
  refine lv_iconst (v := nI 2) hx hb dL_law_566 (by decide) ?_
  refine lv_iconst (v := nI 2) hx hb dL_law_567 (by decide) ?_
  refine lv_iconst (v := nI 1) hx hb dL_law_568 (by decide) ?_
  refine nv_kLX (vx_runV (As := [.int (nI 2), .int (nI 2), .int (nI 1)]) (rest := []) ⟨hx, hb, hml, hown, hts⟩ (c_N6_way l hl9 (A := cRg ADz 0 165) hGz hIz cRg_self (nI 2) (nI 2) 1 (by decide)) (cwV 3 hts gL_law_X6_way rfl rfl rfl (by decide +kernel) ⟨Nat.le_of_ble_eq_true rfl, Nat.le_of_ble_eq_true rfl⟩) (nt_pVn hT hS hsz hPz (va_recv hT.1.1 hPz.1 (ci := 8) (q0 := 0) rfl rfl)) rfl rfl hl.1 rfl (lv_room (Nat.le_of_ble_eq_true rfl)) dL_law_569 ⟨Nat.le_of_ble_eq_true rfl, Nat.le_of_ble_eq_true rfl⟩) hS hsz (fun E ce q9 H1 locs1 h0 hE hP1 hK1 hS1 hcell hv9 hcl => absurd (by rw [if_pos (show iR (nI 2) 6 ∧ iR (nI 2) 6 from ⟨by decide, by decide⟩), tN_nI (k := 2) (by decide), zn_f.2.2.2.2]; rfl) h0) (fun H locs h0 hPz hK hS => ?_)
  refine nv_to 0 (by rw [if_pos (show iR (nI 2) 6 ∧ iR (nI 2) 6 from ⟨by decide, by decide⟩), tN_nI (k := 2) (by decide), zn_f.2.2.2.2]; rfl) ?_
  have hPx := xV_keep hPx hK hzx
  refine nv_if_ne (tgt := 592) hx hb dL_law_572 (by decide) (by omega) (fun c9 => absurd c9 (by decide)) (fun _ => ?_)
  refine lv_aload hx hb dL_law_575 (lv_at hl 0 rfl) ?_
  refine nv_kG (va_runV (As := []) (rest := []) ⟨hx, hb, hml, hown, hts⟩ (c_X6_isRight l (A := cRg ADz 0 165) hGz hIz cRg_self) (cwV 0 hts gL_law_X6_isRight rfl rfl rfl (by decide +kernel) ⟨Nat.le_of_ble_eq_true rfl, Nat.le_of_ble_eq_true rfl⟩) (nt_pVn hT hS hsz hPz (va_recv hT.1.1 hPz.1 (ci := 8) (q0 := 0) rfl rfl)) rfl rfl hl.1 rfl (lv_room (Nat.le_of_ble_eq_true rfl)) dL_law_577 ⟨Nat.le_of_ble_eq_true rfl, Nat.le_of_ble_eq_true rfl⟩) hS hsz (fun H locs hPz hK hS => ?_)
  have hPx := xV_keep hPx hK hzx
  refine nv_if_eq (tgt := 592) hx hb dL_law_580 (by decide) (by omega) (fun c9 => absurd c9 (by decide)) (fun _ => ?_)
  refine lv_aload hx hb dL_law_583 (lv_at hl 0 rfl) ?_
  refine lv_iconst (v := nI 0) hx hb dL_law_585 (by decide) ?_
  have a1 : ¬ 4 < sm (bC (nI 0)) 4 := by rw [ap_0.1]; decide
  have a2 : ¬ 60 < 0 + sm (bC (nI 0)) 4 := by rw [ap_0.1]; decide
  refine nv_kLX (vx_runV (As := [.int (nI 0)]) (rest := []) ⟨hx, hb, hml, hown, hts⟩ (c_X6_append l hl9 (A := cRg ADz 0 165) (b := 0) hIz cRg_self (nI 0) (by decide)) (cwV 1 hts gL_law_X6_append rfl rfl rfl (by decide +kernel) ⟨Nat.le_of_ble_eq_true rfl, Nat.le_of_ble_eq_true rfl⟩) (nt_pVn hT hS hsz hPz (va_recv hT.1.1 hPz.1 (ci := 8) (q0 := 0) rfl rfl)) rfl rfl hl.1 rfl (lv_room (Nat.le_of_ble_eq_true rfl)) dL_law_586 ⟨Nat.le_of_ble_eq_true rfl, Nat.le_of_ble_eq_true rfl⟩) hS hsz (fun E ce q9 H1 locs1 h0 hE hP1 hK1 hS1 hcell hv9 hcl => absurd (by rw [if_neg a1, if_neg a2]) h0) (fun H locs h0 hPz hK hS => ?_)
  refine nv_to 0 (by rw [if_neg a1, if_neg a2, ap_0.2]) ?_
  have hPx := xV_keep hPx hK hzx
  simp only [if_neg a1, if_neg a2, ap_0F, ap_0.2] at hPz
  refine nv_if_eq (tgt := 594) hx hb dL_law_589 (by decide) (by omega) (fun _ => ?_) (fun c9 => absurd (by decide) c9)
  refine lv_aload hx hb dL_law_594 (lv_at hl 0 rfl) ?_
  refine lv_ldc (v := nI 1685024626) hx hb hown (hts (.constant RL 196 1685024626) (List.mem_of_getElem? (i := 1414) (by decide +kernel))) dL_law_596 ?_
  have d1 : ¬ 4 < sm (bC (nI 1685024626)) 4 := by rw [ap_d.1]; decide
  have d2 : ¬ 60 < 0 + sm (bC (nI 1685024626)) 4 := by rw [ap_d.1]; decide
  refine nv_kLX (vx_runV (As := [.int (nI 1685024626)]) (rest := []) ⟨hx, hb, hml, hown, hts⟩ (c_X6_append l hl9 (A := cRg ADz 0 165) (b := 0) hIz cRg_self (nI 1685024626) (by decide)) (cwV 1 hts gL_law_X6_append rfl rfl rfl (by decide +kernel) ⟨Nat.le_of_ble_eq_true rfl, Nat.le_of_ble_eq_true rfl⟩) (nt_pVn hT hS hsz hPz (va_recv hT.1.1 hPz.1 (ci := 8) (q0 := 0) rfl rfl)) rfl rfl hl.1 rfl (lv_room (Nat.le_of_ble_eq_true rfl)) dL_law_598 ⟨Nat.le_of_ble_eq_true rfl, Nat.le_of_ble_eq_true rfl⟩) hS hsz (fun E ce q9 H1 locs1 h0 hE hP1 hK1 hS1 hcell hv9 hcl => absurd (by rw [if_neg d1, if_neg d2]) h0) (fun H locs h0 hPz hK hS => ?_)
  refine nv_to 4 (by rw [if_neg d1, if_neg d2, ap_d.2]) ?_
  have hPx := xV_keep hPx hK hzx
  have hFz := hFz.append (by decide) (nI 1685024626)
  simp only [if_neg d1, if_neg d2, ap_d.2] at hPz hFz
  have hPz : cW D cI cC cD cR ADz gNew qZ Hz ((apI qZ 0 (nI 1685024626) 4).1) (wrL [105, 117, 101, 111, 47, 111, 97, 105, 117] (wrL [97, 105, 117, 101, 47, 101, 111, 97, 105] qZ 0) 0) 0 cz 4 0 9 (-1) (-1) (nI 0) H := hPz
  have hFz : lF 1 gNew qZ Hz ((apI qZ 0 (nI 1685024626) 4).1) (wrL [105, 117, 101, 111, 47, 111, 97, 105, 117] (wrL [97, 105, 117, 101, 47, 101, 111, 97, 105] qZ 0) 0) 0 cz 4 0 9 := hFz
  refine lv_iconst (v := nI 4) hx hb dL_law_601 (by decide) ?_
  refine nv_icmp_eq (tgt := 607) hx hb dL_law_602 (by decide) (by omega) (by omega) (fun _ => ?_) (fun c9 => absurd rfl c9)
  have hl := lv_sub hl [0, 1, 2, 3, 7, 8, 10, 11] rfl
  refine W.widen (k := 2000 * 7) (n := 20000 * 7) (Nat.le_of_ble_eq_true rfl) (Nat.le_of_ble_eq_true rfl) ?_
  exact kz g ADz _ _ _ hg hIz hAz hxz hzx hFz H locs ls ⟨hPx, hPz⟩ hS hl
