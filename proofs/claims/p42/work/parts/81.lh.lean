set_option maxHeartbeats 4000000 in
set_option maxRecDepth 100000 in
theorem law_H {p0 : Program} {e0 : Env} {s : State} {m0 : MethodId} {below : List Frame} {meth : Method} {c0 : Code} {Q : State → Prop} {l : Launch} {b9 L : Nat} {xs : Nat → Int32} {D : va_G} {cI cC cD cR cB : ClassId} {sa : sA} (hC : lwC p0 l s m0 c0 b9 L xs D cI cC cD cR cB sa) {G : Nat → Nat} {ADx ADz : Nat → Nat} (hIx : cInj ADx) (hAx : ∀ i, i < 165 → s.heap.size ≤ ADx i) (hIz : cInj ADz) (hAz : ∀ i, i < 165 → s.heap.size ≤ ADz i) (hxz : ∀ i j, i < 165 → j < 165 → ADx i ≠ ADz j) (hzx : ∀ i j, i < 165 → j < 165 → ADz i ≠ ADx j) {g : Nat} (hg : g < 3) {Hz Le : Nat → Nat} {cz : Nat} (hFz : lF 1 gNew qZ Hz ((apI qZ 0 (nI 1685024626) 4).1) Le 0 cz 4 0 9) (kz : ∀ (Hz In Le : Nat → Nat) (cz : Nat), lF 36 (zT1 g) qZ Hz In Le 0 cz 0 0 8 → ∀ (H : Heap) (locs : List Loc) (ls : Array Slot), (xV D cI cC cD cR ADx 176 G H ∧ cW D cI cC cD cR ADz (zT1 g) qZ Hz In Le 0 cz 0 0 8 (-1) (-1) (nI 0) H) → va_S (aN s.heap.size) s.heap H locs → lv_has ls 13 [(12, .ref (ADz 0)), (11, .int (nI (gl g))), (10, .int (nI (gH g))), (9, .int (nI g)), (4, .int (stF G)), (3, .int (nI (G 0))), (1, .ref (ADx 0)), (0, .ref b9)] → W p0 l e0 room_1 s m0 #[Value.ref b9] below meth c0 H locs (2000 * 8) (20000 * 8) Q (F0 m0 820 ls [])) : ∀ (H : Heap) (locs : List Loc) (ls : Array Slot), (xV D cI cC cD cR ADx 176 G H ∧ cW D cI cC cD cR ADz gNew qZ Hz ((apI qZ 0 (nI 1685024626) 4).1) Le 0 cz 4 0 9 (-1) (-1) (nI 0) H) → va_S (aN s.heap.size) s.heap H locs → lv_has ls 13 [(12, .ref (ADz 0)), (11, .int (nI (gl g))), (10, .int (nI (gH g))), (9, .int (nI g)), (4, .int (stF G)), (3, .int (nI (G 0))), (1, .ref (ADx 0)), (0, .ref b9)] → W p0 l e0 room_1 s m0 #[Value.ref b9] below meth c0 H locs (2000 * 7) (20000 * 7) Q (F0 m0 607 ls []) := by
  obtain ⟨hx, hb, hml, hown, hts, hl9, hXs, hbl, hL, hT, hX⟩ := id hC
  rintro H locs ls ⟨hPx, hPz⟩ hS hl
  have hsx : ∀ q, cRg ADx 0 165 q → aN s.heap.size q := cRg_A hAx (Nat.le_refl _)
  have hsz : ∀ q, cRg ADz 0 165 q → aN s.heap.size q := cRg_A hAz (Nat.le_refl _)
  have hgk := gl_ok g hg
  have hgh : gH g < 3 := Nat.mod_lt _ (by decide)
  refine lv_aload hx hb dL_law_607 (lv_at hl 0 rfl) ?_
  rename Heap => K6
  have hltx := xV_lt hPx
  have hltz := cW_lt hPz
  refine va_forget (fun q hq => hS.2.2 q hq) ?_
  have hn9 : s.heap.size ≤ K6.size := hS.1
  refine va_new (D := D) (ci := 9) (C := RJ4) (T := TJ4) (N := 4) (fs := [.null, .int (nI 0), .int (nI 0), .int (nI 0)]) (A := aN K6.size) (H0 := K6) (ws := []) hx hb hts wl_in_wsJ40 tyJ4 tyJ4_ok hown (hts (.classLink RL 91 RJ4) (List.mem_of_getElem? (i := 1165) (by decide +kernel))) (hts (.instantiable RJ4 4) (List.mem_of_getElem? (i := 1166) (by decide +kernel))) (hts (.initialized RJ4) (List.mem_of_getElem? (i := 58) (by decide +kernel))) hX.1.1 (fun k q h => by simp at h) ⟨fun i j p q h => by simp at h, fun k q h => by simp at h⟩ va_S.rf (fun _ h => h) rfl (fun j hj => by rcases (show j = 0 ∨ j = 1 ∨ j = 2 ∨ j = 3 by omega) with rfl | rfl | rfl | rfl <;> rfl) (Nat.le_of_ble_eq_true rfl) (Nat.le_of_ble_eq_true rfl) dL_law_609 (fun a6 H hP9 hD9 hS9 => ?_)
  have hPn : va_P D vwCl [(a6, .inr (9, [.null, .int (nI 0), .int (nI 0), .int (nI 0)]))] H := hP9
  have ha9 : K6.size ≤ a6 := hD9.2 0 _ rfl
  have hFr : ∀ q : Nat, q < K6.size → H[q]? = K6[q]? := fun q hq => hS9.2.1 q hq (Nat.not_le.mpr hq)
  have hSz : K6.size ≤ H.size := Nat.le_trans ha9 (Nat.le_of_lt (vx_lt hPn (k := 0) rfl))
  have hS : va_S (aN s.heap.size) s.heap H [] := hS.none.trans hS9 (aN_sub hn9)
  refine lv_dup hx hb dL_law_612 rfl ?_
  refine nv_kGv (va_runI (As := []) (rest := [.ref a6, .ref (ADz 0)]) ⟨hx, hb, hml, hown, hts⟩ (c_B_init l (n0 := K6.size) ha9) ⟨callB_of 0 hts gL_law_J4_init_da8c8 rfl rfl rfl (hts (.initialized RJ4) (List.mem_of_getElem? (i := 58) (by decide +kernel))) (hts (.methodLink RL 93 yJ4_init_da8c8) (List.mem_of_getElem? (i := 1167) (by decide +kernel))) (by decide +kernel) ⟨Nat.le_of_ble_eq_true rfl, Nat.le_of_ble_eq_true rfl⟩, rfl, (hts (.instanceMethod yJ4_init_da8c8) (List.mem_of_getElem? (i := 1168) (by decide +kernel)))⟩ (nx_pS hT hX.1 tx0 hS (aN_sub hn9) hPn) rfl rfl hl.1 rfl (lv_room (Nat.le_of_ble_eq_true rfl)) dL_law_613 ⟨Nat.le_of_ble_eq_true rfl, Nat.le_of_ble_eq_true rfl⟩) hS (aN_sub hn9) (fun H locs hPn hK hS => ?_)
  have hFr : ∀ q : Nat, q < K6.size → H[q]? = K6[q]? := fun q hq => (hK q (Nat.lt_of_lt_of_le hq hSz) (Nat.not_le.mpr hq)).trans (hFr q hq)
  have hSz : K6.size ≤ H.size := hPn.lt
  obtain ⟨r197, v197, hZ197, hL197⟩ := hX.2.2 (197, "0", [48]) (by decide)
  refine va_ldcS hx hb hown hZ197 dL_law_616 ?_
  refine nv_kGr2 (va_runV (As := [.ref r197]) (rest := [.ref (ADz 0)]) ⟨hx, hb, hml, hown, hts⟩ (c_B_appS l (n0 := K6.size) (r := r197) (v := v197) (L := [48]) (L0 := []) (Nat.le_of_ble_eq_true rfl)) (cwV 1 hts gL_law_J4_append_15ec4 rfl rfl rfl (by decide +kernel) ⟨Nat.le_of_ble_eq_true rfl, Nat.le_of_ble_eq_true rfl⟩) (nx_pV hT hX.1 (tx1 (hL197.go hS (aN_sub hn9))) hS (aN_sub hn9) hPn (sbP.recv hX.1 hPn)) rfl rfl hl.1 rfl (lv_room (Nat.le_of_ble_eq_true rfl)) dL_law_618 ⟨Nat.le_of_ble_eq_true rfl, Nat.le_of_ble_eq_true rfl⟩) hS (aN_sub hn9) (fun H locs hPn hK hS => ?_)
  have hPn : sbP D cB K6.size a6 [48] H := hPn
  have hFr : ∀ q : Nat, q < K6.size → H[q]? = K6[q]? := fun q hq => (hK q (Nat.lt_of_lt_of_le hq hSz) (Nat.not_le.mpr hq)).trans (hFr q hq)
  have hSz : K6.size ≤ H.size := hPn.lt
  refine lv_iload hx hb dL_law_621 (lv_at hl 1 rfl) ?_
  refine nv_kGr2 (va_runV (As := [.int (nI (gl g))]) (rest := [.ref (ADz 0)]) ⟨hx, hb, hml, hown, hts⟩ (c_B_appC l (n0 := K6.size) (L0 := [48]) (gl g) (Nat.lt_of_le_of_lt hgk.2.1 (by decide)) (Nat.le_of_ble_eq_true rfl)) (cwV 1 hts gL_law_J4_append_cf468 rfl rfl rfl (by decide +kernel) ⟨Nat.le_of_ble_eq_true rfl, Nat.le_of_ble_eq_true rfl⟩) (nx_pV hT hX.1 tx0 hS (aN_sub hn9) hPn (sbP.recv hX.1 hPn)) rfl rfl hl.1 rfl (lv_room (Nat.le_of_ble_eq_true rfl)) dL_law_623 ⟨Nat.le_of_ble_eq_true rfl, Nat.le_of_ble_eq_true rfl⟩) hS (aN_sub hn9) (fun H locs hPn hK hS => ?_)
  have hPn : sbP D cB K6.size a6 [48, gl g] H := hPn
  have hFr : ∀ q : Nat, q < K6.size → H[q]? = K6[q]? := fun q hq => (hK q (Nat.lt_of_lt_of_le hq hSz) (Nat.not_le.mpr hq)).trans (hFr q hq)
  have hSz : K6.size ≤ H.size := hPn.lt
  obtain ⟨r199, v199, hZ199, hL199⟩ := hX.2.2 (199, "s01;door0", [115, 48, 49, 59, 100, 111, 111, 114, 48]) (by decide)
  refine va_ldcS hx hb hown hZ199 dL_law_626 ?_
  refine nv_kGr2 (va_runV (As := [.ref r199]) (rest := [.ref (ADz 0)]) ⟨hx, hb, hml, hown, hts⟩ (c_B_appS l (n0 := K6.size) (r := r199) (v := v199) (L := [115, 48, 49, 59, 100, 111, 111, 114, 48]) (L0 := [48, gl g]) (Nat.le_of_ble_eq_true rfl)) (cwV 1 hts gL_law_J4_append_15ec4 rfl rfl rfl (by decide +kernel) ⟨Nat.le_of_ble_eq_true rfl, Nat.le_of_ble_eq_true rfl⟩) (nx_pV hT hX.1 (tx1 (hL199.go hS (aN_sub hn9))) hS (aN_sub hn9) hPn (sbP.recv hX.1 hPn)) rfl rfl hl.1 rfl (lv_room (Nat.le_of_ble_eq_true rfl)) dL_law_628 ⟨Nat.le_of_ble_eq_true rfl, Nat.le_of_ble_eq_true rfl⟩) hS (aN_sub hn9) (fun H locs hPn hK hS => ?_)
  have hPn : sbP D cB K6.size a6 [48, gl g, 115, 48, 49, 59, 100, 111, 111, 114, 48] H := hPn
  have hFr : ∀ q : Nat, q < K6.size → H[q]? = K6[q]? := fun q hq => (hK q (Nat.lt_of_lt_of_le hq hSz) (Nat.not_le.mpr hq)).trans (hFr q hq)
  have hSz : K6.size ≤ H.size := hPn.lt
  refine lv_iload hx hb dL_law_631 (lv_at hl 1 rfl) ?_
  refine nv_kGr2 (va_runV (As := [.int (nI (gl g))]) (rest := [.ref (ADz 0)]) ⟨hx, hb, hml, hown, hts⟩ (c_B_appC l (n0 := K6.size) (L0 := [48, gl g, 115, 48, 49, 59, 100, 111, 111, 114, 48]) (gl g) (Nat.lt_of_le_of_lt hgk.2.1 (by decide)) (Nat.le_of_ble_eq_true rfl)) (cwV 1 hts gL_law_J4_append_cf468 rfl rfl rfl (by decide +kernel) ⟨Nat.le_of_ble_eq_true rfl, Nat.le_of_ble_eq_true rfl⟩) (nx_pV hT hX.1 tx0 hS (aN_sub hn9) hPn (sbP.recv hX.1 hPn)) rfl rfl hl.1 rfl (lv_room (Nat.le_of_ble_eq_true rfl)) dL_law_633 ⟨Nat.le_of_ble_eq_true rfl, Nat.le_of_ble_eq_true rfl⟩) hS (aN_sub hn9) (fun H locs hPn hK hS => ?_)
  have hPn : sbP D cB K6.size a6 [48, gl g, 115, 48, 49, 59, 100, 111, 111, 114, 48, gl g] H := hPn
  have hFr : ∀ q : Nat, q < K6.size → H[q]? = K6[q]? := fun q hq => (hK q (Nat.lt_of_lt_of_le hq hSz) (Nat.not_le.mpr hq)).trans (hFr q hq)
  have hSz : K6.size ≤ H.size := hPn.lt
  obtain ⟨r201, v201, hZ201, hL201⟩ := hX.2.2 (201, "s12;sillL;set1@0;key0", [115, 49, 50, 59, 115, 105, 108, 108, 76, 59, 115, 101, 116, 49, 64, 48, 59, 107, 101, 121, 48]) (by decide)
  refine va_ldcS hx hb hown hZ201 dL_law_636 ?_
  refine nv_kGr2 (va_runV (As := [.ref r201]) (rest := [.ref (ADz 0)]) ⟨hx, hb, hml, hown, hts⟩ (c_B_appS l (n0 := K6.size) (r := r201) (v := v201) (L := [115, 49, 50, 59, 115, 105, 108, 108, 76, 59, 115, 101, 116, 49, 64, 48, 59, 107, 101, 121, 48]) (L0 := [48, gl g, 115, 48, 49, 59, 100, 111, 111, 114, 48, gl g]) (Nat.le_of_ble_eq_true rfl)) (cwV 1 hts gL_law_J4_append_15ec4 rfl rfl rfl (by decide +kernel) ⟨Nat.le_of_ble_eq_true rfl, Nat.le_of_ble_eq_true rfl⟩) (nx_pV hT hX.1 (tx1 (hL201.go hS (aN_sub hn9))) hS (aN_sub hn9) hPn (sbP.recv hX.1 hPn)) rfl rfl hl.1 rfl (lv_room (Nat.le_of_ble_eq_true rfl)) dL_law_638 ⟨Nat.le_of_ble_eq_true rfl, Nat.le_of_ble_eq_true rfl⟩) hS (aN_sub hn9) (fun H locs hPn hK hS => ?_)
  have hPn : sbP D cB K6.size a6 [48, gl g, 115, 48, 49, 59, 100, 111, 111, 114, 48, gl g, 115, 49, 50, 59, 115, 105, 108, 108, 76, 59, 115, 101, 116, 49, 64, 48, 59, 107, 101, 121, 48] H := hPn
  have hFr : ∀ q : Nat, q < K6.size → H[q]? = K6[q]? := fun q hq => (hK q (Nat.lt_of_lt_of_le hq hSz) (Nat.not_le.mpr hq)).trans (hFr q hq)
  have hSz : K6.size ≤ H.size := hPn.lt
  refine lv_iload hx hb dL_law_641 (lv_at hl 1 rfl) ?_
  refine nv_kGr2 (va_runV (As := [.int (nI (gl g))]) (rest := [.ref (ADz 0)]) ⟨hx, hb, hml, hown, hts⟩ (c_B_appC l (n0 := K6.size) (L0 := [48, gl g, 115, 48, 49, 59, 100, 111, 111, 114, 48, gl g, 115, 49, 50, 59, 115, 105, 108, 108, 76, 59, 115, 101, 116, 49, 64, 48, 59, 107, 101, 121, 48]) (gl g) (Nat.lt_of_le_of_lt hgk.2.1 (by decide)) (Nat.le_of_ble_eq_true rfl)) (cwV 1 hts gL_law_J4_append_cf468 rfl rfl rfl (by decide +kernel) ⟨Nat.le_of_ble_eq_true rfl, Nat.le_of_ble_eq_true rfl⟩) (nx_pV hT hX.1 tx0 hS (aN_sub hn9) hPn (sbP.recv hX.1 hPn)) rfl rfl hl.1 rfl (lv_room (Nat.le_of_ble_eq_true rfl)) dL_law_643 ⟨Nat.le_of_ble_eq_true rfl, Nat.le_of_ble_eq_true rfl⟩) hS (aN_sub hn9) (fun H locs hPn hK hS => ?_)
  have hPn : sbP D cB K6.size a6 [48, gl g, 115, 48, 49, 59, 100, 111, 111, 114, 48, gl g, 115, 49, 50, 59, 115, 105, 108, 108, 76, 59, 115, 101, 116, 49, 64, 48, 59, 107, 101, 121, 48, gl g] H := hPn
  have hFr : ∀ q : Nat, q < K6.size → H[q]? = K6[q]? := fun q hq => (hK q (Nat.lt_of_lt_of_le hq hSz) (Nat.not_le.mpr hq)).trans (hFr q hq)
  have hSz : K6.size ≤ H.size := hPn.lt
  refine nv_kGn (va_runV (As := []) (rest := [.ref (ADz 0)]) ⟨hx, hb, hml, hown, hts⟩ (c_B_toString l (n0 := K6.size) (L0 := [48, gl g, 115, 48, 49, 59, 100, 111, 111, 114, 48, gl g, 115, 49, 50, 59, 115, 105, 108, 108, 76, 59, 115, 101, 116, 49, 64, 48, 59, 107, 101, 121, 48, gl g]) (Nat.le_of_ble_eq_true rfl)) (cwV 0 hts gL_law_J4_toString_0e30d rfl rfl rfl (by decide +kernel) ⟨Nat.le_of_ble_eq_true rfl, Nat.le_of_ble_eq_true rfl⟩) (nx_pV hT hX.1 tx0 hS (aN_sub hn9) hPn (sbP.recv hX.1 hPn)) rfl rfl hl.1 rfl (lv_room (Nat.le_of_ble_eq_true rfl)) dL_law_646 ⟨Nat.le_of_ble_eq_true rfl, Nat.le_of_ble_eq_true rfl⟩) hS (aN_sub hn9) (fun t6 H locs hPn hK hS => ?_)
  have hFr : ∀ q : Nat, q < K6.size → H[q]? = K6[q]? := fun q hq => (hK q (Nat.lt_of_lt_of_le hq hSz) (Nat.not_le.mpr hq)).trans (hFr q hq)
  have hPx := xV_grow hPx (fun q hq _ => hFr q hq)
  have hPz := cW_grow hPz (fun q hq _ => hFr q hq)
  have hst6 : stP D cB K6.size [48, gl g, 115, 48, 49, 59, 100, 111, 111, 114, 48, gl g, 115, 49, 50, 59, 115, 105, 108, 108, 76, 59, 115, 101, 116, 49, 64, 48, 59, 107, 101, 121, 48, gl g] t6 H := hPn
  have hTo6 : okT (tZ g) := okT_tZ g hg
  obtain ⟨u6, hxt6⟩ := tx_made hL197 hT.1.1 hX.1 hst6 (Nat.le_of_ble_eq_true rfl) hTo6 hltz
  have hxt6 : tx (cRg ADz 0 165) (t6, u6, tZ g) s H := hxt6
  refine nv_kNv (vx_runS (As := [.ref (ADz 0), .ref t6]) (rest := []) ⟨hx, hb, hml, hown, hts⟩ (c_L_put l hl9 hIz (k := 0) hTo6 (ty := 4) (Nat.le_of_ble_eq_true rfl)) (va_cwS 2 hts gL_law_L_put rfl rfl rfl (by decide +kernel) ⟨Nat.le_of_ble_eq_true rfl, Nat.le_of_ble_eq_true rfl⟩) (nl_pS hT hX (tx1 hxt6) hS hsz hPz) rfl rfl hl.1 rfl (lv_room (Nat.le_of_ble_eq_true rfl)) dL_law_649 ⟨Nat.le_of_ble_eq_true rfl, Nat.le_of_ble_eq_true rfl⟩) hS hsz (fun H locs hPz hK hS => ?_)
  have hPx := xV_keep hPx hK hzx
  have hPz : cW D cI cC cD cR ADz gNew qZ Hz (iZ g) Le 0 cz 38 0 9 (-1) (-1) (nI 0) H := hPz
  have hFz : lF 35 gNew qZ Hz (iZ g) Le 0 cz 38 0 9 := hFz.wrAll hTo6 (Nat.le_of_ble_eq_true rfl) (Nat.le_of_ble_eq_true rfl)
  obtain ⟨bqz, hGz, h25z, hbkz, hk5z, hchz, hHbz, hhsz, hSvbz, htyz, hIn7z, hlnz, hLez, hwyz⟩ := id hFz
  have hHwz : ∀ j, j < _ → hAt _ j 0 ≤ 8 ∧ hAt _ j 1 ≤ 6 ∧ hAt _ j 2 ≤ 5 := fun j hj => ⟨(hHbz j hj).2.2.1, (hHbz j hj).2.2.2.1, (hHbz j hj).2.2.2.2.1⟩
  have hbbz : bqz + 1 < 2 ^ 20 := by omega
  have hb32z : bqz + 32 < 2 ^ 20 := by omega
  have h13z : bqz < 8192 := by omega
  obtain ⟨m1, m2, m3, m4⟩ := zt_all hg
  refine lv_aload hx hb dL_law_652 (lv_at hl 0 rfl) ?_
  refine nv_kLX (vx_runV (As := []) (rest := []) ⟨hx, hb, hml, hown, hts⟩ (c_X6_read l hl9 (A := cRg ADz 0 165) hGz hIz cRg_self hchz hHwz h25z hb32z htyz hIn7z) (cwV 0 hts gL_law_X6_read rfl rfl rfl (by decide +kernel) ⟨Nat.le_of_ble_eq_true rfl, Nat.le_of_ble_eq_true rfl⟩) (nt_pVn hT hS hsz hPz (va_recv hT.1.1 hPz.1 (ci := 8) (q0 := 0) rfl rfl)) rfl rfl hl.1 rfl (lv_room (Nat.le_of_ble_eq_true rfl)) dL_law_654 ⟨Nat.le_of_ble_eq_true rfl, Nat.le_of_ble_eq_true rfl⟩) hS hsz (fun E ce q9 H1 locs1 h0 hE hP1 hK1 hS1 hcell hv9 hcl => absurd (by rw [if_neg m1, m2, m3]; exact if_neg (by decide)) h0) (fun H locs h0 hPz hK hS => ?_)
  refine nv_to 5 (by rw [if_neg m1, m2, m3]; exact if_neg (by decide)) ?_
  have hPx := xV_keep hPx hK hzx
  have hPz : cW D cI cC cD cR ADz (GS (iZ g) 38 gNew (4 + 1)) qZ (hPush Hz gNew cz) (iZ g) Le 0 (cU cz) 0 0 9 (-1) (-1) (nI 0) H := rdW_ok 4 m1 m2 m3 rfl hPz
  have hFz : lF 36 (GS (iZ g) 38 gNew (4 + 1)) qZ (hPush Hz gNew cz) (iZ g) Le 0 (cU cz) 0 0 9 := rdF_ok 4 m1 m2 m3 rfl hFz (by decide)
  have hg9 : gWf _ _ := (id hFz).choose_spec.1
  have hPz : cW D cI cC cD cR ADz (zT1 g) qZ (hPush Hz gNew cz) (iZ g) Le 0 (cU cz) 0 0 9 (-1) (-1) (nI 0) H := cW_congr hPz hg9.2.2.1 hg9.2.2.2.1 hg9.2.2.2.2.1 (fun j hj => (m4 j hj).symm)
  have hFz : lF 36 (zT1 g) qZ (hPush Hz gNew cz) (iZ g) Le 0 (cU cz) 0 0 9 := lF_congr hFz (fun j hj => (m4 j hj).symm)
  generalize hPush Hz gNew cz = Hz at hFz hPz
  generalize cU cz = cz at hFz hPz
  refine lv_iconst (v := nI 5) hx hb dL_law_657 (by decide) ?_
  refine nv_icmp_ne (tgt := 818) hx hb dL_law_658 (by decide) (by omega) (by omega) (fun c9 => absurd rfl c9) (fun _ => ?_)
  refine lv_aload hx hb dL_law_661 (lv_at hl 0 rfl) ?_
  refine lv_iconst (v := nI 0) hx hb dL_law_663 (by decide) ?_
  refine lv_iconst (v := nI 4) hx hb dL_law_664 (by decide) ?_
  obtain ⟨bqz, hGz, h25z, hbkz, hk5z, hchz, hHbz, hhsz, hSvbz, htyz, hIn7z, hlnz, hLez, hwyz⟩ := id hFz
  have hHwz : ∀ j, j < _ → hAt _ j 0 ≤ 8 ∧ hAt _ j 1 ≤ 6 ∧ hAt _ j 2 ≤ 5 := fun j hj => ⟨(hHbz j hj).2.2.1, (hHbz j hj).2.2.2.1, (hHbz j hj).2.2.2.2.1⟩
  have hbbz : bqz + 1 < 2 ^ 20 := by omega
  have hb32z : bqz + 32 < 2 ^ 20 := by omega
  have h13z : bqz < 8192 := by omega
  refine nv_kLX (vx_runV (As := [.int (nI 0), .int (nI 4)]) (rest := []) ⟨hx, hb, hml, hown, hts⟩ (c_X6_doorOf l hl9 (A := cRg ADz 0 165) hGz hIz cRg_self (nI 0) (nI 4)) (cwV 2 hts gL_law_X6_doorOf rfl rfl rfl (by decide +kernel) ⟨Nat.le_of_ble_eq_true rfl, Nat.le_of_ble_eq_true rfl⟩) (nt_pVn hT hS hsz hPz (va_recv hT.1.1 hPz.1 (ci := 8) (q0 := 0) rfl rfl)) rfl rfl hl.1 rfl (lv_room (Nat.le_of_ble_eq_true rfl)) dL_law_665 ⟨Nat.le_of_ble_eq_true rfl, Nat.le_of_ble_eq_true rfl⟩) hS hsz (fun E ce q9 H1 locs1 h0 hE hP1 hK1 hS1 hcell hv9 hcl => absurd ((if_pos (show iR (nI 0) ((zT1 g) 0) from by rw [show (zT1 g) 0 = 2 from rfl]; decide)).trans (if_pos (by decide))) h0) (fun H locs h0 hPz hK hS => ?_)
  refine nv_to 0 (by rw [if_pos (show iR (nI 0) ((zT1 g) 0) from by rw [show (zT1 g) 0 = 2 from rfl]; decide), if_pos (show iR (nI 4) 11 by decide), tN_nI (k := 0) (by decide), tN_nI (k := 4) (by decide)]; exact congrArg nI (z1_f g hg).1) ?_
  have hPx := xV_keep hPx hK hzx
  refine nv_if_ne (tgt := 818) hx hb dL_law_668 (by decide) (by omega) (fun c9 => absurd c9 (by decide)) (fun _ => ?_)
  refine lv_aload hx hb dL_law_671 (lv_at hl 0 rfl) ?_
  refine lv_iconst (v := nI 1) hx hb dL_law_673 (by decide) ?_
  refine lv_iconst (v := nI 4) hx hb dL_law_674 (by decide) ?_
  refine nv_kLX (vx_runV (As := [.int (nI 1), .int (nI 4)]) (rest := []) ⟨hx, hb, hml, hown, hts⟩ (c_X6_doorOf l hl9 (A := cRg ADz 0 165) hGz hIz cRg_self (nI 1) (nI 4)) (cwV 2 hts gL_law_X6_doorOf rfl rfl rfl (by decide +kernel) ⟨Nat.le_of_ble_eq_true rfl, Nat.le_of_ble_eq_true rfl⟩) (nt_pVn hT hS hsz hPz (va_recv hT.1.1 hPz.1 (ci := 8) (q0 := 0) rfl rfl)) rfl rfl hl.1 rfl (lv_room (Nat.le_of_ble_eq_true rfl)) dL_law_675 ⟨Nat.le_of_ble_eq_true rfl, Nat.le_of_ble_eq_true rfl⟩) hS hsz (fun E ce q9 H1 locs1 h0 hE hP1 hK1 hS1 hcell hv9 hcl => absurd ((if_pos (show iR (nI 1) ((zT1 g) 0) from by rw [show (zT1 g) 0 = 2 from rfl]; decide)).trans (if_pos (by decide))) h0) (fun H locs h0 hPz hK hS => ?_)
  refine nv_to 3 (by rw [if_pos (show iR (nI 1) ((zT1 g) 0) from by rw [show (zT1 g) 0 = 2 from rfl]; decide), if_pos (show iR (nI 4) 11 by decide), tN_nI (k := 1) (by decide), tN_nI (k := 4) (by decide)]; exact congrArg nI (z1_f g hg).2.1) ?_
  have hPx := xV_keep hPx hK hzx
  refine lv_iconst (v := nI 3) hx hb dL_law_678 (by decide) ?_
  refine nv_icmp_ne (tgt := 818) hx hb dL_law_679 (by decide) (by omega) (by omega) (fun c9 => absurd rfl c9) (fun _ => ?_)
  refine lv_aload hx hb dL_law_682 (lv_at hl 0 rfl) ?_
  refine lv_aload hx hb dL_law_684 (lv_at hl 0 rfl) ?_
  refine lv_iconst (v := nI 0) hx hb dL_law_686 (by decide) ?_
  refine nv_kLX (vx_runV (As := [.int (nI 0)]) (rest := [.ref (ADz 0)]) ⟨hx, hb, hml, hown, hts⟩ (c_X6_line l hl9 (A := cRg ADz 0 165) hGz hIz cRg_self (nI 0)) (cwV 1 hts gL_law_X6_line rfl rfl rfl (by decide +kernel) ⟨Nat.le_of_ble_eq_true rfl, Nat.le_of_ble_eq_true rfl⟩) (nt_pVn hT hS hsz hPz (va_recv hT.1.1 hPz.1 (ci := 8) (q0 := 0) rfl rfl)) rfl rfl hl.1 rfl (lv_room (Nat.le_of_ble_eq_true rfl)) dL_law_687 ⟨Nat.le_of_ble_eq_true rfl, Nat.le_of_ble_eq_true rfl⟩) hS hsz (fun E ce q9 H1 locs1 h0 hE hP1 hK1 hS1 hcell hv9 hcl => absurd (if_pos (show iR (nI 0) ((zT1 g) 0) from by rw [show (zT1 g) 0 = 2 from rfl]; decide)) h0) (fun H locs h0 hPz hK hS => ?_)
  refine nv_to 6 (by rw [if_pos (show iR (nI 0) ((zT1 g) 0) from by rw [show (zT1 g) 0 = 2 from rfl]; decide), tN_nI (by decide), (z1_f g hg).2.2.1]; rfl) ?_
  have hPx := xV_keep hPx hK hzx
  simp only [if_pos (show iR (nI 0) ((zT1 g) 0) from by rw [show (zT1 g) 0 = 2 from rfl]; decide), tN_nI (show 0 < 2 ^ 31 by decide), (z1_f g hg).2.2.1] at hPz
  have hPz : cW D cI cC cD cR ADz (zT1 g) qZ Hz (iZ g) (wrL [gl g, 115, 97, 48, 45, 49] Le 0) 0 cz 0 0 6 (-1) (-1) (nI 0) H := hPz
  have hFz : lF 36 (zT1 g) qZ Hz (iZ g) (wrL [gl g, 115, 97, 48, 45, 49] Le 0) 0 cz 0 0 6 := lF_line hFz (T := [gl g, 115, 97, 48, 45, 49]) (Nat.le_of_ble_eq_true rfl) (by intro c hc; simp only [List.mem_cons, List.not_mem_nil, or_false] at hc; have := hgk.2.1; omega)
  rename Heap => K7
  have hltx := xV_lt hPx
  have hltz := cW_lt hPz
  refine va_forget (fun q hq => hS.2.2 q hq) ?_
  have hn9 : s.heap.size ≤ K7.size := hS.1
  refine va_new (D := D) (ci := 9) (C := RJ4) (T := TJ4) (N := 4) (fs := [.null, .int (nI 0), .int (nI 0), .int (nI 0)]) (A := aN K7.size) (H0 := K7) (ws := []) hx hb hts wl_in_wsJ40 tyJ4 tyJ4_ok hown (hts (.classLink RL 91 RJ4) (List.mem_of_getElem? (i := 1165) (by decide +kernel))) (hts (.instantiable RJ4 4) (List.mem_of_getElem? (i := 1166) (by decide +kernel))) (hts (.initialized RJ4) (List.mem_of_getElem? (i := 58) (by decide +kernel))) hX.1.1 (fun k q h => by simp at h) ⟨fun i j p q h => by simp at h, fun k q h => by simp at h⟩ va_S.rf (fun _ h => h) rfl (fun j hj => by rcases (show j = 0 ∨ j = 1 ∨ j = 2 ∨ j = 3 by omega) with rfl | rfl | rfl | rfl <;> rfl) (Nat.le_of_ble_eq_true rfl) (Nat.le_of_ble_eq_true rfl) dL_law_690 (fun a7 H hP9 hD9 hS9 => ?_)
  have hPn : va_P D vwCl [(a7, .inr (9, [.null, .int (nI 0), .int (nI 0), .int (nI 0)]))] H := hP9
  have ha9 : K7.size ≤ a7 := hD9.2 0 _ rfl
  have hFr : ∀ q : Nat, q < K7.size → H[q]? = K7[q]? := fun q hq => hS9.2.1 q hq (Nat.not_le.mpr hq)
  have hSz : K7.size ≤ H.size := Nat.le_trans ha9 (Nat.le_of_lt (vx_lt hPn (k := 0) rfl))
  have hS : va_S (aN s.heap.size) s.heap H [] := hS.none.trans hS9 (aN_sub hn9)
  refine lv_dup hx hb dL_law_693 rfl ?_
  refine nv_kGv (va_runI (As := []) (rest := [.ref a7, .int (nI 6), .ref (ADz 0)]) ⟨hx, hb, hml, hown, hts⟩ (c_B_init l (n0 := K7.size) ha9) ⟨callB_of 0 hts gL_law_J4_init_da8c8 rfl rfl rfl (hts (.initialized RJ4) (List.mem_of_getElem? (i := 58) (by decide +kernel))) (hts (.methodLink RL 93 yJ4_init_da8c8) (List.mem_of_getElem? (i := 1167) (by decide +kernel))) (by decide +kernel) ⟨Nat.le_of_ble_eq_true rfl, Nat.le_of_ble_eq_true rfl⟩, rfl, (hts (.instanceMethod yJ4_init_da8c8) (List.mem_of_getElem? (i := 1168) (by decide +kernel)))⟩ (nx_pS hT hX.1 tx0 hS (aN_sub hn9) hPn) rfl rfl hl.1 rfl (lv_room (Nat.le_of_ble_eq_true rfl)) dL_law_694 ⟨Nat.le_of_ble_eq_true rfl, Nat.le_of_ble_eq_true rfl⟩) hS (aN_sub hn9) (fun H locs hPn hK hS => ?_)
  have hFr : ∀ q : Nat, q < K7.size → H[q]? = K7[q]? := fun q hq => (hK q (Nat.lt_of_lt_of_le hq hSz) (Nat.not_le.mpr hq)).trans (hFr q hq)
  have hSz : K7.size ≤ H.size := hPn.lt
  refine lv_iload hx hb dL_law_697 (lv_at hl 1 rfl) ?_
  refine nv_kGr2 (va_runV (As := [.int (nI (gl g))]) (rest := [.int (nI 6), .ref (ADz 0)]) ⟨hx, hb, hml, hown, hts⟩ (c_B_appC l (n0 := K7.size) (L0 := []) (gl g) (Nat.lt_of_le_of_lt hgk.2.1 (by decide)) (Nat.le_of_ble_eq_true rfl)) (cwV 1 hts gL_law_J4_append_cf468 rfl rfl rfl (by decide +kernel) ⟨Nat.le_of_ble_eq_true rfl, Nat.le_of_ble_eq_true rfl⟩) (nx_pV hT hX.1 tx0 hS (aN_sub hn9) hPn (sbP.recv hX.1 hPn)) rfl rfl hl.1 rfl (lv_room (Nat.le_of_ble_eq_true rfl)) dL_law_699 ⟨Nat.le_of_ble_eq_true rfl, Nat.le_of_ble_eq_true rfl⟩) hS (aN_sub hn9) (fun H locs hPn hK hS => ?_)
  have hPn : sbP D cB K7.size a7 [gl g] H := hPn
  have hFr : ∀ q : Nat, q < K7.size → H[q]? = K7[q]? := fun q hq => (hK q (Nat.lt_of_lt_of_le hq hSz) (Nat.not_le.mpr hq)).trans (hFr q hq)
  have hSz : K7.size ≤ H.size := hPn.lt
  obtain ⟨r206, v206, hZ206, hL206⟩ := hX.2.2 (206, "sa0-1", [115, 97, 48, 45, 49]) (by decide)
  refine va_ldcS hx hb hown hZ206 dL_law_702 ?_
  refine nv_kGr2 (va_runV (As := [.ref r206]) (rest := [.int (nI 6), .ref (ADz 0)]) ⟨hx, hb, hml, hown, hts⟩ (c_B_appS l (n0 := K7.size) (r := r206) (v := v206) (L := [115, 97, 48, 45, 49]) (L0 := [gl g]) (Nat.le_of_ble_eq_true rfl)) (cwV 1 hts gL_law_J4_append_15ec4 rfl rfl rfl (by decide +kernel) ⟨Nat.le_of_ble_eq_true rfl, Nat.le_of_ble_eq_true rfl⟩) (nx_pV hT hX.1 (tx1 (hL206.go hS (aN_sub hn9))) hS (aN_sub hn9) hPn (sbP.recv hX.1 hPn)) rfl rfl hl.1 rfl (lv_room (Nat.le_of_ble_eq_true rfl)) dL_law_704 ⟨Nat.le_of_ble_eq_true rfl, Nat.le_of_ble_eq_true rfl⟩) hS (aN_sub hn9) (fun H locs hPn hK hS => ?_)
  have hPn : sbP D cB K7.size a7 [gl g, 115, 97, 48, 45, 49] H := hPn
  have hFr : ∀ q : Nat, q < K7.size → H[q]? = K7[q]? := fun q hq => (hK q (Nat.lt_of_lt_of_le hq hSz) (Nat.not_le.mpr hq)).trans (hFr q hq)
  have hSz : K7.size ≤ H.size := hPn.lt
  refine nv_kGn (va_runV (As := []) (rest := [.int (nI 6), .ref (ADz 0)]) ⟨hx, hb, hml, hown, hts⟩ (c_B_toString l (n0 := K7.size) (L0 := [gl g, 115, 97, 48, 45, 49]) (Nat.le_of_ble_eq_true rfl)) (cwV 0 hts gL_law_J4_toString_0e30d rfl rfl rfl (by decide +kernel) ⟨Nat.le_of_ble_eq_true rfl, Nat.le_of_ble_eq_true rfl⟩) (nx_pV hT hX.1 tx0 hS (aN_sub hn9) hPn (sbP.recv hX.1 hPn)) rfl rfl hl.1 rfl (lv_room (Nat.le_of_ble_eq_true rfl)) dL_law_707 ⟨Nat.le_of_ble_eq_true rfl, Nat.le_of_ble_eq_true rfl⟩) hS (aN_sub hn9) (fun t7 H locs hPn hK hS => ?_)
  have hFr : ∀ q : Nat, q < K7.size → H[q]? = K7[q]? := fun q hq => (hK q (Nat.lt_of_lt_of_le hq hSz) (Nat.not_le.mpr hq)).trans (hFr q hq)
  have hPx := xV_grow hPx (fun q hq _ => hFr q hq)
  have hPz := cW_grow hPz (fun q hq _ => hFr q hq)
  have hst7 : stP D cB K7.size [gl g, 115, 97, 48, 45, 49] t7 H := hPn
  have hTo7 : okT ([gl g, 115, 97, 48, 45, 49]) := (by intro c hc; simp only [List.mem_cons, List.not_mem_nil, or_false] at hc; have := hgk.1; have := hgk.2.1; omega)
  obtain ⟨u7, hxt7⟩ := tx_made hL206 hT.1.1 hX.1 hst7 (Nat.le_of_ble_eq_true rfl) hTo7 hltz
  have hxt7 : tx (cRg ADz 0 165) (t7, u7, [gl g, 115, 97, 48, 45, 49]) s H := hxt7
  refine nv_kN (vx_runS (As := [.ref (ADz 0), .int (nI 6), .ref t7]) (rest := []) ⟨hx, hb, hml, hown, hts⟩ (c_L_isLine l hl9 hIz hFz (T := [gl g, 115, 97, 48, 45, 49]) (Nat.le_of_ble_eq_true rfl) rfl (fun j hj => wrL_get _ _ j hj)) (va_cwS 3 hts gL_law_L_isLine rfl rfl rfl (by decide +kernel) ⟨Nat.le_of_ble_eq_true rfl, Nat.le_of_ble_eq_true rfl⟩) (nl_pS hT hX (tx1 hxt7) hS hsz hPz) rfl rfl hl.1 rfl (lv_room (Nat.le_of_ble_eq_true rfl)) dL_law_710 ⟨Nat.le_of_ble_eq_true rfl, Nat.le_of_ble_eq_true rfl⟩) hS hsz (fun H locs hPz hK hS => ?_)
  have hPx := xV_keep hPx hK hzx
  refine nv_if_eq (tgt := 818) hx hb dL_law_713 (by decide) (by omega) (fun c9 => absurd c9 (by decide)) (fun _ => ?_)
  refine lv_aload hx hb dL_law_716 (lv_at hl 0 rfl) ?_
  refine lv_aload hx hb dL_law_718 (lv_at hl 0 rfl) ?_
  refine lv_iconst (v := nI 1) hx hb dL_law_720 (by decide) ?_
  obtain ⟨bqz, hGz, h25z, hbkz, hk5z, hchz, hHbz, hhsz, hSvbz, htyz, hIn7z, hlnz, hLez, hwyz⟩ := id hFz
  have hHwz : ∀ j, j < _ → hAt _ j 0 ≤ 8 ∧ hAt _ j 1 ≤ 6 ∧ hAt _ j 2 ≤ 5 := fun j hj => ⟨(hHbz j hj).2.2.1, (hHbz j hj).2.2.2.1, (hHbz j hj).2.2.2.2.1⟩
  have hbbz : bqz + 1 < 2 ^ 20 := by omega
  have hb32z : bqz + 32 < 2 ^ 20 := by omega
  have h13z : bqz < 8192 := by omega
  refine nv_kLX (vx_runV (As := [.int (nI 1)]) (rest := [.ref (ADz 0)]) ⟨hx, hb, hml, hown, hts⟩ (c_X6_line l hl9 (A := cRg ADz 0 165) hGz hIz cRg_self (nI 1)) (cwV 1 hts gL_law_X6_line rfl rfl rfl (by decide +kernel) ⟨Nat.le_of_ble_eq_true rfl, Nat.le_of_ble_eq_true rfl⟩) (nt_pVn hT hS hsz hPz (va_recv hT.1.1 hPz.1 (ci := 8) (q0 := 0) rfl rfl)) rfl rfl hl.1 rfl (lv_room (Nat.le_of_ble_eq_true rfl)) dL_law_721 ⟨Nat.le_of_ble_eq_true rfl, Nat.le_of_ble_eq_true rfl⟩) hS hsz (fun E ce q9 H1 locs1 h0 hE hP1 hK1 hS1 hcell hv9 hcl => absurd (if_pos (show iR (nI 1) ((zT1 g) 0) from by rw [show (zT1 g) 0 = 2 from rfl]; decide)) h0) (fun H locs h0 hPz hK hS => ?_)
  refine nv_to 8 (by rw [if_pos (show iR (nI 1) ((zT1 g) 0) from by rw [show (zT1 g) 0 = 2 from rfl]; decide), tN_nI (by decide), (z1_f g hg).2.2.2.1]; rfl) ?_
  have hPx := xV_keep hPx hK hzx
  simp only [if_pos (show iR (nI 1) ((zT1 g) 0) from by rw [show (zT1 g) 0 = 2 from rfl]; decide), tN_nI (show 1 < 2 ^ 31 by decide), (z1_f g hg).2.2.2.1] at hPz
  have hPz : cW D cI cC cD cR ADz (zT1 g) qZ Hz (iZ g) (wrL [gl g, 115, 101, 49, 45, 50, 64, 48] (wrL [gl g, 115, 97, 48, 45, 49] Le 0) 0) 0 cz 0 0 8 (-1) (-1) (nI 0) H := hPz
  have hFz : lF 36 (zT1 g) qZ Hz (iZ g) (wrL [gl g, 115, 101, 49, 45, 50, 64, 48] (wrL [gl g, 115, 97, 48, 45, 49] Le 0) 0) 0 cz 0 0 8 := lF_line hFz (T := [gl g, 115, 101, 49, 45, 50, 64, 48]) (Nat.le_of_ble_eq_true rfl) (by intro c hc; simp only [List.mem_cons, List.not_mem_nil, or_false] at hc; have := hgk.2.1; omega)
  rename Heap => K8
  have hltx := xV_lt hPx
  have hltz := cW_lt hPz
  refine va_forget (fun q hq => hS.2.2 q hq) ?_
  have hn9 : s.heap.size ≤ K8.size := hS.1
  refine va_new (D := D) (ci := 9) (C := RJ4) (T := TJ4) (N := 4) (fs := [.null, .int (nI 0), .int (nI 0), .int (nI 0)]) (A := aN K8.size) (H0 := K8) (ws := []) hx hb hts wl_in_wsJ40 tyJ4 tyJ4_ok hown (hts (.classLink RL 91 RJ4) (List.mem_of_getElem? (i := 1165) (by decide +kernel))) (hts (.instantiable RJ4 4) (List.mem_of_getElem? (i := 1166) (by decide +kernel))) (hts (.initialized RJ4) (List.mem_of_getElem? (i := 58) (by decide +kernel))) hX.1.1 (fun k q h => by simp at h) ⟨fun i j p q h => by simp at h, fun k q h => by simp at h⟩ va_S.rf (fun _ h => h) rfl (fun j hj => by rcases (show j = 0 ∨ j = 1 ∨ j = 2 ∨ j = 3 by omega) with rfl | rfl | rfl | rfl <;> rfl) (Nat.le_of_ble_eq_true rfl) (Nat.le_of_ble_eq_true rfl) dL_law_724 (fun a8 H hP9 hD9 hS9 => ?_)
  have hPn : va_P D vwCl [(a8, .inr (9, [.null, .int (nI 0), .int (nI 0), .int (nI 0)]))] H := hP9
  have ha9 : K8.size ≤ a8 := hD9.2 0 _ rfl
  have hFr : ∀ q : Nat, q < K8.size → H[q]? = K8[q]? := fun q hq => hS9.2.1 q hq (Nat.not_le.mpr hq)
  have hSz : K8.size ≤ H.size := Nat.le_trans ha9 (Nat.le_of_lt (vx_lt hPn (k := 0) rfl))
  have hS : va_S (aN s.heap.size) s.heap H [] := hS.none.trans hS9 (aN_sub hn9)
  refine lv_dup hx hb dL_law_727 rfl ?_
  refine nv_kGv (va_runI (As := []) (rest := [.ref a8, .int (nI 8), .ref (ADz 0)]) ⟨hx, hb, hml, hown, hts⟩ (c_B_init l (n0 := K8.size) ha9) ⟨callB_of 0 hts gL_law_J4_init_da8c8 rfl rfl rfl (hts (.initialized RJ4) (List.mem_of_getElem? (i := 58) (by decide +kernel))) (hts (.methodLink RL 93 yJ4_init_da8c8) (List.mem_of_getElem? (i := 1167) (by decide +kernel))) (by decide +kernel) ⟨Nat.le_of_ble_eq_true rfl, Nat.le_of_ble_eq_true rfl⟩, rfl, (hts (.instanceMethod yJ4_init_da8c8) (List.mem_of_getElem? (i := 1168) (by decide +kernel)))⟩ (nx_pS hT hX.1 tx0 hS (aN_sub hn9) hPn) rfl rfl hl.1 rfl (lv_room (Nat.le_of_ble_eq_true rfl)) dL_law_728 ⟨Nat.le_of_ble_eq_true rfl, Nat.le_of_ble_eq_true rfl⟩) hS (aN_sub hn9) (fun H locs hPn hK hS => ?_)
  have hFr : ∀ q : Nat, q < K8.size → H[q]? = K8[q]? := fun q hq => (hK q (Nat.lt_of_lt_of_le hq hSz) (Nat.not_le.mpr hq)).trans (hFr q hq)
  have hSz : K8.size ≤ H.size := hPn.lt
  refine lv_iload hx hb dL_law_731 (lv_at hl 1 rfl) ?_
  refine nv_kGr2 (va_runV (As := [.int (nI (gl g))]) (rest := [.int (nI 8), .ref (ADz 0)]) ⟨hx, hb, hml, hown, hts⟩ (c_B_appC l (n0 := K8.size) (L0 := []) (gl g) (Nat.lt_of_le_of_lt hgk.2.1 (by decide)) (Nat.le_of_ble_eq_true rfl)) (cwV 1 hts gL_law_J4_append_cf468 rfl rfl rfl (by decide +kernel) ⟨Nat.le_of_ble_eq_true rfl, Nat.le_of_ble_eq_true rfl⟩) (nx_pV hT hX.1 tx0 hS (aN_sub hn9) hPn (sbP.recv hX.1 hPn)) rfl rfl hl.1 rfl (lv_room (Nat.le_of_ble_eq_true rfl)) dL_law_733 ⟨Nat.le_of_ble_eq_true rfl, Nat.le_of_ble_eq_true rfl⟩) hS (aN_sub hn9) (fun H locs hPn hK hS => ?_)
  have hPn : sbP D cB K8.size a8 [gl g] H := hPn
  have hFr : ∀ q : Nat, q < K8.size → H[q]? = K8[q]? := fun q hq => (hK q (Nat.lt_of_lt_of_le hq hSz) (Nat.not_le.mpr hq)).trans (hFr q hq)
  have hSz : K8.size ≤ H.size := hPn.lt
  obtain ⟨r208, v208, hZ208, hL208⟩ := hX.2.2 (208, "se1-2@0", [115, 101, 49, 45, 50, 64, 48]) (by decide)
  refine va_ldcS hx hb hown hZ208 dL_law_736 ?_
  refine nv_kGr2 (va_runV (As := [.ref r208]) (rest := [.int (nI 8), .ref (ADz 0)]) ⟨hx, hb, hml, hown, hts⟩ (c_B_appS l (n0 := K8.size) (r := r208) (v := v208) (L := [115, 101, 49, 45, 50, 64, 48]) (L0 := [gl g]) (Nat.le_of_ble_eq_true rfl)) (cwV 1 hts gL_law_J4_append_15ec4 rfl rfl rfl (by decide +kernel) ⟨Nat.le_of_ble_eq_true rfl, Nat.le_of_ble_eq_true rfl⟩) (nx_pV hT hX.1 (tx1 (hL208.go hS (aN_sub hn9))) hS (aN_sub hn9) hPn (sbP.recv hX.1 hPn)) rfl rfl hl.1 rfl (lv_room (Nat.le_of_ble_eq_true rfl)) dL_law_738 ⟨Nat.le_of_ble_eq_true rfl, Nat.le_of_ble_eq_true rfl⟩) hS (aN_sub hn9) (fun H locs hPn hK hS => ?_)
  have hPn : sbP D cB K8.size a8 [gl g, 115, 101, 49, 45, 50, 64, 48] H := hPn
  have hFr : ∀ q : Nat, q < K8.size → H[q]? = K8[q]? := fun q hq => (hK q (Nat.lt_of_lt_of_le hq hSz) (Nat.not_le.mpr hq)).trans (hFr q hq)
  have hSz : K8.size ≤ H.size := hPn.lt
  refine nv_kGn (va_runV (As := []) (rest := [.int (nI 8), .ref (ADz 0)]) ⟨hx, hb, hml, hown, hts⟩ (c_B_toString l (n0 := K8.size) (L0 := [gl g, 115, 101, 49, 45, 50, 64, 48]) (Nat.le_of_ble_eq_true rfl)) (cwV 0 hts gL_law_J4_toString_0e30d rfl rfl rfl (by decide +kernel) ⟨Nat.le_of_ble_eq_true rfl, Nat.le_of_ble_eq_true rfl⟩) (nx_pV hT hX.1 tx0 hS (aN_sub hn9) hPn (sbP.recv hX.1 hPn)) rfl rfl hl.1 rfl (lv_room (Nat.le_of_ble_eq_true rfl)) dL_law_741 ⟨Nat.le_of_ble_eq_true rfl, Nat.le_of_ble_eq_true rfl⟩) hS (aN_sub hn9) (fun t8 H locs hPn hK hS => ?_)
  have hFr : ∀ q : Nat, q < K8.size → H[q]? = K8[q]? := fun q hq => (hK q (Nat.lt_of_lt_of_le hq hSz) (Nat.not_le.mpr hq)).trans (hFr q hq)
  have hPx := xV_grow hPx (fun q hq _ => hFr q hq)
  have hPz := cW_grow hPz (fun q hq _ => hFr q hq)
  have hst8 : stP D cB K8.size [gl g, 115, 101, 49, 45, 50, 64, 48] t8 H := hPn
  have hTo8 : okT ([gl g, 115, 101, 49, 45, 50, 64, 48]) := (by intro c hc; simp only [List.mem_cons, List.not_mem_nil, or_false] at hc; have := hgk.1; have := hgk.2.1; omega)
  obtain ⟨u8, hxt8⟩ := tx_made hL208 hT.1.1 hX.1 hst8 (Nat.le_of_ble_eq_true rfl) hTo8 hltz
  have hxt8 : tx (cRg ADz 0 165) (t8, u8, [gl g, 115, 101, 49, 45, 50, 64, 48]) s H := hxt8
  refine nv_kN (vx_runS (As := [.ref (ADz 0), .int (nI 8), .ref t8]) (rest := []) ⟨hx, hb, hml, hown, hts⟩ (c_L_isLine l hl9 hIz hFz (T := [gl g, 115, 101, 49, 45, 50, 64, 48]) (Nat.le_of_ble_eq_true rfl) rfl (fun j hj => wrL_get _ _ j hj)) (va_cwS 3 hts gL_law_L_isLine rfl rfl rfl (by decide +kernel) ⟨Nat.le_of_ble_eq_true rfl, Nat.le_of_ble_eq_true rfl⟩) (nl_pS hT hX (tx1 hxt8) hS hsz hPz) rfl rfl hl.1 rfl (lv_room (Nat.le_of_ble_eq_true rfl)) dL_law_744 ⟨Nat.le_of_ble_eq_true rfl, Nat.le_of_ble_eq_true rfl⟩) hS hsz (fun H locs hPz hK hS => ?_)
  have hPx := xV_keep hPx hK hzx
  refine nv_if_eq (tgt := 818) hx hb dL_law_747 (by decide) (by omega) (fun c9 => absurd c9 (by decide)) (fun _ => ?_)
  refine lv_aload hx hb dL_law_750 (lv_at hl 0 rfl) ?_
  refine lv_iconst (v := nI 0) hx hb dL_law_752 (by decide) ?_
  refine lv_iconst (v := nI 1) hx hb dL_law_753 (by decide) ?_
  refine lv_iconst (v := nI 0) hx hb dL_law_754 (by decide) ?_
  obtain ⟨bqz, hGz, h25z, hbkz, hk5z, hchz, hHbz, hhsz, hSvbz, htyz, hIn7z, hlnz, hLez, hwyz⟩ := id hFz
  have hHwz : ∀ j, j < _ → hAt _ j 0 ≤ 8 ∧ hAt _ j 1 ≤ 6 ∧ hAt _ j 2 ≤ 5 := fun j hj => ⟨(hHbz j hj).2.2.1, (hHbz j hj).2.2.2.1, (hHbz j hj).2.2.2.2.1⟩
  have hbbz : bqz + 1 < 2 ^ 20 := by omega
  have hb32z : bqz + 32 < 2 ^ 20 := by omega
  have h13z : bqz < 8192 := by omega
  refine nv_kLX (vx_runV (As := [.int (nI 0), .int (nI 1), .int (nI 0)]) (rest := []) ⟨hx, hb, hml, hown, hts⟩ (c_X6_areAlike l hl9 (A := cRg ADz 0 165) hGz hIz cRg_self (nI 0) (nI 1) 0 (by decide)) (cwV 3 hts gL_law_X6_areAlike rfl rfl rfl (by decide +kernel) ⟨Nat.le_of_ble_eq_true rfl, Nat.le_of_ble_eq_true rfl⟩) (nt_pVn hT hS hsz hPz (va_recv hT.1.1 hPz.1 (ci := 8) (q0 := 0) rfl rfl)) rfl rfl hl.1 rfl (lv_room (Nat.le_of_ble_eq_true rfl)) dL_law_755 ⟨Nat.le_of_ble_eq_true rfl, Nat.le_of_ble_eq_true rfl⟩) hS hsz (fun E ce q9 H1 locs1 h0 hE hP1 hK1 hS1 hcell hv9 hcl => absurd (if_pos ⟨(show iR (nI 0) ((zT1 g) 0) from by rw [show (zT1 g) 0 = 2 from rfl]; decide), (show iR (nI 1) ((zT1 g) 0) from by rw [show (zT1 g) 0 = 2 from rfl]; decide)⟩) h0) (fun H locs h0 hPz hK hS => ?_)
  refine nv_to 0 (by rw [bI_f (fun q => (z1_q g hg).1 (by have q2 := q.2; rw [tN_nI (k := 0) (by decide), tN_nI (k := 1) (by decide)] at q2; exact q2))]) ?_
  have hPx := xV_keep hPx hK hzx
  refine nv_if_ne (tgt := 818) hx hb dL_law_758 (by decide) (by omega) (fun c9 => absurd c9 (by decide)) (fun _ => ?_)
  refine lv_aload hx hb dL_law_761 (lv_at hl 0 rfl) ?_
  refine lv_iconst (v := nI 0) hx hb dL_law_763 (by decide) ?_
  refine nv_kLX (vx_runV (As := [.int (nI 0)]) (rest := []) ⟨hx, hb, hml, hown, hts⟩ (c_X6_couldBe l hl9 (A := cRg ADz 0 165) hGz hIz cRg_self (nI 0)) (cwV 1 hts gL_law_X6_couldBe rfl rfl rfl (by decide +kernel) ⟨Nat.le_of_ble_eq_true rfl, Nat.le_of_ble_eq_true rfl⟩) (nt_pVn hT hS hsz hPz (va_recv hT.1.1 hPz.1 (ci := 8) (q0 := 0) rfl rfl)) rfl rfl hl.1 rfl (lv_room (Nat.le_of_ble_eq_true rfl)) dL_law_764 ⟨Nat.le_of_ble_eq_true rfl, Nat.le_of_ble_eq_true rfl⟩) hS hsz (fun E ce q9 H1 locs1 h0 hE hP1 hK1 hS1 hcell hv9 hcl => absurd (if_pos (show iR (nI 0) ((zT1 g) 0) from by rw [show (zT1 g) 0 = 2 from rfl]; decide)) h0) (fun H locs h0 hPz hK hS => ?_)
  refine nv_to 1 (by rw [if_pos (show iR (nI 0) ((zT1 g) 0) from by rw [show (zT1 g) 0 = 2 from rfl]; decide), tN_nI (by decide), (z1_q g hg).2.1]) ?_
  have hPx := xV_keep hPx hK hzx
  refine lv_iconst (v := nI 1) hx hb dL_law_767 (by decide) ?_
  refine nv_icmp_ne (tgt := 818) hx hb dL_law_768 (by decide) (by omega) (by omega) (fun c9 => absurd rfl c9) (fun _ => ?_)
  refine lv_aload hx hb dL_law_771 (lv_at hl 0 rfl) ?_
  refine lv_iconst (v := nI 1) hx hb dL_law_773 (by decide) ?_
  refine nv_kLX (vx_runV (As := [.int (nI 1)]) (rest := []) ⟨hx, hb, hml, hown, hts⟩ (c_X6_twins l hl9 (A := cRg ADz 0 165) hGz hIz cRg_self (nI 1)) (cwV 1 hts gL_law_X6_twins rfl rfl rfl (by decide +kernel) ⟨Nat.le_of_ble_eq_true rfl, Nat.le_of_ble_eq_true rfl⟩) (nt_pVn hT hS hsz hPz (va_recv hT.1.1 hPz.1 (ci := 8) (q0 := 0) rfl rfl)) rfl rfl hl.1 rfl (lv_room (Nat.le_of_ble_eq_true rfl)) dL_law_774 ⟨Nat.le_of_ble_eq_true rfl, Nat.le_of_ble_eq_true rfl⟩) hS hsz (fun E ce q9 H1 locs1 h0 hE hP1 hK1 hS1 hcell hv9 hcl => absurd (if_pos (show iR (nI 1) ((zT1 g) 0) from by rw [show (zT1 g) 0 = 2 from rfl]; decide)) h0) (fun H locs h0 hPz hK hS => ?_)
  refine nv_to 2 (by rw [if_pos (show iR (nI 1) ((zT1 g) 0) from by rw [show (zT1 g) 0 = 2 from rfl]; decide), tN_nI (by decide), (z1_q g hg).2.2.1]) ?_
  have hPx := xV_keep hPx hK hzx
  refine lv_iconst (v := nI 2) hx hb dL_law_777 (by decide) ?_
  refine nv_icmp_ne (tgt := 818) hx hb dL_law_778 (by decide) (by omega) (by omega) (fun c9 => absurd rfl c9) (fun _ => ?_)
  refine lv_aload hx hb dL_law_781 (lv_at hl 0 rfl) ?_
  refine lv_iconst (v := nI 0) hx hb dL_law_783 (by decide) ?_
  refine nv_kLX (vx_runV (As := [.int (nI 0)]) (rest := []) ⟨hx, hb, hml, hown, hts⟩ (c_X6_keysFor l hl9 (A := cRg ADz 0 165) hGz hIz cRg_self (nI 0)) (cwV 1 hts gL_law_X6_keysFor rfl rfl rfl (by decide +kernel) ⟨Nat.le_of_ble_eq_true rfl, Nat.le_of_ble_eq_true rfl⟩) (nt_pVn hT hS hsz hPz (va_recv hT.1.1 hPz.1 (ci := 8) (q0 := 0) rfl rfl)) rfl rfl hl.1 rfl (lv_room (Nat.le_of_ble_eq_true rfl)) dL_law_784 ⟨Nat.le_of_ble_eq_true rfl, Nat.le_of_ble_eq_true rfl⟩) hS hsz (fun E ce q9 H1 locs1 h0 hE hP1 hK1 hS1 hcell hv9 hcl => absurd (if_pos (show iR (nI 0) ((zT1 g) 0) from by rw [show (zT1 g) 0 = 2 from rfl]; decide)) h0) (fun H locs h0 hPz hK hS => ?_)
  refine nv_to 1 (by rw [if_pos (show iR (nI 0) ((zT1 g) 0) from by rw [show (zT1 g) 0 = 2 from rfl]; decide), tN_nI (by decide), (z1_q g hg).2.2.2.1]) ?_
  have hPx := xV_keep hPx hK hzx
  refine lv_iconst (v := nI 1) hx hb dL_law_787 (by decide) ?_
  refine nv_icmp_ne (tgt := 818) hx hb dL_law_788 (by decide) (by omega) (by omega) (fun c9 => absurd rfl c9) (fun _ => ?_)
  refine lv_aload hx hb dL_law_791 (lv_at hl 0 rfl) ?_
  refine lv_iconst (v := nI 0) hx hb dL_law_793 (by decide) ?_
  refine lv_iload hx hb dL_law_794 (lv_at hl 3 rfl) ?_
  refine lv_iconst (v := nI 0) hx hb dL_law_796 (by decide) ?_
  refine lv_iconst (v := nI 0) hx hb dL_law_797 (by decide) ?_
  refine nv_kLX (vx_runV (As := [.int (nI 0), .int (nI g), .int (nI 0), .int (nI 0)]) (rest := []) ⟨hx, hb, hml, hown, hts⟩ (c_X6_agrees l hl9 (A := cRg ADz 0 165) hGz hIz cRg_self (nI 0) (nI g) 0 (nI 0) (by decide)) (cwV 4 hts gL_law_X6_agrees rfl rfl rfl (by decide +kernel) ⟨Nat.le_of_ble_eq_true rfl, Nat.le_of_ble_eq_true rfl⟩) (nt_pVn hT hS hsz hPz (va_recv hT.1.1 hPz.1 (ci := 8) (q0 := 0) rfl rfl)) rfl rfl hl.1 rfl (lv_room (Nat.le_of_ble_eq_true rfl)) dL_law_798 ⟨Nat.le_of_ble_eq_true rfl, Nat.le_of_ble_eq_true rfl⟩) hS hsz (fun E ce q9 H1 locs1 h0 hE hP1 hK1 hS1 hcell hv9 hcl => absurd ((if_pos (show iR (nI 0) ((zT1 g) 0) from by rw [show (zT1 g) 0 = 2 from rfl]; decide)).trans (if_pos ⟨iR_nI hg (by decide), by decide⟩)) h0) (fun H locs h0 hPz hK hS => ?_)
  refine nv_to 3 (by rw [if_pos (show iR (nI 0) ((zT1 g) 0) from by rw [show (zT1 g) 0 = 2 from rfl]; decide), if_pos ⟨iR_nI hg (by decide), by decide⟩, tN_nI (k := 0) (by decide), tN_nI (k := g) (by omega), (z1_q g hg).2.2.2.2.1]) ?_
  have hPx := xV_keep hPx hK hzx
  refine lv_iconst (v := nI 3) hx hb dL_law_801 (by decide) ?_
  refine nv_icmp_ne (tgt := 818) hx hb dL_law_802 (by decide) (by omega) (by omega) (fun c9 => absurd rfl c9) (fun _ => ?_)
  refine lv_aload hx hb dL_law_805 (lv_at hl 0 rfl) ?_
  refine lv_iconst (v := nI 0) hx hb dL_law_807 (by decide) ?_
  refine lv_iload hx hb dL_law_808 (lv_at hl 2 rfl) ?_
  refine lv_iconst (v := nI 1) hx hb dL_law_810 (by decide) ?_
  refine lv_iconst (v := nI 3) hx hb dL_law_811 (by decide) ?_
  refine nv_kLX (vx_runV (As := [.int (nI 0), .int (nI (gH g)), .int (nI 1), .int (nI 3)]) (rest := []) ⟨hx, hb, hml, hown, hts⟩ (c_X6_agrees l hl9 (A := cRg ADz 0 165) hGz hIz cRg_self (nI 0) (nI (gH g)) 1 (nI 3) (by decide)) (cwV 4 hts gL_law_X6_agrees rfl rfl rfl (by decide +kernel) ⟨Nat.le_of_ble_eq_true rfl, Nat.le_of_ble_eq_true rfl⟩) (nt_pVn hT hS hsz hPz (va_recv hT.1.1 hPz.1 (ci := 8) (q0 := 0) rfl rfl)) rfl rfl hl.1 rfl (lv_room (Nat.le_of_ble_eq_true rfl)) dL_law_812 ⟨Nat.le_of_ble_eq_true rfl, Nat.le_of_ble_eq_true rfl⟩) hS hsz (fun E ce q9 H1 locs1 h0 hE hP1 hK1 hS1 hcell hv9 hcl => absurd ((if_pos (show iR (nI 0) ((zT1 g) 0) from by rw [show (zT1 g) 0 = 2 from rfl]; decide)).trans (if_pos ⟨iR_nI hgh (by decide), by decide⟩)) h0) (fun H locs h0 hPz hK hS => ?_)
  refine nv_to 0 (by rw [if_pos (show iR (nI 0) ((zT1 g) 0) from by rw [show (zT1 g) 0 = 2 from rfl]; decide), if_pos ⟨iR_nI hgh (by decide), by decide⟩, tN_nI (k := 0) (by decide), tN_nI (k := gH g) (by omega), tN_nI (k := 3) (by decide), (z1_q g hg).2.2.2.2.2]) ?_
  have hPx := xV_keep hPx hK hzx
  refine nv_if_eq (tgt := 820) hx hb dL_law_815 (by decide) (by omega) (fun _ => ?_) (fun c9 => absurd (by decide) c9)
  refine W.widen (k := 2000 * 8) (n := 20000 * 8) (Nat.le_of_ble_eq_true rfl) (Nat.le_of_ble_eq_true rfl) ?_
  exact kz _ _ _ _ hFz H locs ls ⟨hPx, hPz⟩ hS hl
