set_option maxHeartbeats 4000000 in
set_option maxRecDepth 100000 in
theorem law_B {p0 : Program} {e0 : Env} {s : State} {m0 : MethodId} {below : List Frame} {meth : Method} {c0 : Code} {Q : State → Prop} {l : Launch} {b9 L : Nat} {xs : Nat → Int32} {D : va_G} {cI cC cD cR cB : ClassId} {sa : sA} (hC : lwC p0 l s m0 c0 b9 L xs D cI cC cD cR cB sa) {G Hi : Nat → Nat} {ch wy w : Nat} {wd : Int32} {ADx ADy : Nat → Nat} (hIx : cInj ADx) (hAx : ∀ i, i < 165 → s.heap.size ≤ ADx i) (hIy : cInj ADy) (hAy : ∀ i, i < 165 → s.heap.size ≤ ADy i) (hxy : ∀ i j, i < 165 → j < 165 → ADx i ≠ ADy j) (hyx : ∀ i j, i < 165 → j < 165 → ADy i ≠ ADx j) (hw : G 11 = w) (h26 : w < 26) (hFx : lF 128 G G Hi qZ qZ 1 ch 0 wy 0) (hFy : lF 127 G qZ Hi qZ qZ 0 ch 0 wy 0) (kz : lF 146 G G (hPush Hi G ch) (wrL (T2 (oW w) w) qZ 0) qZ 1 (cU ch) 0 wy 0 → lF 129 G qZ (hPush (hPush Hi G ch) (va_up G 11 (oW w)) (cU ch)) qZ qZ 0 (cU (cU ch)) 0 wy 0 → ∀ (H : Heap) (locs : List Loc) (ls : Array Slot), (cW D cI cC cD cR ADx G G (hPush Hi G ch) (wrL (T2 (oW w) w) qZ 0) qZ 1 (cU ch) 0 wy 0 (-1) (-1) wd H ∧ cW D cI cC cD cR ADy G qZ (hPush (hPush Hi G ch) (va_up G 11 (oW w)) (cU ch)) qZ qZ 0 (cU (cU ch)) 0 wy 0 (-1) (-1) wd H) → va_S (aN s.heap.size) s.heap H locs → lv_has ls 13 [(7, .int (nI (cU ch))), (6, .int (nI (97 + oW w))), (5, .int (nI (97 + w))), (4, .int (stF G)), (3, .int (nI (G 0))), (2, .ref (ADy 0)), (1, .ref (ADx 0)), (0, .ref b9)] → W p0 l e0 room_1 s m0 #[Value.ref b9] below meth c0 H locs (2000 * 2) (20000 * 2) Q (F0 m0 158 ls [])) : ∀ (H : Heap) (locs : List Loc) (ls : Array Slot), (cW D cI cC cD cR ADx G G Hi qZ qZ 1 ch 0 wy 0 (-1) (-1) wd H ∧ cW D cI cC cD cR ADy G qZ Hi qZ qZ 0 ch 0 wy 0 (-1) (-1) wd H) → va_S (aN s.heap.size) s.heap H locs → lv_has ls 13 [(6, .int (nI (97 + oW w))), (5, .int (nI (97 + w))), (4, .int (stF G)), (3, .int (nI (G 0))), (2, .ref (ADy 0)), (1, .ref (ADx 0)), (0, .ref b9)] → W p0 l e0 room_1 s m0 #[Value.ref b9] below meth c0 H locs (2000 * 1) (20000 * 1) Q (F0 m0 46 ls []) := by
  obtain ⟨hx, hb, hml, hown, hts, hl9, hXs, hbl, hL, hT, hX⟩ := id hC
  rintro H locs ls ⟨hPx, hPy⟩ hS hl
  have hsx : ∀ q, cRg ADx 0 165 q → aN s.heap.size q := cRg_A hAx (Nat.le_refl _)
  have hsy : ∀ q, cRg ADy 0 165 q → aN s.heap.size q := cRg_A hAy (Nat.le_refl _)
  have how := oW_lt w
  refine lv_aload_n hx hb dL_law_46 rfl (lv_at hl 5 rfl) ?_
  rename Heap => K1
  have hltx := cW_lt hPx
  have hlty := cW_lt hPy
  refine va_forget (fun q hq => hS.2.2 q hq) ?_
  have hn9 : s.heap.size ≤ K1.size := hS.1
  refine va_new (D := D) (ci := 9) (C := RJ4) (T := TJ4) (N := 4) (fs := [.null, .int (nI 0), .int (nI 0), .int (nI 0)]) (A := aN K1.size) (H0 := K1) (ws := []) hx hb hts wl_in_wsJ40 tyJ4 tyJ4_ok hown (hts (.classLink RL 91 RJ4) (List.mem_of_getElem? (i := 1165) (by decide +kernel))) (hts (.instantiable RJ4 4) (List.mem_of_getElem? (i := 1166) (by decide +kernel))) (hts (.initialized RJ4) (List.mem_of_getElem? (i := 58) (by decide +kernel))) hX.1.1 (fun k q h => by simp at h) ⟨fun i j p q h => by simp at h, fun k q h => by simp at h⟩ va_S.rf (fun _ h => h) rfl (fun j hj => by rcases (show j = 0 ∨ j = 1 ∨ j = 2 ∨ j = 3 by omega) with rfl | rfl | rfl | rfl <;> rfl) (Nat.le_of_ble_eq_true rfl) (Nat.le_of_ble_eq_true rfl) dL_law_47 (fun a1 H hP9 hD9 hS9 => ?_)
  have hPn : va_P D vwCl [(a1, .inr (9, [.null, .int (nI 0), .int (nI 0), .int (nI 0)]))] H := hP9
  have ha9 : K1.size ≤ a1 := hD9.2 0 _ rfl
  have hFr : ∀ q : Nat, q < K1.size → H[q]? = K1[q]? := fun q hq => hS9.2.1 q hq (Nat.not_le.mpr hq)
  have hSz : K1.size ≤ H.size := Nat.le_trans ha9 (Nat.le_of_lt (vx_lt hPn (k := 0) rfl))
  have hS : va_S (aN s.heap.size) s.heap H [] := hS.none.trans hS9 (aN_sub hn9)
  refine lv_dup hx hb dL_law_50 rfl ?_
  refine nv_kGv (va_runI (As := []) (rest := [.ref a1, .ref (ADx 0)]) ⟨hx, hb, hml, hown, hts⟩ (c_B_init l (n0 := K1.size) ha9) ⟨callB_of 0 hts gL_law_J4_init_da8c8 rfl rfl rfl (hts (.initialized RJ4) (List.mem_of_getElem? (i := 58) (by decide +kernel))) (hts (.methodLink RL 93 yJ4_init_da8c8) (List.mem_of_getElem? (i := 1167) (by decide +kernel))) (by decide +kernel) ⟨Nat.le_of_ble_eq_true rfl, Nat.le_of_ble_eq_true rfl⟩, rfl, (hts (.instanceMethod yJ4_init_da8c8) (List.mem_of_getElem? (i := 1168) (by decide +kernel)))⟩ (nx_pS hT hX.1 tx0 hS (aN_sub hn9) hPn) rfl rfl hl.1 rfl (lv_room (Nat.le_of_ble_eq_true rfl)) dL_law_51 ⟨Nat.le_of_ble_eq_true rfl, Nat.le_of_ble_eq_true rfl⟩) hS (aN_sub hn9) (fun H locs hPn hK hS => ?_)
  have hFr : ∀ q : Nat, q < K1.size → H[q]? = K1[q]? := fun q hq => (hK q (Nat.lt_of_lt_of_le hq hSz) (Nat.not_le.mpr hq)).trans (hFr q hq)
  have hSz : K1.size ≤ H.size := hPn.lt
  obtain ⟨r124, v124, hZ124, hL124⟩ := hX.2.2 (124, "end0Sd=", [101, 110, 100, 48, 83, 100, 61]) (by decide)
  refine va_ldcS hx hb hown hZ124 dL_law_54 ?_
  refine nv_kGr2 (va_runV (As := [.ref r124]) (rest := [.ref (ADx 0)]) ⟨hx, hb, hml, hown, hts⟩ (c_B_appS l (n0 := K1.size) (r := r124) (v := v124) (L := [101, 110, 100, 48, 83, 100, 61]) (L0 := []) (Nat.le_of_ble_eq_true rfl)) (cwV 1 hts gL_law_J4_append_15ec4 rfl rfl rfl (by decide +kernel) ⟨Nat.le_of_ble_eq_true rfl, Nat.le_of_ble_eq_true rfl⟩) (nx_pV hT hX.1 (tx1 (hL124.go hS (aN_sub hn9))) hS (aN_sub hn9) hPn (sbP.recv hX.1 hPn)) rfl rfl hl.1 rfl (lv_room (Nat.le_of_ble_eq_true rfl)) dL_law_56 ⟨Nat.le_of_ble_eq_true rfl, Nat.le_of_ble_eq_true rfl⟩) hS (aN_sub hn9) (fun H locs hPn hK hS => ?_)
  have hPn : sbP D cB K1.size a1 [101, 110, 100, 48, 83, 100, 61] H := hPn
  have hFr : ∀ q : Nat, q < K1.size → H[q]? = K1[q]? := fun q hq => (hK q (Nat.lt_of_lt_of_le hq hSz) (Nat.not_le.mpr hq)).trans (hFr q hq)
  have hSz : K1.size ≤ H.size := hPn.lt
  refine lv_iload hx hb dL_law_59 (lv_at hl 0 rfl) ?_
  refine nv_kGr2 (va_runV (As := [.int (nI (97 + oW w))]) (rest := [.ref (ADx 0)]) ⟨hx, hb, hml, hown, hts⟩ (c_B_appC l (n0 := K1.size) (L0 := [101, 110, 100, 48, 83, 100, 61]) (97 + oW w) (by omega) (Nat.le_of_ble_eq_true rfl)) (cwV 1 hts gL_law_J4_append_cf468 rfl rfl rfl (by decide +kernel) ⟨Nat.le_of_ble_eq_true rfl, Nat.le_of_ble_eq_true rfl⟩) (nx_pV hT hX.1 tx0 hS (aN_sub hn9) hPn (sbP.recv hX.1 hPn)) rfl rfl hl.1 rfl (lv_room (Nat.le_of_ble_eq_true rfl)) dL_law_61 ⟨Nat.le_of_ble_eq_true rfl, Nat.le_of_ble_eq_true rfl⟩) hS (aN_sub hn9) (fun H locs hPn hK hS => ?_)
  have hPn : sbP D cB K1.size a1 [101, 110, 100, 48, 83, 100, 61, 97 + oW w] H := hPn
  have hFr : ∀ q : Nat, q < K1.size → H[q]? = K1[q]? := fun q hq => (hK q (Nat.lt_of_lt_of_le hq hSz) (Nat.not_le.mpr hq)).trans (hFr q hq)
  have hSz : K1.size ≤ H.size := hPn.lt
  obtain ⟨r126, v126, hZ126, hL126⟩ := hX.2.2 (126, ";end0Sd=", [59, 101, 110, 100, 48, 83, 100, 61]) (by decide)
  refine va_ldcS hx hb hown hZ126 dL_law_64 ?_
  refine nv_kGr2 (va_runV (As := [.ref r126]) (rest := [.ref (ADx 0)]) ⟨hx, hb, hml, hown, hts⟩ (c_B_appS l (n0 := K1.size) (r := r126) (v := v126) (L := [59, 101, 110, 100, 48, 83, 100, 61]) (L0 := [101, 110, 100, 48, 83, 100, 61, 97 + oW w]) (Nat.le_of_ble_eq_true rfl)) (cwV 1 hts gL_law_J4_append_15ec4 rfl rfl rfl (by decide +kernel) ⟨Nat.le_of_ble_eq_true rfl, Nat.le_of_ble_eq_true rfl⟩) (nx_pV hT hX.1 (tx1 (hL126.go hS (aN_sub hn9))) hS (aN_sub hn9) hPn (sbP.recv hX.1 hPn)) rfl rfl hl.1 rfl (lv_room (Nat.le_of_ble_eq_true rfl)) dL_law_66 ⟨Nat.le_of_ble_eq_true rfl, Nat.le_of_ble_eq_true rfl⟩) hS (aN_sub hn9) (fun H locs hPn hK hS => ?_)
  have hPn : sbP D cB K1.size a1 [101, 110, 100, 48, 83, 100, 61, 97 + oW w, 59, 101, 110, 100, 48, 83, 100, 61] H := hPn
  have hFr : ∀ q : Nat, q < K1.size → H[q]? = K1[q]? := fun q hq => (hK q (Nat.lt_of_lt_of_le hq hSz) (Nat.not_le.mpr hq)).trans (hFr q hq)
  have hSz : K1.size ≤ H.size := hPn.lt
  refine lv_iload hx hb dL_law_69 (lv_at hl 1 rfl) ?_
  refine nv_kGr2 (va_runV (As := [.int (nI (97 + w))]) (rest := [.ref (ADx 0)]) ⟨hx, hb, hml, hown, hts⟩ (c_B_appC l (n0 := K1.size) (L0 := [101, 110, 100, 48, 83, 100, 61, 97 + oW w, 59, 101, 110, 100, 48, 83, 100, 61]) (97 + w) (by omega) (Nat.le_of_ble_eq_true rfl)) (cwV 1 hts gL_law_J4_append_cf468 rfl rfl rfl (by decide +kernel) ⟨Nat.le_of_ble_eq_true rfl, Nat.le_of_ble_eq_true rfl⟩) (nx_pV hT hX.1 tx0 hS (aN_sub hn9) hPn (sbP.recv hX.1 hPn)) rfl rfl hl.1 rfl (lv_room (Nat.le_of_ble_eq_true rfl)) dL_law_71 ⟨Nat.le_of_ble_eq_true rfl, Nat.le_of_ble_eq_true rfl⟩) hS (aN_sub hn9) (fun H locs hPn hK hS => ?_)
  have hPn : sbP D cB K1.size a1 [101, 110, 100, 48, 83, 100, 61, 97 + oW w, 59, 101, 110, 100, 48, 83, 100, 61, 97 + w] H := hPn
  have hFr : ∀ q : Nat, q < K1.size → H[q]? = K1[q]? := fun q hq => (hK q (Nat.lt_of_lt_of_le hq hSz) (Nat.not_le.mpr hq)).trans (hFr q hq)
  have hSz : K1.size ≤ H.size := hPn.lt
  refine nv_kGn (va_runV (As := []) (rest := [.ref (ADx 0)]) ⟨hx, hb, hml, hown, hts⟩ (c_B_toString l (n0 := K1.size) (L0 := [101, 110, 100, 48, 83, 100, 61, 97 + oW w, 59, 101, 110, 100, 48, 83, 100, 61, 97 + w]) (Nat.le_of_ble_eq_true rfl)) (cwV 0 hts gL_law_J4_toString_0e30d rfl rfl rfl (by decide +kernel) ⟨Nat.le_of_ble_eq_true rfl, Nat.le_of_ble_eq_true rfl⟩) (nx_pV hT hX.1 tx0 hS (aN_sub hn9) hPn (sbP.recv hX.1 hPn)) rfl rfl hl.1 rfl (lv_room (Nat.le_of_ble_eq_true rfl)) dL_law_74 ⟨Nat.le_of_ble_eq_true rfl, Nat.le_of_ble_eq_true rfl⟩) hS (aN_sub hn9) (fun t1 H locs hPn hK hS => ?_)
  have hFr : ∀ q : Nat, q < K1.size → H[q]? = K1[q]? := fun q hq => (hK q (Nat.lt_of_lt_of_le hq hSz) (Nat.not_le.mpr hq)).trans (hFr q hq)
  have hPx := cW_grow hPx (fun q hq _ => hFr q hq)
  have hPy := cW_grow hPy (fun q hq _ => hFr q hq)
  have hst1 : stP D cB K1.size [101, 110, 100, 48, 83, 100, 61, 97 + oW w, 59, 101, 110, 100, 48, 83, 100, 61, 97 + w] t1 H := hPn
  have hTo1 : okT (T2 (oW w) w) := okT_T2 how.1 h26
  obtain ⟨u1, hxt1⟩ := tx_made hL124 hT.1.1 hX.1 hst1 (Nat.le_of_ble_eq_true rfl) hTo1 hltx
  have hxt1 : tx (cRg ADx 0 165) (t1, u1, T2 (oW w) w) s H := hxt1
  refine nv_kNv (vx_runS (As := [.ref (ADx 0), .ref t1]) (rest := []) ⟨hx, hb, hml, hown, hts⟩ (c_L_put l hl9 hIx (k := 0) hTo1 (ty := 0) (Nat.le_of_ble_eq_true rfl)) (va_cwS 2 hts gL_law_L_put rfl rfl rfl (by decide +kernel) ⟨Nat.le_of_ble_eq_true rfl, Nat.le_of_ble_eq_true rfl⟩) (nl_pS hT hX (tx1 hxt1) hS hsx hPx) rfl rfl hl.1 rfl (lv_room (Nat.le_of_ble_eq_true rfl)) dL_law_77 ⟨Nat.le_of_ble_eq_true rfl, Nat.le_of_ble_eq_true rfl⟩) hS hsx (fun H locs hPx hK hS => ?_)
  have hPy := cW_keep hPy hK hxy
  have hPx : cW D cI cC cD cR ADx G G Hi (wrL (T2 (oW w) w) qZ 0) qZ 1 ch 17 wy 0 (-1) (-1) wd H := hPx
  have hFx : lF 145 G G Hi (wrL (T2 (oW w) w) qZ 0) qZ 1 ch 17 wy 0 := hFx.wrAll hTo1 (Nat.le_of_ble_eq_true rfl) (Nat.le_of_ble_eq_true rfl)
  obtain ⟨bqx, hGx, h25x, hbkx, hk5x, hchx, hHbx, hhsx, hSvbx, htyx, hIn7x, hlnx, hLex, hwyx⟩ := id hFx
  have hHwx : ∀ j, j < _ → hAt _ j 0 ≤ 8 ∧ hAt _ j 1 ≤ 6 ∧ hAt _ j 2 ≤ 5 := fun j hj => ⟨(hHbx j hj).2.2.1, (hHbx j hj).2.2.2.1, (hHbx j hj).2.2.2.2.1⟩
  have hbbx : bqx + 1 < 2 ^ 20 := by omega
  have hb32x : bqx + 32 < 2 ^ 20 := by omega
  have h13x : bqx < 8192 := by omega
  obtain ⟨m1, m2, m3, m4⟩ := x1_all hw h26 qZ
  refine lv_aload_n hx hb dL_law_80 rfl (lv_at hl 5 rfl) ?_
  refine nv_kLX (vx_runV (As := []) (rest := []) ⟨hx, hb, hml, hown, hts⟩ (c_X6_read l hl9 (A := cRg ADx 0 165) hGx hIx cRg_self hchx hHwx h25x hb32x htyx hIn7x) (cwV 0 hts gL_law_X6_read rfl rfl rfl (by decide +kernel) ⟨Nat.le_of_ble_eq_true rfl, Nat.le_of_ble_eq_true rfl⟩) (nt_pVn hT hS hsx hPx (va_recv hT.1.1 hPx.1 (ci := 8) (q0 := 0) rfl rfl)) rfl rfl hl.1 rfl (lv_room (Nat.le_of_ble_eq_true rfl)) dL_law_81 ⟨Nat.le_of_ble_eq_true rfl, Nat.le_of_ble_eq_true rfl⟩) hS hsx (fun E ce q9 H1 locs1 h0 hE hP1 hK1 hS1 hcell hv9 hcl => absurd (by rw [if_neg m1, m2, m3]; exact if_neg (by decide)) h0) (fun H locs h0 hPx hK hS => ?_)
  refine nv_to 2 (by rw [if_neg m1, m2, m3]; exact if_neg (by decide)) ?_
  have hPy := cW_keep hPy hK hxy
  have hPx : cW D cI cC cD cR ADx G G (hPush Hi G ch) (wrL (T2 (oW w) w) qZ 0) qZ 1 (cU ch) 0 wy 0 (-1) (-1) wd H := rdW_ok 1 m1 m2 m3 m4 hPx
  have hFx : lF 146 G G (hPush Hi G ch) (wrL (T2 (oW w) w) qZ 0) qZ 1 (cU ch) 0 wy 0 := rdF_ok 1 m1 m2 m3 m4 hFx (by decide)
  refine lv_iconst (v := nI 2) hx hb dL_law_84 (by decide) ?_
  refine nv_icmp_ne (tgt := 148) hx hb dL_law_85 (by decide) (by omega) (by omega) (fun c9 => absurd rfl c9) (fun _ => ?_)
  obtain ⟨bqy, hGy, h25y, hbky, hk5y, hchy, hHby, hhsy, hSvby, htyy, hIn7y, hlny, hLey, hwyy⟩ := id hFy
  have hHwy : ∀ j, j < _ → hAt _ j 0 ≤ 8 ∧ hAt _ j 1 ≤ 6 ∧ hAt _ j 2 ≤ 5 := fun j hj => ⟨(hHby j hj).2.2.1, (hHby j hj).2.2.2.1, (hHby j hj).2.2.2.2.1⟩
  have hbby : bqy + 1 < 2 ^ 20 := by omega
  have hb32y : bqy + 32 < 2 ^ 20 := by omega
  have h13y : bqy < 8192 := by omega
  have tv1 : vTell G (nI 0) (nI 1) 1 (nI (oW w)) = vOk (nI w) (va_up G 11 (oW w)) := vT_ok hw h26 how.1 (oW_ne w)
  have tv2 : vTell (va_up G 11 (oW w)) (nI 0) (nI 1) 1 (nI w) = vOk (nI (oW w)) G := by have h := vT_ok (G := va_up G 11 (oW w)) (x := oW w) (y := w) (if_pos rfl) how.1 h26 (Ne.symm (oW_ne w)); rw [up_back hw] at h; exact h
  refine lv_aload_n hx hb dL_law_88 rfl (lv_at hl 4 rfl) ?_
  refine lv_iconst (v := nI 0) hx hb dL_law_89 (by decide) ?_
  refine lv_iconst (v := nI 1) hx hb dL_law_90 (by decide) ?_
  refine lv_iconst (v := nI 1) hx hb dL_law_91 (by decide) ?_
  refine lv_iload hx hb dL_law_92 (lv_at hl 0 rfl) ?_
  refine lv_bipush (v := nI 97) hx hb dL_law_94 (by decide) ?_
  refine nv_isub hx hb dL_law_96 (by omega) ?_
  refine nv_to (oW w) (congrArg nI (by omega)) ?_
  refine nv_kLX (vx_runV (As := [.int (nI 0), .int (nI 1), .int (nI 1), .int (nI (oW w))]) (rest := []) ⟨hx, hb, hml, hown, hts⟩ (c_X6_tellEnding l hl9 (A := cRg ADy 0 165) hGy hIy cRg_self hchy hHwy h25y hbby (nI 0) (nI 1) 1 (nI (oW w)) (by decide)) (cwV 4 hts gL_law_X6_tellEnding rfl rfl rfl (by decide +kernel) ⟨Nat.le_of_ble_eq_true rfl, Nat.le_of_ble_eq_true rfl⟩) (nt_pVn hT hS hsy hPy (va_recv hT.1.1 hPy.1 (ci := 8) (q0 := 0) rfl rfl)) rfl rfl hl.1 rfl (lv_room (Nat.le_of_ble_eq_true rfl)) dL_law_97 ⟨Nat.le_of_ble_eq_true rfl, Nat.le_of_ble_eq_true rfl⟩) hS hsy (fun E ce q9 H1 locs1 h0 hE hP1 hK1 hS1 hcell hv9 hcl => absurd (by rw [tv1]; rfl) h0) (fun H locs h0 hPy hK hS => ?_)
  refine nv_to w (by rw [tv1]; rfl) ?_
  have hPx := cW_keep hPx hK hyx
  have hPy : cW D cI cC cD cR ADy (va_up G 11 (oW w)) qZ (hPush Hi G ch) qZ qZ 0 (cU ch) 0 wy 0 (-1) (-1) wd H := cWv_vok tv1 hPy
  have hFy : lF 128 (va_up G 11 (oW w)) qZ (hPush Hi G ch) qZ qZ 0 (cU ch) 0 wy 0 := lF_vok tv1 hFy (by decide) (fun b9 h1 h2 h3 => vWf_vTell (by decide) h1 h2 h3)
  obtain ⟨bqy, hGy, h25y, hbky, hk5y, hchy, hHby, hhsy, hSvby, htyy, hIn7y, hlny, hLey, hwyy⟩ := id hFy
  have hHwy : ∀ j, j < _ → hAt _ j 0 ≤ 8 ∧ hAt _ j 1 ≤ 6 ∧ hAt _ j 2 ≤ 5 := fun j hj => ⟨(hHby j hj).2.2.1, (hHby j hj).2.2.2.1, (hHby j hj).2.2.2.2.1⟩
  have hbby : bqy + 1 < 2 ^ 20 := by omega
  have hb32y : bqy + 32 < 2 ^ 20 := by omega
  have h13y : bqy < 8192 := by omega
  refine lv_iload hx hb dL_law_100 (lv_at hl 1 rfl) ?_
  refine lv_bipush (v := nI 97) hx hb dL_law_102 (by decide) ?_
  refine nv_isub hx hb dL_law_104 (by omega) ?_
  refine nv_to w (congrArg nI (by omega)) ?_
  refine nv_icmp_ne (tgt := 148) hx hb dL_law_105 (by decide) (by omega) (by omega) (fun c9 => absurd rfl c9) (fun _ => ?_)
  refine lv_aload_n hx hb dL_law_108 rfl (lv_at hl 4 rfl) ?_
  refine lv_iconst (v := nI 0) hx hb dL_law_109 (by decide) ?_
  refine lv_iconst (v := nI 1) hx hb dL_law_110 (by decide) ?_
  refine lv_iconst (v := nI 1) hx hb dL_law_111 (by decide) ?_
  refine lv_iload hx hb dL_law_112 (lv_at hl 1 rfl) ?_
  refine lv_bipush (v := nI 97) hx hb dL_law_114 (by decide) ?_
  refine nv_isub hx hb dL_law_116 (by omega) ?_
  refine nv_to w (congrArg nI (by omega)) ?_
  refine nv_kLX (vx_runV (As := [.int (nI 0), .int (nI 1), .int (nI 1), .int (nI w)]) (rest := []) ⟨hx, hb, hml, hown, hts⟩ (c_X6_tellEnding l hl9 (A := cRg ADy 0 165) hGy hIy cRg_self hchy hHwy h25y hbby (nI 0) (nI 1) 1 (nI w) (by decide)) (cwV 4 hts gL_law_X6_tellEnding rfl rfl rfl (by decide +kernel) ⟨Nat.le_of_ble_eq_true rfl, Nat.le_of_ble_eq_true rfl⟩) (nt_pVn hT hS hsy hPy (va_recv hT.1.1 hPy.1 (ci := 8) (q0 := 0) rfl rfl)) rfl rfl hl.1 rfl (lv_room (Nat.le_of_ble_eq_true rfl)) dL_law_117 ⟨Nat.le_of_ble_eq_true rfl, Nat.le_of_ble_eq_true rfl⟩) hS hsy (fun E ce q9 H1 locs1 h0 hE hP1 hK1 hS1 hcell hv9 hcl => absurd (by rw [tv2]; rfl) h0) (fun H locs h0 hPy hK hS => ?_)
  refine nv_to (oW w) (by rw [tv2]; rfl) ?_
  have hPx := cW_keep hPx hK hyx
  have hPy : cW D cI cC cD cR ADy G qZ (hPush (hPush Hi G ch) (va_up G 11 (oW w)) (cU ch)) qZ qZ 0 (cU (cU ch)) 0 wy 0 (-1) (-1) wd H := cWv_vok tv2 hPy
  have hFy : lF 129 G qZ (hPush (hPush Hi G ch) (va_up G 11 (oW w)) (cU ch)) qZ qZ 0 (cU (cU ch)) 0 wy 0 := lF_vok tv2 hFy (by decide) (fun b9 h1 h2 h3 => vWf_vTell (by decide) h1 h2 h3)
  refine lv_iload hx hb dL_law_120 (lv_at hl 0 rfl) ?_
  refine lv_bipush (v := nI 97) hx hb dL_law_122 (by decide) ?_
  refine nv_isub hx hb dL_law_124 (by omega) ?_
  refine nv_to (oW w) (congrArg nI (by omega)) ?_
  refine nv_icmp_ne (tgt := 148) hx hb dL_law_125 (by decide) (by omega) (by omega) (fun c9 => absurd rfl c9) (fun _ => ?_)
  refine lv_aload_n hx hb dL_law_128 rfl (lv_at hl 5 rfl) ?_
  refine nv_kN (vx_runS (As := [.ref (ADx 0)]) (rest := []) ⟨hx, hb, hml, hown, hts⟩ (c_L_state l hl9 hIx hFx) (va_cwS 1 hts gL_law_L_state rfl rfl rfl (by decide +kernel) ⟨Nat.le_of_ble_eq_true rfl, Nat.le_of_ble_eq_true rfl⟩) (nl_pS hT hX tx0 hS hsx hPx) rfl rfl hl.1 rfl (lv_room (Nat.le_of_ble_eq_true rfl)) dL_law_129 ⟨Nat.le_of_ble_eq_true rfl, Nat.le_of_ble_eq_true rfl⟩) hS hsx (fun H locs hPx hK hS => ?_)
  have hPy := cW_keep hPy hK hxy
  refine lv_aload_n hx hb dL_law_132 rfl (lv_at hl 4 rfl) ?_
  refine nv_kN (vx_runS (As := [.ref (ADy 0)]) (rest := [.int (stF G)]) ⟨hx, hb, hml, hown, hts⟩ (c_L_state l hl9 hIy hFy) (va_cwS 1 hts gL_law_L_state rfl rfl rfl (by decide +kernel) ⟨Nat.le_of_ble_eq_true rfl, Nat.le_of_ble_eq_true rfl⟩) (nl_pS hT hX tx0 hS hsy hPy) rfl rfl hl.1 rfl (lv_room (Nat.le_of_ble_eq_true rfl)) dL_law_133 ⟨Nat.le_of_ble_eq_true rfl, Nat.le_of_ble_eq_true rfl⟩) hS hsy (fun H locs hPy hK hS => ?_)
  have hPx := cW_keep hPx hK hyx
  refine lv_icmp_ne (tgt := 148) hx hb dL_law_136 (by decide) (fun c9 => absurd rfl c9) (fun _ => ?_)
  obtain ⟨bqx, hGx, h25x, hbkx, hk5x, hchx, hHbx, hhsx, hSvbx, htyx, hIn7x, hlnx, hLex, hwyx⟩ := id hFx
  have hHwx : ∀ j, j < _ → hAt _ j 0 ≤ 8 ∧ hAt _ j 1 ≤ 6 ∧ hAt _ j 2 ≤ 5 := fun j hj => ⟨(hHbx j hj).2.2.1, (hHbx j hj).2.2.2.1, (hHbx j hj).2.2.2.2.1⟩
  have hbbx : bqx + 1 < 2 ^ 20 := by omega
  have hb32x : bqx + 32 < 2 ^ 20 := by omega
  have h13x : bqx < 8192 := by omega
  refine lv_aload_n hx hb dL_law_139 rfl (lv_at hl 5 rfl) ?_
  refine lv_bipush (v := nI 11) hx hb dL_law_140 (by decide) ?_
  refine nv_kLX (vx_runV (As := [.int (nI 11)]) (rest := []) ⟨hx, hb, hml, hown, hts⟩ (c_X6_account l hl9 (A := cRg ADx 0 165) hGx hIx cRg_self (nI 11)) (cwV 1 hts gL_law_X6_account rfl rfl rfl (by decide +kernel) ⟨Nat.le_of_ble_eq_true rfl, Nat.le_of_ble_eq_true rfl⟩) (nt_pVn hT hS hsx hPx (va_recv hT.1.1 hPx.1 (ci := 8) (q0 := 0) rfl rfl)) rfl rfl hl.1 rfl (lv_room (Nat.le_of_ble_eq_true rfl)) dL_law_142 ⟨Nat.le_of_ble_eq_true rfl, Nat.le_of_ble_eq_true rfl⟩) hS hsx (fun E ce q9 H1 locs1 h0 hE hP1 hK1 hS1 hcell hv9 hcl => absurd (if_pos (by decide)) h0) (fun H locs h0 hPx hK hS => ?_)
  refine nv_to 0 (by rw [if_pos (by decide), tN_nI (by decide)]; rfl) ?_
  have hPy := cW_keep hPy hK hxy
  refine nv_if_eq (tgt := 150) hx hb dL_law_145 (by decide) (by omega) (fun _ => ?_) (fun c9 => absurd (by decide) c9)
  refine lv_aload_n hx hb dL_law_150 rfl (lv_at hl 5 rfl) ?_
  refine lv_bipush (v := nI 12) hx hb dL_law_151 (by decide) ?_
  refine nv_kLX (vx_runV (As := [.int (nI 12)]) (rest := []) ⟨hx, hb, hml, hown, hts⟩ (c_X6_account l hl9 (A := cRg ADx 0 165) hGx hIx cRg_self (nI 12)) (cwV 1 hts gL_law_X6_account rfl rfl rfl (by decide +kernel) ⟨Nat.le_of_ble_eq_true rfl, Nat.le_of_ble_eq_true rfl⟩) (nt_pVn hT hS hsx hPx (va_recv hT.1.1 hPx.1 (ci := 8) (q0 := 0) rfl rfl)) rfl rfl hl.1 rfl (lv_room (Nat.le_of_ble_eq_true rfl)) dL_law_153 ⟨Nat.le_of_ble_eq_true rfl, Nat.le_of_ble_eq_true rfl⟩) hS hsx (fun E ce q9 H1 locs1 h0 hE hP1 hK1 hS1 hcell hv9 hcl => absurd (if_pos (by decide)) h0) (fun H locs h0 hPx hK hS => ?_)
  refine nv_to (cU ch) (by rw [if_pos (by decide), tN_nI (by decide)]; rfl) ?_
  have hPy := cW_keep hPy hK hxy
  refine lv_istore (lv' := [(7, .int (nI (cU ch))), (6, .int (nI (97 + oW w))), (5, .int (nI (97 + w))), (4, .int (stF G)), (3, .int (nI (G 0))), (2, .ref (ADy 0)), (1, .ref (ADx 0)), (0, .ref b9)]) hx hb dL_law_156 hl (by decide) rfl (fun ls hl => ?_)
  refine W.widen (k := 2000 * 2) (n := 20000 * 2) (Nat.le_of_ble_eq_true rfl) (Nat.le_of_ble_eq_true rfl) ?_
  exact kz hFx hFy H locs ls ⟨hPx, hPy⟩ hS hl
