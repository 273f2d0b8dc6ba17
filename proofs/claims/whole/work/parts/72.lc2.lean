set_option maxHeartbeats 1000000 in
set_option maxRecDepth 100000 in
theorem lc_shut {p : Program} {l : Launch} {e : Env} {s : State} {m : MethodId} {args : Array Value} {below : List Frame} {meth : Method} {c : Code} {H : Heap} {locs : List Loc} {Q : State → Prop} {ls : Array Slot} {D : va_G} {cI cC cD cR cL cB : ClassId} {sa : sA} {AD : Nat → Nat} {h aG aB aH aS aI aL aT o oD b9 L : Nat} {xs : Nat → Int32} {k : Nat} (hC : lC p l s m args c D cI cC cD cR cL cB sa AD h aG aB aH aS aI aL aT o oD b9 L xs) (hk : 6 * k + 6 ≤ L) (hLI : lI D cI cC cD cR cL cB AD h aG aB aH aS aI aL aT o oD k H) (hS : va_S (lAN s) s.heap H locs) (hl : lv_has ls 9 [(0, .ref b9), (1, .ref (AD 0)), (2, .ref h), (3, .ref o), (4, .ref oD), (5, .int (nI (6 * k)))])
    (K : ∀ (H1 : Heap) (locs1 : List Loc) (ls1 : Array Slot), lI D cI cC cD cR cL cB AD h aG aB aH aS aI aL aT o oD (k + 1) H1 → va_S (lAN s) s.heap H1 locs1 → lv_has ls1 9 [(0, .ref b9), (1, .ref (AD 0)), (2, .ref h), (3, .ref o), (4, .ref oD), (5, .int (nI (6 * k)))] → W p l e room_1 s m args below meth c H1 locs1 (175 + 3 * (k + 1)) (3554 + 18 * (k + 1)) Q (F0 m 2679 ls1 [])) : W p l e room_1 s m args below meth c H locs (175 + 3 * k) (3554 + 18 * k) Q (F0 m 1386 ls []) := by
  obtain ⟨hx, hb, hml, hown, hts, hl9, hXs, hbl, hL, hT, hX, hI, hAD, ho9, hoD9, hne, hD7⟩ := hC
  obtain ⟨G, B, Hi, Sv, In, Le, To, ch, hs, ty, wy, ln, th, sp, iw, ea, ra, wd, hP7, hcW, hF, hO, hOB⟩ := hLI
  obtain ⟨b, hG, h25, hbt, -, hch, hHg, hhs, hSg, hty, hS7, hln, hLe, hwy⟩ := id hF
  have hk512 : k < 512 := by omega
  have hbb : b + 1 < 2 ^ 20 := by omega
  have hb32 : b + 32 < 2 ^ 20 := by omega
  have h13 : b < 8192 := by omega
  have hHw : ∀ j, j < ch → hAt Hi j 0 ≤ 8 ∧ hAt Hi j 1 ≤ 6 ∧ hAt Hi j 2 ≤ 5 := fun j hj => ⟨(hHg j hj).2.2.1, (hHg j hj).2.2.2.1, (hHg j hj).2.2.2.2.1⟩
  have hSw : hs = 1 → Sv 0 ≤ 8 ∧ Sv 1 ≤ 6 ∧ Sv 2 ≤ 5 := fun q => ⟨(hSg q).2.2.1, (hSg q).2.2.2.1, (hSg q).2.2.2.2.1⟩
  have ho := ho9.2
  have hoD := hoD9.2
  have hK7 : kS D [(cI, .int), (cC, .char)] [] s := ⟨hT.1.1.sub [0, 1] rfl, fun _ h9 => nomatch h9⟩
  have hA7 : ∀ q, l7 s AD o oD q → lAN s q := fun _ h9 => h9.1
  refine lv_aload_n hx hb dL_law_1386 rfl (lv_at hl 1 rfl) ?_
  refine lv_aload_n hx hb dL_law_1387 rfl (lv_at hl 0 rfl) ?_
  refine lv_iload hx hb dL_law_1388 (lv_at hl 5 rfl) ?_
  refine lv_iconst (v := nI 1) hx hb dL_law_1390 (by decide) ?_
  refine nv_iadd hx hb dL_law_1391 ?_
  refine nv_sld hx hb hXs hbl hS (by omega) hL dL_law_1392 ?_
  refine lv_aload_n hx hb dL_law_1393 rfl (lv_at hl 3 rfl) ?_
  refine nv_kN (vx_runSX (hh := [(0, 9, 12, 15), (0, 9, 15, 17)]) (As := [.ref (AD 0), .int (xs (6 * k + 1)), .ref o]) (rest := []) ⟨hx, hb, hml, hown, hts⟩ (c_L_shut l hl9 ho hG hI hch hHw h25 hbb (xs (6 * k + 1))) (vx_cwSW 3 hts gL_law_L_shut rfl rfl rfl (by decide +kernel) ⟨Nat.le_of_ble_eq_true rfl, Nat.le_of_ble_eq_true rfl⟩) (nl_pS hT hX hS (fun q h9 => h9.elim (fun ⟨i, _, hi, e9⟩ => by rw [e9]; exact hAD i hi) (fun e9 => by rw [e9]; exact ho9.1)) ⟨hcW, hO⟩) rfl rfl hl.1 rfl (lv_room (Nat.le_of_ble_eq_true rfl)) dL_law_1394 ⟨(show 175 + 3 * k + 1 ≤ 603072 by omega), (show 3554 + 18 * k + 6 ≤ 7219306 by omega)⟩) hS (fun q h9 => h9.elim (fun ⟨i, _, hi, e9⟩ => by rw [e9]; exact hAD i hi) (fun e9 => by rw [e9]; exact ho9.1)) (fun H1 locs1 hP1 hK1 hS1 => ?_)
  obtain ⟨hcW, hO9⟩ := hP1
  have hP7 := nv_keep7 (hD7 G B Hi Sv In Le To _) hP7 hK1 (fun q h9 h8 => h8.elim h9.2.1 (fun e9 => h9.2.2.1 e9))
  have hOB := hOB.kept hK1 (fun h8 => h8.elim hoD (fun e9 => hne e9.symm))
  have hO := hO9
  have hS := hS1
  refine lv_istore (lv' := [(6, .int (nI (((vShut G (xs (6 * k + 1))).1)))), (0, .ref b9), (1, .ref (AD 0)), (2, .ref h), (3, .ref o), (4, .ref oD), (5, .int (nI (6 * k)))]) hx hb dL_law_1397 hl (by decide) rfl (fun ls hl => ?_)
  refine lv_aload_n hx hb dL_law_1399 rfl (lv_at hl 3 rfl) ?_
  refine lv_aload_n hx hb dL_law_1400 rfl (lv_at hl 1 rfl) ?_
  refine lv_iload hx hb dL_law_1401 (lv_at hl 6 rfl) ?_
  refine lv_iconst (v := nI 1) hx hb dL_law_1403 (by decide) ?_
  refine nv_iadd hx hb dL_law_1404 ?_
  refine nv_sld hx hb hXs hbl hS (by omega) hL dL_law_1405 ?_
  refine nv_kM2 (va_runV (As := [.int (xs (6 * k + 1))]) (rest := []) ⟨hx, hb, hml, hown, hts⟩ (c_X7_shut l hD7 hG (xs (6 * k + 1)) hch) (cwV 1 hts gL_law_X7_shut rfl rfl rfl (by decide +kernel) ⟨Nat.le_of_ble_eq_true rfl, Nat.le_of_ble_eq_true rfl⟩) (nv_pV hK7 hP7 (va_recv hT.1.1 hP7 (ci := 9) (q0 := 0) rfl rfl)) rfl rfl hl.1 rfl (lv_room (Nat.le_of_ble_eq_true rfl)) dL_law_1406 ⟨(show 175 + 3 * k + 1 + 0 ≤ 603072 by omega), (show 3554 + 18 * k + 6 + 0 ≤ 7219306 by omega)⟩) hS hA7 (fun H2 locs2 hP2 hK2 hS2 => ?_)
  have hP7 := hP2
  have hcW := cOn_Wv (l7 s AD o oD) _ _ (fun i _ hi h9 => h9.2.1 ⟨i, Nat.zero_le _, hi, rfl⟩) hK2 hcW
  have hO := hO.kept hK2 (fun h9 => h9.2.2.1 rfl)
  have hOB := hOB.kept hK2 (fun h9 => h9.2.2.2 rfl)
  have hS := hS2
  have hF9 := hF.change hk512 (vShut G (xs (6 * k + 1))) (fun b9 h1 h2 h3 => vWf_vShut h1 h2 h3) (vShut_w _ _)
  refine lv_istore (lv' := [(7, .int (((vShut G (xs (6 * k + 1))).2.2.2.1))), (6, .int (nI (((vShut G (xs (6 * k + 1))).1)))), (0, .ref b9), (1, .ref (AD 0)), (2, .ref h), (3, .ref o), (4, .ref oD), (5, .int (nI (6 * k)))]) hx hb dL_law_1409 hl (by decide) rfl (fun ls hl => ?_)
  refine lv_aload_n hx hb dL_law_1411 rfl (lv_at hl 4 rfl) ?_
  refine nv_kS (va_runV (As := []) (rest := []) ⟨hx, hb, hml, hown, hts⟩ (c_X7_thrown l) (cwV 0 hts gL_law_X7_thrown rfl rfl rfl (by decide +kernel) ⟨Nat.le_of_ble_eq_true rfl, Nat.le_of_ble_eq_true rfl⟩) (nv_pV hK7 hP7 (va_recv hT.1.1 hP7 (ci := 9) (q0 := 0) rfl rfl)) rfl rfl hl.1 rfl (lv_room (Nat.le_of_ble_eq_true rfl)) dL_law_1412 ⟨(show 175 + 3 * k + 1 + 0 + 0 ≤ 603072 by omega), (show 3554 + 18 * k + 6 + 0 + 0 ≤ 7219306 by omega)⟩) ?_
  refine lv_iload hx hb dL_law_1415 (lv_at hl 1 rfl) ?_
  refine lv_icmp_eq (tgt := 1422) hx hb dL_law_1417 (by decide) (fun _ => ?_) (fun h9 => absurd rfl h9)
  refine lv_iload hx hb dL_law_1422 (lv_at hl 1 rfl) ?_
  refine lv_if_ne (tgt := 1439) hx hb dL_law_1424 (by decide) (fun _ => lv_goto (tgt := 2679) hx hb dL_law_1439 (by decide) (W.widen (k := 175 + 3 * (k + 1)) (n := 3554 + 18 * (k + 1)) (by omega) (by omega) (K _ _ _ ⟨_, _, _, _, _, _, _, _, _, _, _, _, _, _, _, _, _, _, hP7, hcW, hF9, hO.imp (fun _ _ => trivial), hOB.imp (fun _ _ => trivial)⟩ hS (lv_sub hl [2, 3, 4, 5, 6, 7] rfl)))) (fun h0 => ?_)
  have ht0 := nv_n0 (t := ((vShut G (xs (6 * k + 1))).1)) (vShut_n _ _) h0
  refine lv_aload_n hx hb dL_law_1427 rfl (lv_at hl 5 rfl) ?_
  refine lv_iconst (v := nI 0) hx hb dL_law_1428 (by decide) ?_
  refine nv_laldO hx hb hX.1 0 rfl (hO.imp (fun _ z => z ht0)) dL_law_1429 ?_
  refine lv_iload hx hb dL_law_1430 (lv_at hl 0 rfl) ?_
  refine lv_i2l hx hb dL_law_1432 rfl ?_
  refine W.lcmp hx hb dL_law_1433 ?_
  exact lv_if_eq (tgt := 1439) hx hb dL_law_1434 (by decide) (fun _ => lv_goto (tgt := 2679) hx hb dL_law_1439 (by decide) (W.widen (k := 175 + 3 * (k + 1)) (n := 3554 + 18 * (k + 1)) (by omega) (by omega) (K _ _ _ ⟨_, _, _, _, _, _, _, _, _, _, _, _, _, _, _, _, _, _, hP7, hcW, hF9, hO.imp (fun _ _ => trivial), hOB.imp (fun _ _ => trivial)⟩ hS (lv_sub hl [2, 3, 4, 5, 6, 7] rfl)))) (fun h9 => absurd (lg_same _) h9)

set_option maxHeartbeats 1000000 in
set_option maxRecDepth 100000 in
theorem lc_free {p : Program} {l : Launch} {e : Env} {s : State} {m : MethodId} {args : Array Value} {below : List Frame} {meth : Method} {c : Code} {H : Heap} {locs : List Loc} {Q : State → Prop} {ls : Array Slot} {D : va_G} {cI cC cD cR cL cB : ClassId} {sa : sA} {AD : Nat → Nat} {h aG aB aH aS aI aL aT o oD b9 L : Nat} {xs : Nat → Int32} {k : Nat} (hC : lC p l s m args c D cI cC cD cR cL cB sa AD h aG aB aH aS aI aL aT o oD b9 L xs) (hk : 6 * k + 6 ≤ L) (hLI : lI D cI cC cD cR cL cB AD h aG aB aH aS aI aL aT o oD k H) (hS : va_S (lAN s) s.heap H locs) (hl : lv_has ls 9 [(0, .ref b9), (1, .ref (AD 0)), (2, .ref h), (3, .ref o), (4, .ref oD), (5, .int (nI (6 * k)))])
    (K : ∀ (H1 : Heap) (locs1 : List Loc) (ls1 : Array Slot), lI D cI cC cD cR cL cB AD h aG aB aH aS aI aL aT o oD (k + 1) H1 → va_S (lAN s) s.heap H1 locs1 → lv_has ls1 9 [(0, .ref b9), (1, .ref (AD 0)), (2, .ref h), (3, .ref o), (4, .ref oD), (5, .int (nI (6 * k)))] → W p l e room_1 s m args below meth c H1 locs1 (175 + 3 * (k + 1)) (3554 + 18 * (k + 1)) Q (F0 m 2679 ls1 [])) : W p l e room_1 s m args below meth c H locs (175 + 3 * k) (3554 + 18 * k) Q (F0 m 1442 ls []) := by
  obtain ⟨hx, hb, hml, hown, hts, hl9, hXs, hbl, hL, hT, hX, hI, hAD, ho9, hoD9, hne, hD7⟩ := hC
  obtain ⟨G, B, Hi, Sv, In, Le, To, ch, hs, ty, wy, ln, th, sp, iw, ea, ra, wd, hP7, hcW, hF, hO, hOB⟩ := hLI
  obtain ⟨b, hG, h25, hbt, -, hch, hHg, hhs, hSg, hty, hS7, hln, hLe, hwy⟩ := id hF
  have hk512 : k < 512 := by omega
  have hbb : b + 1 < 2 ^ 20 := by omega
  have hb32 : b + 32 < 2 ^ 20 := by omega
  have h13 : b < 8192 := by omega
  have hHw : ∀ j, j < ch → hAt Hi j 0 ≤ 8 ∧ hAt Hi j 1 ≤ 6 ∧ hAt Hi j 2 ≤ 5 := fun j hj => ⟨(hHg j hj).2.2.1, (hHg j hj).2.2.2.1, (hHg j hj).2.2.2.2.1⟩
  have hSw : hs = 1 → Sv 0 ≤ 8 ∧ Sv 1 ≤ 6 ∧ Sv 2 ≤ 5 := fun q => ⟨(hSg q).2.2.1, (hSg q).2.2.2.1, (hSg q).2.2.2.2.1⟩
  have ho := ho9.2
  have hoD := hoD9.2
  have hK7 : kS D [(cI, .int), (cC, .char)] [] s := ⟨hT.1.1.sub [0, 1] rfl, fun _ h9 => nomatch h9⟩
  have hA7 : ∀ q, l7 s AD o oD q → lAN s q := fun _ h9 => h9.1
  refine lv_aload_n hx hb dL_law_1442 rfl (lv_at hl 1 rfl) ?_
  refine lv_aload_n hx hb dL_law_1443 rfl (lv_at hl 0 rfl) ?_
  refine lv_iload hx hb dL_law_1444 (lv_at hl 5 rfl) ?_
  refine lv_iconst (v := nI 1) hx hb dL_law_1446 (by decide) ?_
  refine nv_iadd hx hb dL_law_1447 ?_
  refine nv_sld hx hb hXs hbl hS (by omega) hL dL_law_1448 ?_
  refine lv_aload_n hx hb dL_law_1449 rfl (lv_at hl 0 rfl) ?_
  refine lv_iload hx hb dL_law_1450 (lv_at hl 5 rfl) ?_
  refine lv_iconst (v := nI 2) hx hb dL_law_1452 (by decide) ?_
  refine nv_iadd hx hb dL_law_1453 ?_
  refine nv_sld hx hb hXs hbl hS (by omega) hL dL_law_1454 ?_
  refine lv_aload_n hx hb dL_law_1455 rfl (lv_at hl 3 rfl) ?_
  refine nv_kN (vx_runSX (hh := [(0, 10, 13, 15), (0, 10, 17, 17)]) (As := [.ref (AD 0), .int (xs (6 * k + 1)), .int (xs (6 * k + 2)), .ref o]) (rest := []) ⟨hx, hb, hml, hown, hts⟩ (c_L_free l hl9 ho hG hI hch hHw h25 hbb (xs (6 * k + 1)) (xs (6 * k + 2))) (vx_cwSW 4 hts gL_law_L_free rfl rfl rfl (by decide +kernel) ⟨Nat.le_of_ble_eq_true rfl, Nat.le_of_ble_eq_true rfl⟩) (nl_pS hT hX hS (fun q h9 => h9.elim (fun ⟨i, _, hi, e9⟩ => by rw [e9]; exact hAD i hi) (fun e9 => by rw [e9]; exact ho9.1)) ⟨hcW, hO⟩) rfl rfl hl.1 rfl (lv_room (Nat.le_of_ble_eq_true rfl)) dL_law_1456 ⟨(show 175 + 3 * k + 1 ≤ 603072 by omega), (show 3554 + 18 * k + 6 ≤ 7219306 by omega)⟩) hS (fun q h9 => h9.elim (fun ⟨i, _, hi, e9⟩ => by rw [e9]; exact hAD i hi) (fun e9 => by rw [e9]; exact ho9.1)) (fun H1 locs1 hP1 hK1 hS1 => ?_)
  obtain ⟨hcW, hO9⟩ := hP1
  have hP7 := nv_keep7 (hD7 G B Hi Sv In Le To _) hP7 hK1 (fun q h9 h8 => h8.elim h9.2.1 (fun e9 => h9.2.2.1 e9))
  have hOB := hOB.kept hK1 (fun h8 => h8.elim hoD (fun e9 => hne e9.symm))
  have hO := hO9
  have hS := hS1
  refine lv_istore (lv' := [(6, .int (nI (((vFree G (xs (6 * k + 1)) (xs (6 * k + 2))).1)))), (0, .ref b9), (1, .ref (AD 0)), (2, .ref h), (3, .ref o), (4, .ref oD), (5, .int (nI (6 * k)))]) hx hb dL_law_1459 hl (by decide) rfl (fun ls hl => ?_)
  refine lv_aload_n hx hb dL_law_1461 rfl (lv_at hl 3 rfl) ?_
  refine lv_aload_n hx hb dL_law_1462 rfl (lv_at hl 1 rfl) ?_
  refine lv_iload hx hb dL_law_1463 (lv_at hl 6 rfl) ?_
  refine lv_iconst (v := nI 1) hx hb dL_law_1465 (by decide) ?_
  refine nv_iadd hx hb dL_law_1466 ?_
  refine nv_sld hx hb hXs hbl hS (by omega) hL dL_law_1467 ?_
  refine lv_aload_n hx hb dL_law_1468 rfl (lv_at hl 1 rfl) ?_
  refine lv_iload hx hb dL_law_1469 (lv_at hl 6 rfl) ?_
  refine lv_iconst (v := nI 2) hx hb dL_law_1471 (by decide) ?_
  refine nv_iadd hx hb dL_law_1472 ?_
  refine nv_sld hx hb hXs hbl hS (by omega) hL dL_law_1473 ?_
  refine nv_kM2 (va_runV (As := [.int (xs (6 * k + 1)), .int (xs (6 * k + 2))]) (rest := []) ⟨hx, hb, hml, hown, hts⟩ (c_X7_free l hD7 hG (xs (6 * k + 1)) (xs (6 * k + 2)) hch) (cwV 2 hts gL_law_X7_free rfl rfl rfl (by decide +kernel) ⟨Nat.le_of_ble_eq_true rfl, Nat.le_of_ble_eq_true rfl⟩) (nv_pV hK7 hP7 (va_recv hT.1.1 hP7 (ci := 9) (q0 := 0) rfl rfl)) rfl rfl hl.1 rfl (lv_room (Nat.le_of_ble_eq_true rfl)) dL_law_1474 ⟨(show 175 + 3 * k + 1 + 0 ≤ 603072 by omega), (show 3554 + 18 * k + 6 + 0 ≤ 7219306 by omega)⟩) hS hA7 (fun H2 locs2 hP2 hK2 hS2 => ?_)
  have hP7 := hP2
  have hcW := cOn_Wv (l7 s AD o oD) _ _ (fun i _ hi h9 => h9.2.1 ⟨i, Nat.zero_le _, hi, rfl⟩) hK2 hcW
  have hO := hO.kept hK2 (fun h9 => h9.2.2.1 rfl)
  have hOB := hOB.kept hK2 (fun h9 => h9.2.2.2 rfl)
  have hS := hS2
  have hF9 := hF.change hk512 (vFree G (xs (6 * k + 1)) (xs (6 * k + 2))) (fun b9 h1 h2 h3 => vWf_vFree h1 h2 h3) (vFree_w _ _ _)
  refine lv_istore (lv' := [(7, .int (((vFree G (xs (6 * k + 1)) (xs (6 * k + 2))).2.2.2.1))), (6, .int (nI (((vFree G (xs (6 * k + 1)) (xs (6 * k + 2))).1)))), (0, .ref b9), (1, .ref (AD 0)), (2, .ref h), (3, .ref o), (4, .ref oD), (5, .int (nI (6 * k)))]) hx hb dL_law_1477 hl (by decide) rfl (fun ls hl => ?_)
  refine lv_aload_n hx hb dL_law_1479 rfl (lv_at hl 4 rfl) ?_
  refine nv_kS (va_runV (As := []) (rest := []) ⟨hx, hb, hml, hown, hts⟩ (c_X7_thrown l) (cwV 0 hts gL_law_X7_thrown rfl rfl rfl (by decide +kernel) ⟨Nat.le_of_ble_eq_true rfl, Nat.le_of_ble_eq_true rfl⟩) (nv_pV hK7 hP7 (va_recv hT.1.1 hP7 (ci := 9) (q0 := 0) rfl rfl)) rfl rfl hl.1 rfl (lv_room (Nat.le_of_ble_eq_true rfl)) dL_law_1480 ⟨(show 175 + 3 * k + 1 + 0 + 0 ≤ 603072 by omega), (show 3554 + 18 * k + 6 + 0 + 0 ≤ 7219306 by omega)⟩) ?_
  refine lv_iload hx hb dL_law_1483 (lv_at hl 1 rfl) ?_
  refine lv_icmp_eq (tgt := 1490) hx hb dL_law_1485 (by decide) (fun _ => ?_) (fun h9 => absurd rfl h9)
  refine lv_iload hx hb dL_law_1490 (lv_at hl 1 rfl) ?_
  refine lv_if_ne (tgt := 1507) hx hb dL_law_1492 (by decide) (fun _ => lv_goto (tgt := 2679) hx hb dL_law_1507 (by decide) (W.widen (k := 175 + 3 * (k + 1)) (n := 3554 + 18 * (k + 1)) (by omega) (by omega) (K _ _ _ ⟨_, _, _, _, _, _, _, _, _, _, _, _, _, _, _, _, _, _, hP7, hcW, hF9, hO.imp (fun _ _ => trivial), hOB.imp (fun _ _ => trivial)⟩ hS (lv_sub hl [2, 3, 4, 5, 6, 7] rfl)))) (fun h0 => ?_)
  have ht0 := nv_n0 (t := ((vFree G (xs (6 * k + 1)) (xs (6 * k + 2))).1)) (vFree_n _ _ _) h0
  refine lv_aload_n hx hb dL_law_1495 rfl (lv_at hl 5 rfl) ?_
  refine lv_iconst (v := nI 0) hx hb dL_law_1496 (by decide) ?_
  refine nv_laldO hx hb hX.1 0 rfl (hO.imp (fun _ z => z ht0)) dL_law_1497 ?_
  refine lv_iload hx hb dL_law_1498 (lv_at hl 0 rfl) ?_
  refine lv_i2l hx hb dL_law_1500 rfl ?_
  refine W.lcmp hx hb dL_law_1501 ?_
  exact lv_if_eq (tgt := 1507) hx hb dL_law_1502 (by decide) (fun _ => lv_goto (tgt := 2679) hx hb dL_law_1507 (by decide) (W.widen (k := 175 + 3 * (k + 1)) (n := 3554 + 18 * (k + 1)) (by omega) (by omega) (K _ _ _ ⟨_, _, _, _, _, _, _, _, _, _, _, _, _, _, _, _, _, _, hP7, hcW, hF9, hO.imp (fun _ _ => trivial), hOB.imp (fun _ _ => trivial)⟩ hS (lv_sub hl [2, 3, 4, 5, 6, 7] rfl)))) (fun h9 => absurd (lg_same _) h9)

set_option maxHeartbeats 1000000 in
set_option maxRecDepth 100000 in
theorem lc_agrees {p : Program} {l : Launch} {e : Env} {s : State} {m : MethodId} {args : Array Value} {below : List Frame} {meth : Method} {c : Code} {H : Heap} {locs : List Loc} {Q : State → Prop} {ls : Array Slot} {D : va_G} {cI cC cD cR cL cB : ClassId} {sa : sA} {AD : Nat → Nat} {h aG aB aH aS aI aL aT o oD b9 L : Nat} {xs : Nat → Int32} {k : Nat} (hC : lC p l s m args c D cI cC cD cR cL cB sa AD h aG aB aH aS aI aL aT o oD b9 L xs) (hk : 6 * k + 6 ≤ L) (hLI : lI D cI cC cD cR cL cB AD h aG aB aH aS aI aL aT o oD k H) (hS : va_S (lAN s) s.heap H locs) (hl : lv_has ls 9 [(0, .ref b9), (1, .ref (AD 0)), (2, .ref h), (3, .ref o), (4, .ref oD), (5, .int (nI (6 * k)))])
    (K : ∀ (H1 : Heap) (locs1 : List Loc) (ls1 : Array Slot), lI D cI cC cD cR cL cB AD h aG aB aH aS aI aL aT o oD (k + 1) H1 → va_S (lAN s) s.heap H1 locs1 → lv_has ls1 9 [(0, .ref b9), (1, .ref (AD 0)), (2, .ref h), (3, .ref o), (4, .ref oD), (5, .int (nI (6 * k)))] → W p l e room_1 s m args below meth c H1 locs1 (175 + 3 * (k + 1)) (3554 + 18 * (k + 1)) Q (F0 m 2679 ls1 [])) : W p l e room_1 s m args below meth c H locs (175 + 3 * k) (3554 + 18 * k) Q (F0 m 1510 ls []) := by
  obtain ⟨hx, hb, hml, hown, hts, hl9, hXs, hbl, hL, hT, hX, hI, hAD, ho9, hoD9, hne, hD7⟩ := hC
  obtain ⟨G, B, Hi, Sv, In, Le, To, ch, hs, ty, wy, ln, th, sp, iw, ea, ra, wd, hP7, hcW, hF, hO, hOB⟩ := hLI
  obtain ⟨b, hG, h25, hbt, -, hch, hHg, hhs, hSg, hty, hS7, hln, hLe, hwy⟩ := id hF
  have hk512 : k < 512 := by omega
  have hbb : b + 1 < 2 ^ 20 := by omega
  have hb32 : b + 32 < 2 ^ 20 := by omega
  have h13 : b < 8192 := by omega
  have hHw : ∀ j, j < ch → hAt Hi j 0 ≤ 8 ∧ hAt Hi j 1 ≤ 6 ∧ hAt Hi j 2 ≤ 5 := fun j hj => ⟨(hHg j hj).2.2.1, (hHg j hj).2.2.2.1, (hHg j hj).2.2.2.2.1⟩
  have hSw : hs = 1 → Sv 0 ≤ 8 ∧ Sv 1 ≤ 6 ∧ Sv 2 ≤ 5 := fun q => ⟨(hSg q).2.2.1, (hSg q).2.2.2.1, (hSg q).2.2.2.2.1⟩
  have ho := ho9.2
  have hoD := hoD9.2
  have hK7 : kS D [(cI, .int), (cC, .char)] [] s := ⟨hT.1.1.sub [0, 1] rfl, fun _ h9 => nomatch h9⟩
  have hA7 : ∀ q, l7 s AD o oD q → lAN s q := fun _ h9 => h9.1
  refine lv_aload_n hx hb dL_law_1510 rfl (lv_at hl 1 rfl) ?_
  refine lv_aload_n hx hb dL_law_1511 rfl (lv_at hl 0 rfl) ?_
  refine lv_iload hx hb dL_law_1512 (lv_at hl 5 rfl) ?_
  refine lv_iconst (v := nI 1) hx hb dL_law_1514 (by decide) ?_
  refine nv_iadd hx hb dL_law_1515 ?_
  refine nv_sld hx hb hXs hbl hS (by omega) hL dL_law_1516 ?_
  refine lv_aload_n hx hb dL_law_1517 rfl (lv_at hl 0 rfl) ?_
  refine lv_iload hx hb dL_law_1518 (lv_at hl 5 rfl) ?_
  refine lv_iconst (v := nI 2) hx hb dL_law_1520 (by decide) ?_
  refine nv_iadd hx hb dL_law_1521 ?_
  refine nv_sld hx hb hXs hbl hS (by omega) hL dL_law_1522 ?_
  refine lv_aload_n hx hb dL_law_1523 rfl (lv_at hl 0 rfl) ?_
  refine lv_iload hx hb dL_law_1524 (lv_at hl 5 rfl) ?_
  refine lv_iconst (v := nI 3) hx hb dL_law_1526 (by decide) ?_
  refine nv_iadd hx hb dL_law_1527 ?_
  refine nv_sld hx hb hXs hbl hS (by omega) hL dL_law_1528 ?_
  refine nv_bool hx hb dL_law_1529 dL_law_1532 dL_law_1533 dL_law_1536 ?_
  refine lv_aload_n hx hb dL_law_1537 rfl (lv_at hl 0 rfl) ?_
  refine lv_iload hx hb dL_law_1538 (lv_at hl 5 rfl) ?_
  refine lv_iconst (v := nI 4) hx hb dL_law_1540 (by decide) ?_
  refine nv_iadd hx hb dL_law_1541 ?_
  refine nv_sld hx hb hXs hbl hS (by omega) hL dL_law_1542 ?_
  refine lv_aload_n hx hb dL_law_1543 rfl (lv_at hl 3 rfl) ?_
  refine nv_kN (vx_runSX (hh := [(0, 14, 17, 15), (0, 14, 21, 13)]) (As := [.ref (AD 0), .int (xs (6 * k + 1)), .int (xs (6 * k + 2)), .int (nI (if xs (6 * k + 3) = 0 then 0 else 1)), .int (xs (6 * k + 4)), .ref o]) (rest := []) ⟨hx, hb, hml, hown, hts⟩ (c_L_agrees l hl9 ho hG hI (xs (6 * k + 1)) (xs (6 * k + 2)) (if xs (6 * k + 3) = 0 then 0 else 1) (xs (6 * k + 4)) (nv_b01 _)) (vx_cwSW 6 hts gL_law_L_agrees rfl rfl rfl (by decide +kernel) ⟨Nat.le_of_ble_eq_true rfl, Nat.le_of_ble_eq_true rfl⟩) (nl_pS hT hX hS (fun q h9 => h9.elim (fun ⟨i, _, hi, e9⟩ => by rw [e9]; exact hAD i hi) (fun e9 => by rw [e9]; exact ho9.1)) ⟨hcW, hO⟩) rfl rfl hl.1 rfl (lv_room (Nat.le_of_ble_eq_true rfl)) dL_law_1544 ⟨(show 175 + 3 * k + 2 ≤ 603072 by omega), (show 3554 + 18 * k + 12 ≤ 7219306 by omega)⟩) hS (fun q h9 => h9.elim (fun ⟨i, _, hi, e9⟩ => by rw [e9]; exact hAD i hi) (fun e9 => by rw [e9]; exact ho9.1)) (fun H1 locs1 hP1 hK1 hS1 => ?_)
  obtain ⟨hcW, hO9⟩ := hP1
  have hP7 := nv_keep7 (hD7 G B Hi Sv In Le To _) hP7 hK1 (fun q h9 h8 => h8.elim h9.2.1 (fun e9 => h9.2.2.1 e9))
  have hOB := hOB.kept hK1 (fun h8 => h8.elim hoD (fun e9 => hne e9.symm))
  have hO := hO9
  have hS := hS1
  refine lv_istore (lv' := [(6, .int (nI ((if iR (xs (6 * k + 1)) (G 0) then (if iR (xs (6 * k + 2)) 3 ∧ iR (xs (6 * k + 4)) 4 then 0 else 2) else 1)))), (0, .ref b9), (1, .ref (AD 0)), (2, .ref h), (3, .ref o), (4, .ref oD), (5, .int (nI (6 * k)))]) hx hb dL_law_1547 hl (by decide) rfl (fun ls hl => ?_)
  refine lv_aload_n hx hb dL_law_1549 rfl (lv_at hl 3 rfl) ?_
  refine lv_aload_n hx hb dL_law_1550 rfl (lv_at hl 1 rfl) ?_
  refine lv_iload hx hb dL_law_1551 (lv_at hl 6 rfl) ?_
  refine lv_iconst (v := nI 1) hx hb dL_law_1553 (by decide) ?_
  refine nv_iadd hx hb dL_law_1554 ?_
  refine nv_sld hx hb hXs hbl hS (by omega) hL dL_law_1555 ?_
  refine lv_aload_n hx hb dL_law_1556 rfl (lv_at hl 1 rfl) ?_
  refine lv_iload hx hb dL_law_1557 (lv_at hl 6 rfl) ?_
  refine lv_iconst (v := nI 2) hx hb dL_law_1559 (by decide) ?_
  refine nv_iadd hx hb dL_law_1560 ?_
  refine nv_sld hx hb hXs hbl hS (by omega) hL dL_law_1561 ?_
  refine lv_aload_n hx hb dL_law_1562 rfl (lv_at hl 1 rfl) ?_
  refine lv_iload hx hb dL_law_1563 (lv_at hl 6 rfl) ?_
  refine lv_iconst (v := nI 3) hx hb dL_law_1565 (by decide) ?_
  refine nv_iadd hx hb dL_law_1566 ?_
  refine nv_sld hx hb hXs hbl hS (by omega) hL dL_law_1567 ?_
  refine nv_bool hx hb dL_law_1568 dL_law_1571 dL_law_1572 dL_law_1575 ?_
  refine lv_aload_n hx hb dL_law_1576 rfl (lv_at hl 1 rfl) ?_
  refine lv_iload hx hb dL_law_1577 (lv_at hl 6 rfl) ?_
  refine lv_iconst (v := nI 4) hx hb dL_law_1579 (by decide) ?_
  refine nv_iadd hx hb dL_law_1580 ?_
  refine nv_sld hx hb hXs hbl hS (by omega) hL dL_law_1581 ?_
  refine nv_kM2 (va_runV (As := [.int (xs (6 * k + 1)), .int (xs (6 * k + 2)), .int (nI (if xs (6 * k + 3) = 0 then 0 else 1)), .int (xs (6 * k + 4))]) (rest := []) ⟨hx, hb, hml, hown, hts⟩ (c_X7_agrees l hD7 hG (xs (6 * k + 1)) (xs (6 * k + 2)) (if xs (6 * k + 3) = 0 then 0 else 1) (xs (6 * k + 4)) (nv_b01 _)) (cwV 4 hts gL_law_X7_agrees rfl rfl rfl (by decide +kernel) ⟨Nat.le_of_ble_eq_true rfl, Nat.le_of_ble_eq_true rfl⟩) (nv_pV hK7 hP7 (va_recv hT.1.1 hP7 (ci := 9) (q0 := 0) rfl rfl)) rfl rfl hl.1 rfl (lv_room (Nat.le_of_ble_eq_true rfl)) dL_law_1582 ⟨(show 175 + 3 * k + 2 + 0 ≤ 603072 by omega), (show 3554 + 18 * k + 12 + 0 ≤ 7219306 by omega)⟩) hS hA7 (fun H2 locs2 hP2 hK2 hS2 => ?_)
  have hP7 := hP2
  have hcW := cOn_W (l7 s AD o oD) _ _ (fun i _ hi h9 => h9.2.1 ⟨i, Nat.zero_le _, hi, rfl⟩) hK2 hcW
  have hO := hO.kept hK2 (fun h9 => h9.2.2.1 rfl)
  have hOB := hOB.kept hK2 (fun h9 => h9.2.2.2 rfl)
  have hS := hS2
  have hF9 := hF.next hk512
  refine lv_istore (lv' := [(7, .int (((if iR (xs (6 * k + 1)) (G 0) then (if iR (xs (6 * k + 2)) 3 ∧ iR (xs (6 * k + 4)) 4 then nI (gAgree G (tN (xs (6 * k + 1))) (tN (xs (6 * k + 2))) (if xs (6 * k + 3) = 0 then 0 else 1) (tN (xs (6 * k + 4)))) else 0) else 0)))), (6, .int (nI ((if iR (xs (6 * k + 1)) (G 0) then (if iR (xs (6 * k + 2)) 3 ∧ iR (xs (6 * k + 4)) 4 then 0 else 2) else 1)))), (0, .ref b9), (1, .ref (AD 0)), (2, .ref h), (3, .ref o), (4, .ref oD), (5, .int (nI (6 * k)))]) hx hb dL_law_1585 hl (by decide) rfl (fun ls hl => ?_)
  refine lv_aload_n hx hb dL_law_1587 rfl (lv_at hl 4 rfl) ?_
  refine nv_kS (va_runV (As := []) (rest := []) ⟨hx, hb, hml, hown, hts⟩ (c_X7_thrown l) (cwV 0 hts gL_law_X7_thrown rfl rfl rfl (by decide +kernel) ⟨Nat.le_of_ble_eq_true rfl, Nat.le_of_ble_eq_true rfl⟩) (nv_pV hK7 hP7 (va_recv hT.1.1 hP7 (ci := 9) (q0 := 0) rfl rfl)) rfl rfl hl.1 rfl (lv_room (Nat.le_of_ble_eq_true rfl)) dL_law_1588 ⟨(show 175 + 3 * k + 2 + 0 + 0 ≤ 603072 by omega), (show 3554 + 18 * k + 12 + 0 + 0 ≤ 7219306 by omega)⟩) ?_
  refine lv_iload hx hb dL_law_1591 (lv_at hl 1 rfl) ?_
  refine lv_icmp_eq (tgt := 1598) hx hb dL_law_1593 (by decide) (fun _ => ?_) (fun h9 => absurd rfl h9)
  refine lv_iload hx hb dL_law_1598 (lv_at hl 1 rfl) ?_
  refine lv_if_ne (tgt := 1615) hx hb dL_law_1600 (by decide) (fun _ => lv_goto (tgt := 2679) hx hb dL_law_1615 (by decide) (W.widen (k := 175 + 3 * (k + 1)) (n := 3554 + 18 * (k + 1)) (by omega) (by omega) (K _ _ _ ⟨_, _, _, _, _, _, _, _, _, _, _, _, _, _, _, _, _, _, hP7, hcW, hF9, hO.imp (fun _ _ => trivial), hOB.imp (fun _ _ => trivial)⟩ hS (lv_sub hl [2, 3, 4, 5, 6, 7] rfl)))) (fun h0 => ?_)
  have ht0 := nv_n0 (t := (if iR (xs (6 * k + 1)) (G 0) then (if iR (xs (6 * k + 2)) 3 ∧ iR (xs (6 * k + 4)) 4 then 0 else 2) else 1)) (by (repeat' split) <;> decide) h0
  refine lv_aload_n hx hb dL_law_1603 rfl (lv_at hl 5 rfl) ?_
  refine lv_iconst (v := nI 0) hx hb dL_law_1604 (by decide) ?_
  refine nv_laldO hx hb hX.1 0 rfl (hO.imp (fun _ z => z ht0)) dL_law_1605 ?_
  refine lv_iload hx hb dL_law_1606 (lv_at hl 0 rfl) ?_
  refine lv_i2l hx hb dL_law_1608 rfl ?_
  refine W.lcmp hx hb dL_law_1609 ?_
  exact lv_if_eq (tgt := 1615) hx hb dL_law_1610 (by decide) (fun _ => lv_goto (tgt := 2679) hx hb dL_law_1615 (by decide) (W.widen (k := 175 + 3 * (k + 1)) (n := 3554 + 18 * (k + 1)) (by omega) (by omega) (K _ _ _ ⟨_, _, _, _, _, _, _, _, _, _, _, _, _, _, _, _, _, _, hP7, hcW, hF9, hO.imp (fun _ _ => trivial), hOB.imp (fun _ _ => trivial)⟩ hS (lv_sub hl [2, 3, 4, 5, 6, 7] rfl)))) (fun h9 => absurd (lg_same _) h9)

set_option maxHeartbeats 1000000 in
set_option maxRecDepth 100000 in
theorem lc_keysFor {p : Program} {l : Launch} {e : Env} {s : State} {m : MethodId} {args : Array Value} {below : List Frame} {meth : Method} {c : Code} {H : Heap} {locs : List Loc} {Q : State → Prop} {ls : Array Slot} {D : va_G} {cI cC cD cR cL cB : ClassId} {sa : sA} {AD : Nat → Nat} {h aG aB aH aS aI aL aT o oD b9 L : Nat} {xs : Nat → Int32} {k : Nat} (hC : lC p l s m args c D cI cC cD cR cL cB sa AD h aG aB aH aS aI aL aT o oD b9 L xs) (hk : 6 * k + 6 ≤ L) (hLI : lI D cI cC cD cR cL cB AD h aG aB aH aS aI aL aT o oD k H) (hS : va_S (lAN s) s.heap H locs) (hl : lv_has ls 9 [(0, .ref b9), (1, .ref (AD 0)), (2, .ref h), (3, .ref o), (4, .ref oD), (5, .int (nI (6 * k)))])
    (K : ∀ (H1 : Heap) (locs1 : List Loc) (ls1 : Array Slot), lI D cI cC cD cR cL cB AD h aG aB aH aS aI aL aT o oD (k + 1) H1 → va_S (lAN s) s.heap H1 locs1 → lv_has ls1 9 [(0, .ref b9), (1, .ref (AD 0)), (2, .ref h), (3, .ref o), (4, .ref oD), (5, .int (nI (6 * k)))] → W p l e room_1 s m args below meth c H1 locs1 (175 + 3 * (k + 1)) (3554 + 18 * (k + 1)) Q (F0 m 2679 ls1 [])) : W p l e room_1 s m args below meth c H locs (175 + 3 * k) (3554 + 18 * k) Q (F0 m 1618 ls []) := by
  obtain ⟨hx, hb, hml, hown, hts, hl9, hXs, hbl, hL, hT, hX, hI, hAD, ho9, hoD9, hne, hD7⟩ := hC
  obtain ⟨G, B, Hi, Sv, In, Le, To, ch, hs, ty, wy, ln, th, sp, iw, ea, ra, wd, hP7, hcW, hF, hO, hOB⟩ := hLI
  obtain ⟨b, hG, h25, hbt, -, hch, hHg, hhs, hSg, hty, hS7, hln, hLe, hwy⟩ := id hF
  have hk512 : k < 512 := by omega
  have hbb : b + 1 < 2 ^ 20 := by omega
  have hb32 : b + 32 < 2 ^ 20 := by omega
  have h13 : b < 8192 := by omega
  have hHw : ∀ j, j < ch → hAt Hi j 0 ≤ 8 ∧ hAt Hi j 1 ≤ 6 ∧ hAt Hi j 2 ≤ 5 := fun j hj => ⟨(hHg j hj).2.2.1, (hHg j hj).2.2.2.1, (hHg j hj).2.2.2.2.1⟩
  have hSw : hs = 1 → Sv 0 ≤ 8 ∧ Sv 1 ≤ 6 ∧ Sv 2 ≤ 5 := fun q => ⟨(hSg q).2.2.1, (hSg q).2.2.2.1, (hSg q).2.2.2.2.1⟩
  have ho := ho9.2
  have hoD := hoD9.2
  have hK7 : kS D [(cI, .int), (cC, .char)] [] s := ⟨hT.1.1.sub [0, 1] rfl, fun _ h9 => nomatch h9⟩
  have hA7 : ∀ q, l7 s AD o oD q → lAN s q := fun _ h9 => h9.1
  refine lv_aload_n hx hb dL_law_1618 rfl (lv_at hl 1 rfl) ?_
  refine lv_aload_n hx hb dL_law_1619 rfl (lv_at hl 0 rfl) ?_
  refine lv_iload hx hb dL_law_1620 (lv_at hl 5 rfl) ?_
  refine lv_iconst (v := nI 1) hx hb dL_law_1622 (by decide) ?_
  refine nv_iadd hx hb dL_law_1623 ?_
  refine nv_sld hx hb hXs hbl hS (by omega) hL dL_law_1624 ?_
  refine lv_aload_n hx hb dL_law_1625 rfl (lv_at hl 3 rfl) ?_
  refine nv_kN (vx_runSX (hh := [(0, 9, 12, 15)]) (As := [.ref (AD 0), .int (xs (6 * k + 1)), .ref o]) (rest := []) ⟨hx, hb, hml, hown, hts⟩ (c_L_keysFor l hl9 ho hG hI (xs (6 * k + 1))) (vx_cwSW 3 hts gL_law_L_keysFor rfl rfl rfl (by decide +kernel) ⟨Nat.le_of_ble_eq_true rfl, Nat.le_of_ble_eq_true rfl⟩) (nl_pS hT hX hS (fun q h9 => h9.elim (fun ⟨i, _, hi, e9⟩ => by rw [e9]; exact hAD i hi) (fun e9 => by rw [e9]; exact ho9.1)) ⟨hcW, hO⟩) rfl rfl hl.1 rfl (lv_room (Nat.le_of_ble_eq_true rfl)) dL_law_1626 ⟨(show 175 + 3 * k + 1 ≤ 603072 by omega), (show 3554 + 18 * k + 6 ≤ 7219306 by omega)⟩) hS (fun q h9 => h9.elim (fun ⟨i, _, hi, e9⟩ => by rw [e9]; exact hAD i hi) (fun e9 => by rw [e9]; exact ho9.1)) (fun H1 locs1 hP1 hK1 hS1 => ?_)
  obtain ⟨hcW, hO9⟩ := hP1
  have hP7 := nv_keep7 (hD7 G B Hi Sv In Le To _) hP7 hK1 (fun q h9 h8 => h8.elim h9.2.1 (fun e9 => h9.2.2.1 e9))
  have hOB := hOB.kept hK1 (fun h8 => h8.elim hoD (fun e9 => hne e9.symm))
  have hO := hO9
  have hS := hS1
  refine lv_istore (lv' := [(6, .int (nI ((if iR (xs (6 * k + 1)) (G 0) then 0 else 1)))), (0, .ref b9), (1, .ref (AD 0)), (2, .ref h), (3, .ref o), (4, .ref oD), (5, .int (nI (6 * k)))]) hx hb dL_law_1629 hl (by decide) rfl (fun ls hl => ?_)
  refine lv_aload_n hx hb dL_law_1631 rfl (lv_at hl 3 rfl) ?_
  refine lv_aload_n hx hb dL_law_1632 rfl (lv_at hl 1 rfl) ?_
  refine lv_iload hx hb dL_law_1633 (lv_at hl 6 rfl) ?_
  refine lv_iconst (v := nI 1) hx hb dL_law_1635 (by decide) ?_
  refine nv_iadd hx hb dL_law_1636 ?_
  refine nv_sld hx hb hXs hbl hS (by omega) hL dL_law_1637 ?_
  refine nv_kM2 (va_runV (As := [.int (xs (6 * k + 1))]) (rest := []) ⟨hx, hb, hml, hown, hts⟩ (c_X7_keysFor l hD7 hG (xs (6 * k + 1))) (cwV 1 hts gL_law_X7_keysFor rfl rfl rfl (by decide +kernel) ⟨Nat.le_of_ble_eq_true rfl, Nat.le_of_ble_eq_true rfl⟩) (nv_pV hK7 hP7 (va_recv hT.1.1 hP7 (ci := 9) (q0 := 0) rfl rfl)) rfl rfl hl.1 rfl (lv_room (Nat.le_of_ble_eq_true rfl)) dL_law_1638 ⟨(show 175 + 3 * k + 1 + 0 ≤ 603072 by omega), (show 3554 + 18 * k + 6 + 0 ≤ 7219306 by omega)⟩) hS hA7 (fun H2 locs2 hP2 hK2 hS2 => ?_)
  have hP7 := hP2
  have hcW := cOn_W (l7 s AD o oD) _ _ (fun i _ hi h9 => h9.2.1 ⟨i, Nat.zero_le _, hi, rfl⟩) hK2 hcW
  have hO := hO.kept hK2 (fun h9 => h9.2.2.1 rfl)
  have hOB := hOB.kept hK2 (fun h9 => h9.2.2.2 rfl)
  have hS := hS2
  have hF9 := hF.next hk512
  refine lv_istore (lv' := [(7, .int (((if iR (xs (6 * k + 1)) (G 0) then nI (gKeys G (tN (xs (6 * k + 1)))) else 0)))), (6, .int (nI ((if iR (xs (6 * k + 1)) (G 0) then 0 else 1)))), (0, .ref b9), (1, .ref (AD 0)), (2, .ref h), (3, .ref o), (4, .ref oD), (5, .int (nI (6 * k)))]) hx hb dL_law_1641 hl (by decide) rfl (fun ls hl => ?_)
  refine lv_aload_n hx hb dL_law_1643 rfl (lv_at hl 4 rfl) ?_
  refine nv_kS (va_runV (As := []) (rest := []) ⟨hx, hb, hml, hown, hts⟩ (c_X7_thrown l) (cwV 0 hts gL_law_X7_thrown rfl rfl rfl (by decide +kernel) ⟨Nat.le_of_ble_eq_true rfl, Nat.le_of_ble_eq_true rfl⟩) (nv_pV hK7 hP7 (va_recv hT.1.1 hP7 (ci := 9) (q0 := 0) rfl rfl)) rfl rfl hl.1 rfl (lv_room (Nat.le_of_ble_eq_true rfl)) dL_law_1644 ⟨(show 175 + 3 * k + 1 + 0 + 0 ≤ 603072 by omega), (show 3554 + 18 * k + 6 + 0 + 0 ≤ 7219306 by omega)⟩) ?_
  refine lv_iload hx hb dL_law_1647 (lv_at hl 1 rfl) ?_
  refine lv_icmp_eq (tgt := 1654) hx hb dL_law_1649 (by decide) (fun _ => ?_) (fun h9 => absurd rfl h9)
  refine lv_iload hx hb dL_law_1654 (lv_at hl 1 rfl) ?_
  refine lv_if_ne (tgt := 1671) hx hb dL_law_1656 (by decide) (fun _ => lv_goto (tgt := 2679) hx hb dL_law_1671 (by decide) (W.widen (k := 175 + 3 * (k + 1)) (n := 3554 + 18 * (k + 1)) (by omega) (by omega) (K _ _ _ ⟨_, _, _, _, _, _, _, _, _, _, _, _, _, _, _, _, _, _, hP7, hcW, hF9, hO.imp (fun _ _ => trivial), hOB.imp (fun _ _ => trivial)⟩ hS (lv_sub hl [2, 3, 4, 5, 6, 7] rfl)))) (fun h0 => ?_)
  have ht0 := nv_n0 (t := (if iR (xs (6 * k + 1)) (G 0) then 0 else 1)) (by (repeat' split) <;> decide) h0
  refine lv_aload_n hx hb dL_law_1659 rfl (lv_at hl 5 rfl) ?_
  refine lv_iconst (v := nI 0) hx hb dL_law_1660 (by decide) ?_
  refine nv_laldO hx hb hX.1 0 rfl (hO.imp (fun _ z => z ht0)) dL_law_1661 ?_
  refine lv_iload hx hb dL_law_1662 (lv_at hl 0 rfl) ?_
  refine lv_i2l hx hb dL_law_1664 rfl ?_
  refine W.lcmp hx hb dL_law_1665 ?_
  exact lv_if_eq (tgt := 1671) hx hb dL_law_1666 (by decide) (fun _ => lv_goto (tgt := 2679) hx hb dL_law_1671 (by decide) (W.widen (k := 175 + 3 * (k + 1)) (n := 3554 + 18 * (k + 1)) (by omega) (by omega) (K _ _ _ ⟨_, _, _, _, _, _, _, _, _, _, _, _, _, _, _, _, _, _, hP7, hcW, hF9, hO.imp (fun _ _ => trivial), hOB.imp (fun _ _ => trivial)⟩ hS (lv_sub hl [2, 3, 4, 5, 6, 7] rfl)))) (fun h9 => absurd (lg_same _) h9)

set_option maxHeartbeats 1000000 in
set_option maxRecDepth 100000 in
theorem lc_way {p : Program} {l : Launch} {e : Env} {s : State} {m : MethodId} {args : Array Value} {below : List Frame} {meth : Method} {c : Code} {H : Heap} {locs : List Loc} {Q : State → Prop} {ls : Array Slot} {D : va_G} {cI cC cD cR cL cB : ClassId} {sa : sA} {AD : Nat → Nat} {h aG aB aH aS aI aL aT o oD b9 L : Nat} {xs : Nat → Int32} {k : Nat} (hC : lC p l s m args c D cI cC cD cR cL cB sa AD h aG aB aH aS aI aL aT o oD b9 L xs) (hk : 6 * k + 6 ≤ L) (hLI : lI D cI cC cD cR cL cB AD h aG aB aH aS aI aL aT o oD k H) (hS : va_S (lAN s) s.heap H locs) (hl : lv_has ls 9 [(0, .ref b9), (1, .ref (AD 0)), (2, .ref h), (3, .ref o), (4, .ref oD), (5, .int (nI (6 * k)))])
    (K : ∀ (H1 : Heap) (locs1 : List Loc) (ls1 : Array Slot), lI D cI cC cD cR cL cB AD h aG aB aH aS aI aL aT o oD (k + 1) H1 → va_S (lAN s) s.heap H1 locs1 → lv_has ls1 9 [(0, .ref b9), (1, .ref (AD 0)), (2, .ref h), (3, .ref o), (4, .ref oD), (5, .int (nI (6 * k)))] → W p l e room_1 s m args below meth c H1 locs1 (175 + 3 * (k + 1)) (3554 + 18 * (k + 1)) Q (F0 m 2679 ls1 [])) : W p l e room_1 s m args below meth c H locs (175 + 3 * k) (3554 + 18 * k) Q (F0 m 1674 ls []) := by
  obtain ⟨hx, hb, hml, hown, hts, hl9, hXs, hbl, hL, hT, hX, hI, hAD, ho9, hoD9, hne, hD7⟩ := hC
  obtain ⟨G, B, Hi, Sv, In, Le, To, ch, hs, ty, wy, ln, th, sp, iw, ea, ra, wd, hP7, hcW, hF, hO, hOB⟩ := hLI
  obtain ⟨b, hG, h25, hbt, -, hch, hHg, hhs, hSg, hty, hS7, hln, hLe, hwy⟩ := id hF
  have hk512 : k < 512 := by omega
  have hbb : b + 1 < 2 ^ 20 := by omega
  have hb32 : b + 32 < 2 ^ 20 := by omega
  have h13 : b < 8192 := by omega
  have hHw : ∀ j, j < ch → hAt Hi j 0 ≤ 8 ∧ hAt Hi j 1 ≤ 6 ∧ hAt Hi j 2 ≤ 5 := fun j hj => ⟨(hHg j hj).2.2.1, (hHg j hj).2.2.2.1, (hHg j hj).2.2.2.2.1⟩
  have hSw : hs = 1 → Sv 0 ≤ 8 ∧ Sv 1 ≤ 6 ∧ Sv 2 ≤ 5 := fun q => ⟨(hSg q).2.2.1, (hSg q).2.2.2.1, (hSg q).2.2.2.2.1⟩
  have ho := ho9.2
  have hoD := hoD9.2
  have hK7 : kS D [(cI, .int), (cC, .char)] [] s := ⟨hT.1.1.sub [0, 1] rfl, fun _ h9 => nomatch h9⟩
  have hA7 : ∀ q, l7 s AD o oD q → lAN s q := fun _ h9 => h9.1
  refine lv_aload_n hx hb dL_law_1674 rfl (lv_at hl 1 rfl) ?_
  refine lv_aload_n hx hb dL_law_1675 rfl (lv_at hl 0 rfl) ?_
  refine lv_iload hx hb dL_law_1676 (lv_at hl 5 rfl) ?_
  refine lv_iconst (v := nI 1) hx hb dL_law_1678 (by decide) ?_
  refine nv_iadd hx hb dL_law_1679 ?_
  refine nv_sld hx hb hXs hbl hS (by omega) hL dL_law_1680 ?_
  refine lv_aload_n hx hb dL_law_1681 rfl (lv_at hl 0 rfl) ?_
  refine lv_iload hx hb dL_law_1682 (lv_at hl 5 rfl) ?_
  refine lv_iconst (v := nI 2) hx hb dL_law_1684 (by decide) ?_
  refine nv_iadd hx hb dL_law_1685 ?_
  refine nv_sld hx hb hXs hbl hS (by omega) hL dL_law_1686 ?_
  refine lv_aload_n hx hb dL_law_1687 rfl (lv_at hl 0 rfl) ?_
  refine lv_iload hx hb dL_law_1688 (lv_at hl 5 rfl) ?_
  refine lv_iconst (v := nI 3) hx hb dL_law_1690 (by decide) ?_
  refine nv_iadd hx hb dL_law_1691 ?_
  refine nv_sld hx hb hXs hbl hS (by omega) hL dL_law_1692 ?_
  refine nv_bool hx hb dL_law_1693 dL_law_1696 dL_law_1697 dL_law_1700 ?_
  refine lv_aload_n hx hb dL_law_1701 rfl (lv_at hl 3 rfl) ?_
  refine nv_kN (vx_runSX (hh := [(0, 12, 15, 15), (0, 12, 19, 83)]) (As := [.ref (AD 0), .int (xs (6 * k + 1)), .int (xs (6 * k + 2)), .int (nI (if xs (6 * k + 3) = 0 then 0 else 1)), .ref o]) (rest := []) ⟨hx, hb, hml, hown, hts⟩ (c_L_way l hl9 ho hG hI (xs (6 * k + 1)) (xs (6 * k + 2)) (if xs (6 * k + 3) = 0 then 0 else 1) (nv_b01 _)) (vx_cwSW 5 hts gL_law_L_way rfl rfl rfl (by decide +kernel) ⟨Nat.le_of_ble_eq_true rfl, Nat.le_of_ble_eq_true rfl⟩) (nl_pS hT hX hS (fun q h9 => h9.elim (fun ⟨i, _, hi, e9⟩ => by rw [e9]; exact hAD i hi) (fun e9 => by rw [e9]; exact ho9.1)) ⟨hcW, hO⟩) rfl rfl hl.1 rfl (lv_room (Nat.le_of_ble_eq_true rfl)) dL_law_1702 ⟨(show 175 + 3 * k + 3 ≤ 603072 by omega), (show 3554 + 18 * k + 18 ≤ 7219306 by omega)⟩) hS (fun q h9 => h9.elim (fun ⟨i, _, hi, e9⟩ => by rw [e9]; exact hAD i hi) (fun e9 => by rw [e9]; exact ho9.1)) (fun H1 locs1 hP1 hK1 hS1 => ?_)
  obtain ⟨hcW, hO9⟩ := hP1
  have hP7 := nv_keep7 (hD7 G B Hi Sv In Le To _) hP7 hK1 (fun q h9 h8 => h8.elim h9.2.1 (fun e9 => h9.2.2.1 e9))
  have hOB := hOB.kept hK1 (fun h8 => h8.elim hoD (fun e9 => hne e9.symm))
  have hO := hO9
  have hS := hS1
  refine lv_istore (lv' := [(6, .int (nI ((if iR (xs (6 * k + 1)) 6 ∧ iR (xs (6 * k + 2)) 6 then (if gWay G (tN (xs (6 * k + 1))) (tN (xs (6 * k + 2))) < 6 then 0 else 2) else 1)))), (0, .ref b9), (1, .ref (AD 0)), (2, .ref h), (3, .ref o), (4, .ref oD), (5, .int (nI (6 * k)))]) hx hb dL_law_1705 hl (by decide) rfl (fun ls hl => ?_)
  refine lv_aload_n hx hb dL_law_1707 rfl (lv_at hl 3 rfl) ?_
  refine lv_aload_n hx hb dL_law_1708 rfl (lv_at hl 1 rfl) ?_
  refine lv_iload hx hb dL_law_1709 (lv_at hl 6 rfl) ?_
  refine lv_iconst (v := nI 1) hx hb dL_law_1711 (by decide) ?_
  refine nv_iadd hx hb dL_law_1712 ?_
  refine nv_sld hx hb hXs hbl hS (by omega) hL dL_law_1713 ?_
  refine lv_aload_n hx hb dL_law_1714 rfl (lv_at hl 1 rfl) ?_
  refine lv_iload hx hb dL_law_1715 (lv_at hl 6 rfl) ?_
  refine lv_iconst (v := nI 2) hx hb dL_law_1717 (by decide) ?_
  refine nv_iadd hx hb dL_law_1718 ?_
  refine nv_sld hx hb hXs hbl hS (by omega) hL dL_law_1719 ?_
  refine lv_aload_n hx hb dL_law_1720 rfl (lv_at hl 1 rfl) ?_
  refine lv_iload hx hb dL_law_1721 (lv_at hl 6 rfl) ?_
  refine lv_iconst (v := nI 3) hx hb dL_law_1723 (by decide) ?_
  refine nv_iadd hx hb dL_law_1724 ?_
  refine nv_sld hx hb hXs hbl hS (by omega) hL dL_law_1725 ?_
  refine nv_bool hx hb dL_law_1726 dL_law_1729 dL_law_1730 dL_law_1733 ?_
  refine nv_kM2 (va_runV (As := [.int (xs (6 * k + 1)), .int (xs (6 * k + 2)), .int (nI (if xs (6 * k + 3) = 0 then 0 else 1))]) (rest := []) ⟨hx, hb, hml, hown, hts⟩ (c_X7_way l hD7 hG (xs (6 * k + 1)) (xs (6 * k + 2)) (if xs (6 * k + 3) = 0 then 0 else 1)) (cwV 3 hts gL_law_X7_way rfl rfl rfl (by decide +kernel) ⟨Nat.le_of_ble_eq_true rfl, Nat.le_of_ble_eq_true rfl⟩) (nv_pV hK7 hP7 (va_recv hT.1.1 hP7 (ci := 9) (q0 := 0) rfl rfl)) rfl rfl hl.1 rfl (lv_room (Nat.le_of_ble_eq_true rfl)) dL_law_1734 ⟨(show 175 + 3 * k + 3 + 0 ≤ 603072 by omega), (show 3554 + 18 * k + 18 + 0 ≤ 7219306 by omega)⟩) hS hA7 (fun H2 locs2 hP2 hK2 hS2 => ?_)
  have hP7 := hP2
  have hcW := cOn_W (l7 s AD o oD) _ _ (fun i _ hi h9 => h9.2.1 ⟨i, Nat.zero_le _, hi, rfl⟩) hK2 hcW
  have hO := hO.kept hK2 (fun h9 => h9.2.2.1 rfl)
  have hOB := hOB.kept hK2 (fun h9 => h9.2.2.2 rfl)
  have hS := hS2
  have hF9 := hF.next hk512
  refine lv_istore (lv' := [(7, .int (((if iR (xs (6 * k + 1)) 6 ∧ iR (xs (6 * k + 2)) 6 then (if gWay G (tN (xs (6 * k + 1))) (tN (xs (6 * k + 2))) < 6 then nI (gWay G (tN (xs (6 * k + 1))) (tN (xs (6 * k + 2)))) else 0) else 0)))), (6, .int (nI ((if iR (xs (6 * k + 1)) 6 ∧ iR (xs (6 * k + 2)) 6 then (if gWay G (tN (xs (6 * k + 1))) (tN (xs (6 * k + 2))) < 6 then 0 else 2) else 1)))), (0, .ref b9), (1, .ref (AD 0)), (2, .ref h), (3, .ref o), (4, .ref oD), (5, .int (nI (6 * k)))]) hx hb dL_law_1737 hl (by decide) rfl (fun ls hl => ?_)
  refine lv_aload_n hx hb dL_law_1739 rfl (lv_at hl 4 rfl) ?_
  refine nv_kS (va_runV (As := []) (rest := []) ⟨hx, hb, hml, hown, hts⟩ (c_X7_thrown l) (cwV 0 hts gL_law_X7_thrown rfl rfl rfl (by decide +kernel) ⟨Nat.le_of_ble_eq_true rfl, Nat.le_of_ble_eq_true rfl⟩) (nv_pV hK7 hP7 (va_recv hT.1.1 hP7 (ci := 9) (q0 := 0) rfl rfl)) rfl rfl hl.1 rfl (lv_room (Nat.le_of_ble_eq_true rfl)) dL_law_1740 ⟨(show 175 + 3 * k + 3 + 0 + 0 ≤ 603072 by omega), (show 3554 + 18 * k + 18 + 0 + 0 ≤ 7219306 by omega)⟩) ?_
  refine lv_iload hx hb dL_law_1743 (lv_at hl 1 rfl) ?_
  refine lv_icmp_eq (tgt := 1750) hx hb dL_law_1745 (by decide) (fun _ => ?_) (fun h9 => absurd rfl h9)
  refine lv_iload hx hb dL_law_1750 (lv_at hl 1 rfl) ?_
  refine lv_if_ne (tgt := 1767) hx hb dL_law_1752 (by decide) (fun _ => lv_goto (tgt := 2679) hx hb dL_law_1767 (by decide) (W.widen (k := 175 + 3 * (k + 1)) (n := 3554 + 18 * (k + 1)) (by omega) (by omega) (K _ _ _ ⟨_, _, _, _, _, _, _, _, _, _, _, _, _, _, _, _, _, _, hP7, hcW, hF9, hO.imp (fun _ _ => trivial), hOB.imp (fun _ _ => trivial)⟩ hS (lv_sub hl [2, 3, 4, 5, 6, 7] rfl)))) (fun h0 => ?_)
  have ht0 := nv_n0 (t := (if iR (xs (6 * k + 1)) 6 ∧ iR (xs (6 * k + 2)) 6 then (if gWay G (tN (xs (6 * k + 1))) (tN (xs (6 * k + 2))) < 6 then 0 else 2) else 1)) (by (repeat' split) <;> decide) h0
  refine lv_aload_n hx hb dL_law_1755 rfl (lv_at hl 5 rfl) ?_
  refine lv_iconst (v := nI 0) hx hb dL_law_1756 (by decide) ?_
  refine nv_laldO hx hb hX.1 0 rfl (hO.imp (fun _ z => z ht0)) dL_law_1757 ?_
  refine lv_iload hx hb dL_law_1758 (lv_at hl 0 rfl) ?_
  refine lv_i2l hx hb dL_law_1760 rfl ?_
  refine W.lcmp hx hb dL_law_1761 ?_
  exact lv_if_eq (tgt := 1767) hx hb dL_law_1762 (by decide) (fun _ => lv_goto (tgt := 2679) hx hb dL_law_1767 (by decide) (W.widen (k := 175 + 3 * (k + 1)) (n := 3554 + 18 * (k + 1)) (by omega) (by omega) (K _ _ _ ⟨_, _, _, _, _, _, _, _, _, _, _, _, _, _, _, _, _, _, hP7, hcW, hF9, hO.imp (fun _ _ => trivial), hOB.imp (fun _ _ => trivial)⟩ hS (lv_sub hl [2, 3, 4, 5, 6, 7] rfl)))) (fun h9 => absurd (lg_same _) h9)

set_option maxHeartbeats 1000000 in
set_option maxRecDepth 100000 in
theorem lc_reached {p : Program} {l : Launch} {e : Env} {s : State} {m : MethodId} {args : Array Value} {below : List Frame} {meth : Method} {c : Code} {H : Heap} {locs : List Loc} {Q : State → Prop} {ls : Array Slot} {D : va_G} {cI cC cD cR cL cB : ClassId} {sa : sA} {AD : Nat → Nat} {h aG aB aH aS aI aL aT o oD b9 L : Nat} {xs : Nat → Int32} {k : Nat} (hC : lC p l s m args c D cI cC cD cR cL cB sa AD h aG aB aH aS aI aL aT o oD b9 L xs) (hk : 6 * k + 6 ≤ L) (hLI : lI D cI cC cD cR cL cB AD h aG aB aH aS aI aL aT o oD k H) (hS : va_S (lAN s) s.heap H locs) (hl : lv_has ls 9 [(0, .ref b9), (1, .ref (AD 0)), (2, .ref h), (3, .ref o), (4, .ref oD), (5, .int (nI (6 * k)))])
    (K : ∀ (H1 : Heap) (locs1 : List Loc) (ls1 : Array Slot), lI D cI cC cD cR cL cB AD h aG aB aH aS aI aL aT o oD (k + 1) H1 → va_S (lAN s) s.heap H1 locs1 → lv_has ls1 9 [(0, .ref b9), (1, .ref (AD 0)), (2, .ref h), (3, .ref o), (4, .ref oD), (5, .int (nI (6 * k)))] → W p l e room_1 s m args below meth c H1 locs1 (175 + 3 * (k + 1)) (3554 + 18 * (k + 1)) Q (F0 m 2679 ls1 [])) : W p l e room_1 s m args below meth c H locs (175 + 3 * k) (3554 + 18 * k) Q (F0 m 1770 ls []) := by
  obtain ⟨hx, hb, hml, hown, hts, hl9, hXs, hbl, hL, hT, hX, hI, hAD, ho9, hoD9, hne, hD7⟩ := hC
  obtain ⟨G, B, Hi, Sv, In, Le, To, ch, hs, ty, wy, ln, th, sp, iw, ea, ra, wd, hP7, hcW, hF, hO, hOB⟩ := hLI
  obtain ⟨b, hG, h25, hbt, -, hch, hHg, hhs, hSg, hty, hS7, hln, hLe, hwy⟩ := id hF
  have hk512 : k < 512 := by omega
  have hbb : b + 1 < 2 ^ 20 := by omega
  have hb32 : b + 32 < 2 ^ 20 := by omega
  have h13 : b < 8192 := by omega
  have hHw : ∀ j, j < ch → hAt Hi j 0 ≤ 8 ∧ hAt Hi j 1 ≤ 6 ∧ hAt Hi j 2 ≤ 5 := fun j hj => ⟨(hHg j hj).2.2.1, (hHg j hj).2.2.2.1, (hHg j hj).2.2.2.2.1⟩
  have hSw : hs = 1 → Sv 0 ≤ 8 ∧ Sv 1 ≤ 6 ∧ Sv 2 ≤ 5 := fun q => ⟨(hSg q).2.2.1, (hSg q).2.2.2.1, (hSg q).2.2.2.2.1⟩
  have ho := ho9.2
  have hoD := hoD9.2
  have hK7 : kS D [(cI, .int), (cC, .char)] [] s := ⟨hT.1.1.sub [0, 1] rfl, fun _ h9 => nomatch h9⟩
  have hA7 : ∀ q, l7 s AD o oD q → lAN s q := fun _ h9 => h9.1
  refine lv_aload_n hx hb dL_law_1770 rfl (lv_at hl 1 rfl) ?_
  refine lv_aload_n hx hb dL_law_1771 rfl (lv_at hl 0 rfl) ?_
  refine lv_iload hx hb dL_law_1772 (lv_at hl 5 rfl) ?_
  refine lv_iconst (v := nI 1) hx hb dL_law_1774 (by decide) ?_
  refine nv_iadd hx hb dL_law_1775 ?_
  refine nv_sld hx hb hXs hbl hS (by omega) hL dL_law_1776 ?_
  refine lv_aload_n hx hb dL_law_1777 rfl (lv_at hl 3 rfl) ?_
  refine nv_kN (vx_runSX (hh := [(0, 9, 12, 15)]) (As := [.ref (AD 0), .int (xs (6 * k + 1)), .ref o]) (rest := []) ⟨hx, hb, hml, hown, hts⟩ (c_L_reached l hl9 ho hG hI (xs (6 * k + 1))) (vx_cwSW 3 hts gL_law_L_reached rfl rfl rfl (by decide +kernel) ⟨Nat.le_of_ble_eq_true rfl, Nat.le_of_ble_eq_true rfl⟩) (nl_pS hT hX hS (fun q h9 => h9.elim (fun ⟨i, _, hi, e9⟩ => by rw [e9]; exact hAD i hi) (fun e9 => by rw [e9]; exact ho9.1)) ⟨hcW, hO⟩) rfl rfl hl.1 rfl (lv_room (Nat.le_of_ble_eq_true rfl)) dL_law_1778 ⟨(show 175 + 3 * k + 1 ≤ 603072 by omega), (show 3554 + 18 * k + 6 ≤ 7219306 by omega)⟩) hS (fun q h9 => h9.elim (fun ⟨i, _, hi, e9⟩ => by rw [e9]; exact hAD i hi) (fun e9 => by rw [e9]; exact ho9.1)) (fun H1 locs1 hP1 hK1 hS1 => ?_)
  obtain ⟨hcW, hO9⟩ := hP1
  have hP7 := nv_keep7 (hD7 G B Hi Sv In Le To _) hP7 hK1 (fun q h9 h8 => h8.elim h9.2.1 (fun e9 => h9.2.2.1 e9))
  have hOB := hOB.kept hK1 (fun h8 => h8.elim hoD (fun e9 => hne e9.symm))
  have hO := hO9
  have hS := hS1
  refine lv_istore (lv' := [(6, .int (nI ((if iR (xs (6 * k + 1)) 6 then 0 else 1)))), (0, .ref b9), (1, .ref (AD 0)), (2, .ref h), (3, .ref o), (4, .ref oD), (5, .int (nI (6 * k)))]) hx hb dL_law_1781 hl (by decide) rfl (fun ls hl => ?_)
  refine lv_aload_n hx hb dL_law_1783 rfl (lv_at hl 3 rfl) ?_
  refine lv_aload_n hx hb dL_law_1784 rfl (lv_at hl 1 rfl) ?_
  refine lv_iload hx hb dL_law_1785 (lv_at hl 6 rfl) ?_
  refine lv_iconst (v := nI 1) hx hb dL_law_1787 (by decide) ?_
  refine nv_iadd hx hb dL_law_1788 ?_
  refine nv_sld hx hb hXs hbl hS (by omega) hL dL_law_1789 ?_
  refine nv_kM2 (va_runV (As := [.int (xs (6 * k + 1))]) (rest := []) ⟨hx, hb, hml, hown, hts⟩ (c_X7_reached l hD7 hG (xs (6 * k + 1))) (cwV 1 hts gL_law_X7_reached rfl rfl rfl (by decide +kernel) ⟨Nat.le_of_ble_eq_true rfl, Nat.le_of_ble_eq_true rfl⟩) (nv_pV hK7 hP7 (va_recv hT.1.1 hP7 (ci := 9) (q0 := 0) rfl rfl)) rfl rfl hl.1 rfl (lv_room (Nat.le_of_ble_eq_true rfl)) dL_law_1790 ⟨(show 175 + 3 * k + 1 + 0 ≤ 603072 by omega), (show 3554 + 18 * k + 6 + 0 ≤ 7219306 by omega)⟩) hS hA7 (fun H2 locs2 hP2 hK2 hS2 => ?_)
  have hP7 := hP2
  have hcW := cOn_W (l7 s AD o oD) _ _ (fun i _ hi h9 => h9.2.1 ⟨i, Nat.zero_le _, hi, rfl⟩) hK2 hcW
  have hO := hO.kept hK2 (fun h9 => h9.2.2.1 rfl)
  have hOB := hOB.kept hK2 (fun h9 => h9.2.2.2 rfl)
  have hS := hS2
  have hF9 := hF.next hk512
  refine lv_istore (lv' := [(7, .int (((if iR (xs (6 * k + 1)) 6 then nI (gRw G (tN (xs (6 * k + 1))) (-1)) else 0)))), (6, .int (nI ((if iR (xs (6 * k + 1)) 6 then 0 else 1)))), (0, .ref b9), (1, .ref (AD 0)), (2, .ref h), (3, .ref o), (4, .ref oD), (5, .int (nI (6 * k)))]) hx hb dL_law_1793 hl (by decide) rfl (fun ls hl => ?_)
  refine lv_aload_n hx hb dL_law_1795 rfl (lv_at hl 4 rfl) ?_
  refine nv_kS (va_runV (As := []) (rest := []) ⟨hx, hb, hml, hown, hts⟩ (c_X7_thrown l) (cwV 0 hts gL_law_X7_thrown rfl rfl rfl (by decide +kernel) ⟨Nat.le_of_ble_eq_true rfl, Nat.le_of_ble_eq_true rfl⟩) (nv_pV hK7 hP7 (va_recv hT.1.1 hP7 (ci := 9) (q0 := 0) rfl rfl)) rfl rfl hl.1 rfl (lv_room (Nat.le_of_ble_eq_true rfl)) dL_law_1796 ⟨(show 175 + 3 * k + 1 + 0 + 0 ≤ 603072 by omega), (show 3554 + 18 * k + 6 + 0 + 0 ≤ 7219306 by omega)⟩) ?_
  refine lv_iload hx hb dL_law_1799 (lv_at hl 1 rfl) ?_
  refine lv_icmp_eq (tgt := 1806) hx hb dL_law_1801 (by decide) (fun _ => ?_) (fun h9 => absurd rfl h9)
  refine lv_iload hx hb dL_law_1806 (lv_at hl 1 rfl) ?_
  refine lv_if_ne (tgt := 1823) hx hb dL_law_1808 (by decide) (fun _ => lv_goto (tgt := 2679) hx hb dL_law_1823 (by decide) (W.widen (k := 175 + 3 * (k + 1)) (n := 3554 + 18 * (k + 1)) (by omega) (by omega) (K _ _ _ ⟨_, _, _, _, _, _, _, _, _, _, _, _, _, _, _, _, _, _, hP7, hcW, hF9, hO.imp (fun _ _ => trivial), hOB.imp (fun _ _ => trivial)⟩ hS (lv_sub hl [2, 3, 4, 5, 6, 7] rfl)))) (fun h0 => ?_)
  have ht0 := nv_n0 (t := (if iR (xs (6 * k + 1)) 6 then 0 else 1)) (by (repeat' split) <;> decide) h0
  refine lv_aload_n hx hb dL_law_1811 rfl (lv_at hl 5 rfl) ?_
  refine lv_iconst (v := nI 0) hx hb dL_law_1812 (by decide) ?_
  refine nv_laldO hx hb hX.1 0 rfl (hO.imp (fun _ z => z ht0)) dL_law_1813 ?_
  refine lv_iload hx hb dL_law_1814 (lv_at hl 0 rfl) ?_
  refine lv_i2l hx hb dL_law_1816 rfl ?_
  refine W.lcmp hx hb dL_law_1817 ?_
  exact lv_if_eq (tgt := 1823) hx hb dL_law_1818 (by decide) (fun _ => lv_goto (tgt := 2679) hx hb dL_law_1823 (by decide) (W.widen (k := 175 + 3 * (k + 1)) (n := 3554 + 18 * (k + 1)) (by omega) (by omega) (K _ _ _ ⟨_, _, _, _, _, _, _, _, _, _, _, _, _, _, _, _, _, _, hP7, hcW, hF9, hO.imp (fun _ _ => trivial), hOB.imp (fun _ _ => trivial)⟩ hS (lv_sub hl [2, 3, 4, 5, 6, 7] rfl)))) (fun h9 => absurd (lg_same _) h9)

set_option maxHeartbeats 1000000 in
set_option maxRecDepth 100000 in
theorem lc_best {p : Program} {l : Launch} {e : Env} {s : State} {m : MethodId} {args : Array Value} {below : List Frame} {meth : Method} {c : Code} {H : Heap} {locs : List Loc} {Q : State → Prop} {ls : Array Slot} {D : va_G} {cI cC cD cR cL cB : ClassId} {sa : sA} {AD : Nat → Nat} {h aG aB aH aS aI aL aT o oD b9 L : Nat} {xs : Nat → Int32} {k : Nat} (hC : lC p l s m args c D cI cC cD cR cL cB sa AD h aG aB aH aS aI aL aT o oD b9 L xs) (hk : 6 * k + 6 ≤ L) (hLI : lI D cI cC cD cR cL cB AD h aG aB aH aS aI aL aT o oD k H) (hS : va_S (lAN s) s.heap H locs) (hl : lv_has ls 9 [(0, .ref b9), (1, .ref (AD 0)), (2, .ref h), (3, .ref o), (4, .ref oD), (5, .int (nI (6 * k)))])
    (K : ∀ (H1 : Heap) (locs1 : List Loc) (ls1 : Array Slot), lI D cI cC cD cR cL cB AD h aG aB aH aS aI aL aT o oD (k + 1) H1 → va_S (lAN s) s.heap H1 locs1 → lv_has ls1 9 [(0, .ref b9), (1, .ref (AD 0)), (2, .ref h), (3, .ref o), (4, .ref oD), (5, .int (nI (6 * k)))] → W p l e room_1 s m args below meth c H1 locs1 (175 + 3 * (k + 1)) (3554 + 18 * (k + 1)) Q (F0 m 2679 ls1 [])) : W p l e room_1 s m args below meth c H locs (175 + 3 * k) (3554 + 18 * k) Q (F0 m 1826 ls []) := by
  obtain ⟨hx, hb, hml, hown, hts, hl9, hXs, hbl, hL, hT, hX, hI, hAD, ho9, hoD9, hne, hD7⟩ := hC
  obtain ⟨G, B, Hi, Sv, In, Le, To, ch, hs, ty, wy, ln, th, sp, iw, ea, ra, wd, hP7, hcW, hF, hO, hOB⟩ := hLI
  obtain ⟨b, hG, h25, hbt, -, hch, hHg, hhs, hSg, hty, hS7, hln, hLe, hwy⟩ := id hF
  have hk512 : k < 512 := by omega
  have hbb : b + 1 < 2 ^ 20 := by omega
  have hb32 : b + 32 < 2 ^ 20 := by omega
  have h13 : b < 8192 := by omega
  have hHw : ∀ j, j < ch → hAt Hi j 0 ≤ 8 ∧ hAt Hi j 1 ≤ 6 ∧ hAt Hi j 2 ≤ 5 := fun j hj => ⟨(hHg j hj).2.2.1, (hHg j hj).2.2.2.1, (hHg j hj).2.2.2.2.1⟩
  have hSw : hs = 1 → Sv 0 ≤ 8 ∧ Sv 1 ≤ 6 ∧ Sv 2 ≤ 5 := fun q => ⟨(hSg q).2.2.1, (hSg q).2.2.2.1, (hSg q).2.2.2.2.1⟩
  have ho := ho9.2
  have hoD := hoD9.2
  have hK7 : kS D [(cI, .int), (cC, .char)] [] s := ⟨hT.1.1.sub [0, 1] rfl, fun _ h9 => nomatch h9⟩
  have hA7 : ∀ q, l7 s AD o oD q → lAN s q := fun _ h9 => h9.1
  refine lv_aload_n hx hb dL_law_1826 rfl (lv_at hl 1 rfl) ?_
  refine lv_aload_n hx hb dL_law_1827 rfl (lv_at hl 0 rfl) ?_
  refine lv_iload hx hb dL_law_1828 (lv_at hl 5 rfl) ?_
  refine lv_iconst (v := nI 1) hx hb dL_law_1830 (by decide) ?_
  refine nv_iadd hx hb dL_law_1831 ?_
  refine nv_sld hx hb hXs hbl hS (by omega) hL dL_law_1832 ?_
  refine lv_aload_n hx hb dL_law_1833 rfl (lv_at hl 3 rfl) ?_
  refine nv_kN (vx_runSX (hh := [(0, 9, 12, 15), (0, 9, 15, 83)]) (As := [.ref (AD 0), .int (xs (6 * k + 1)), .ref o]) (rest := []) ⟨hx, hb, hml, hown, hts⟩ (c_L_best l hl9 ho hG hI (xs (6 * k + 1))) (vx_cwSW 3 hts gL_law_L_best rfl rfl rfl (by decide +kernel) ⟨Nat.le_of_ble_eq_true rfl, Nat.le_of_ble_eq_true rfl⟩) (nl_pS hT hX hS (fun q h9 => h9.elim (fun ⟨i, _, hi, e9⟩ => by rw [e9]; exact hAD i hi) (fun e9 => by rw [e9]; exact ho9.1)) ⟨hcW, hO⟩) rfl rfl hl.1 rfl (lv_room (Nat.le_of_ble_eq_true rfl)) dL_law_1834 ⟨(show 175 + 3 * k + 2 ≤ 603072 by omega), (show 3554 + 18 * k + 12 ≤ 7219306 by omega)⟩) hS (fun q h9 => h9.elim (fun ⟨i, _, hi, e9⟩ => by rw [e9]; exact hAD i hi) (fun e9 => by rw [e9]; exact ho9.1)) (fun H1 locs1 hP1 hK1 hS1 => ?_)
  obtain ⟨hcW, hO9⟩ := hP1
  have hP7 := nv_keep7 (hD7 G B Hi Sv In Le To _) hP7 hK1 (fun q h9 h8 => h8.elim h9.2.1 (fun e9 => h9.2.2.1 e9))
  have hOB := hOB.kept hK1 (fun h8 => h8.elim hoD (fun e9 => hne e9.symm))
  have hO := hO9
  have hS := hS1
  refine lv_istore (lv' := [(6, .int (nI ((if iR (xs (6 * k + 1)) 6 then (if gBb G (tN (xs (6 * k + 1))) (G 0) = -1 then 2 else 0) else 1)))), (0, .ref b9), (1, .ref (AD 0)), (2, .ref h), (3, .ref o), (4, .ref oD), (5, .int (nI (6 * k)))]) hx hb dL_law_1837 hl (by decide) rfl (fun ls hl => ?_)
  refine lv_aload_n hx hb dL_law_1839 rfl (lv_at hl 3 rfl) ?_
  refine lv_aload_n hx hb dL_law_1840 rfl (lv_at hl 1 rfl) ?_
  refine lv_iload hx hb dL_law_1841 (lv_at hl 6 rfl) ?_
  refine lv_iconst (v := nI 1) hx hb dL_law_1843 (by decide) ?_
  refine nv_iadd hx hb dL_law_1844 ?_
  refine nv_sld hx hb hXs hbl hS (by omega) hL dL_law_1845 ?_
  refine nv_kM2 (va_runV (As := [.int (xs (6 * k + 1))]) (rest := []) ⟨hx, hb, hml, hown, hts⟩ (c_X7_best l hD7 hG (xs (6 * k + 1))) (cwV 1 hts gL_law_X7_best rfl rfl rfl (by decide +kernel) ⟨Nat.le_of_ble_eq_true rfl, Nat.le_of_ble_eq_true rfl⟩) (nv_pV hK7 hP7 (va_recv hT.1.1 hP7 (ci := 9) (q0 := 0) rfl rfl)) rfl rfl hl.1 rfl (lv_room (Nat.le_of_ble_eq_true rfl)) dL_law_1846 ⟨(show 175 + 3 * k + 2 + 0 ≤ 603072 by omega), (show 3554 + 18 * k + 12 + 0 ≤ 7219306 by omega)⟩) hS hA7 (fun H2 locs2 hP2 hK2 hS2 => ?_)
  have hP7 := hP2
  have hcW := cOn_W (l7 s AD o oD) _ _ (fun i _ hi h9 => h9.2.1 ⟨i, Nat.zero_le _, hi, rfl⟩) hK2 hcW
  have hO := hO.kept hK2 (fun h9 => h9.2.2.1 rfl)
  have hOB := hOB.kept hK2 (fun h9 => h9.2.2.2 rfl)
  have hS := hS2
  have hF9 := hF.next hk512
  refine lv_istore (lv' := [(7, .int (((if iR (xs (6 * k + 1)) 6 then (if gBb G (tN (xs (6 * k + 1))) (G 0) = -1 then 0 else gBb G (tN (xs (6 * k + 1))) (G 0)) else 0)))), (6, .int (nI ((if iR (xs (6 * k + 1)) 6 then (if gBb G (tN (xs (6 * k + 1))) (G 0) = -1 then 2 else 0) else 1)))), (0, .ref b9), (1, .ref (AD 0)), (2, .ref h), (3, .ref o), (4, .ref oD), (5, .int (nI (6 * k)))]) hx hb dL_law_1849 hl (by decide) rfl (fun ls hl => ?_)
  refine lv_aload_n hx hb dL_law_1851 rfl (lv_at hl 4 rfl) ?_
  refine nv_kS (va_runV (As := []) (rest := []) ⟨hx, hb, hml, hown, hts⟩ (c_X7_thrown l) (cwV 0 hts gL_law_X7_thrown rfl rfl rfl (by decide +kernel) ⟨Nat.le_of_ble_eq_true rfl, Nat.le_of_ble_eq_true rfl⟩) (nv_pV hK7 hP7 (va_recv hT.1.1 hP7 (ci := 9) (q0 := 0) rfl rfl)) rfl rfl hl.1 rfl (lv_room (Nat.le_of_ble_eq_true rfl)) dL_law_1852 ⟨(show 175 + 3 * k + 2 + 0 + 0 ≤ 603072 by omega), (show 3554 + 18 * k + 12 + 0 + 0 ≤ 7219306 by omega)⟩) ?_
  refine lv_iload hx hb dL_law_1855 (lv_at hl 1 rfl) ?_
  refine lv_icmp_eq (tgt := 1862) hx hb dL_law_1857 (by decide) (fun _ => ?_) (fun h9 => absurd rfl h9)
  refine lv_iload hx hb dL_law_1862 (lv_at hl 1 rfl) ?_
  refine lv_if_ne (tgt := 1879) hx hb dL_law_1864 (by decide) (fun _ => lv_goto (tgt := 2679) hx hb dL_law_1879 (by decide) (W.widen (k := 175 + 3 * (k + 1)) (n := 3554 + 18 * (k + 1)) (by omega) (by omega) (K _ _ _ ⟨_, _, _, _, _, _, _, _, _, _, _, _, _, _, _, _, _, _, hP7, hcW, hF9, hO.imp (fun _ _ => trivial), hOB.imp (fun _ _ => trivial)⟩ hS (lv_sub hl [2, 3, 4, 5, 6, 7] rfl)))) (fun h0 => ?_)
  have ht0 := nv_n0 (t := (if iR (xs (6 * k + 1)) 6 then (if gBb G (tN (xs (6 * k + 1))) (G 0) = -1 then 2 else 0) else 1)) (by (repeat' split) <;> decide) h0
  refine lv_aload_n hx hb dL_law_1867 rfl (lv_at hl 5 rfl) ?_
  refine lv_iconst (v := nI 0) hx hb dL_law_1868 (by decide) ?_
  refine nv_laldO hx hb hX.1 0 rfl (hO.imp (fun _ z => z ht0)) dL_law_1869 ?_
  refine lv_iload hx hb dL_law_1870 (lv_at hl 0 rfl) ?_
  refine lv_i2l hx hb dL_law_1872 rfl ?_
  refine W.lcmp hx hb dL_law_1873 ?_
  exact lv_if_eq (tgt := 1879) hx hb dL_law_1874 (by decide) (fun _ => lv_goto (tgt := 2679) hx hb dL_law_1879 (by decide) (W.widen (k := 175 + 3 * (k + 1)) (n := 3554 + 18 * (k + 1)) (by omega) (by omega) (K _ _ _ ⟨_, _, _, _, _, _, _, _, _, _, _, _, _, _, _, _, _, _, hP7, hcW, hF9, hO.imp (fun _ _ => trivial), hOB.imp (fun _ _ => trivial)⟩ hS (lv_sub hl [2, 3, 4, 5, 6, 7] rfl)))) (fun h9 => absurd (lg_same _) h9)

set_option maxHeartbeats 1000000 in
set_option maxRecDepth 100000 in
theorem lc_ranked {p : Program} {l : Launch} {e : Env} {s : State} {m : MethodId} {args : Array Value} {below : List Frame} {meth : Method} {c : Code} {H : Heap} {locs : List Loc} {Q : State → Prop} {ls : Array Slot} {D : va_G} {cI cC cD cR cL cB : ClassId} {sa : sA} {AD : Nat → Nat} {h aG aB aH aS aI aL aT o oD b9 L : Nat} {xs : Nat → Int32} {k : Nat} (hC : lC p l s m args c D cI cC cD cR cL cB sa AD h aG aB aH aS aI aL aT o oD b9 L xs) (hk : 6 * k + 6 ≤ L) (hLI : lI D cI cC cD cR cL cB AD h aG aB aH aS aI aL aT o oD k H) (hS : va_S (lAN s) s.heap H locs) (hl : lv_has ls 9 [(0, .ref b9), (1, .ref (AD 0)), (2, .ref h), (3, .ref o), (4, .ref oD), (5, .int (nI (6 * k)))])
    (K : ∀ (H1 : Heap) (locs1 : List Loc) (ls1 : Array Slot), lI D cI cC cD cR cL cB AD h aG aB aH aS aI aL aT o oD (k + 1) H1 → va_S (lAN s) s.heap H1 locs1 → lv_has ls1 9 [(0, .ref b9), (1, .ref (AD 0)), (2, .ref h), (3, .ref o), (4, .ref oD), (5, .int (nI (6 * k)))] → W p l e room_1 s m args below meth c H1 locs1 (175 + 3 * (k + 1)) (3554 + 18 * (k + 1)) Q (F0 m 2679 ls1 [])) : W p l e room_1 s m args below meth c H locs (175 + 3 * k) (3554 + 18 * k) Q (F0 m 1882 ls []) := by
  obtain ⟨hx, hb, hml, hown, hts, hl9, hXs, hbl, hL, hT, hX, hI, hAD, ho9, hoD9, hne, hD7⟩ := hC
  obtain ⟨G, B, Hi, Sv, In, Le, To, ch, hs, ty, wy, ln, th, sp, iw, ea, ra, wd, hP7, hcW, hF, hO, hOB⟩ := hLI
  obtain ⟨b, hG, h25, hbt, -, hch, hHg, hhs, hSg, hty, hS7, hln, hLe, hwy⟩ := id hF
  have hk512 : k < 512 := by omega
  have hbb : b + 1 < 2 ^ 20 := by omega
  have hb32 : b + 32 < 2 ^ 20 := by omega
  have h13 : b < 8192 := by omega
  have hHw : ∀ j, j < ch → hAt Hi j 0 ≤ 8 ∧ hAt Hi j 1 ≤ 6 ∧ hAt Hi j 2 ≤ 5 := fun j hj => ⟨(hHg j hj).2.2.1, (hHg j hj).2.2.2.1, (hHg j hj).2.2.2.2.1⟩
  have hSw : hs = 1 → Sv 0 ≤ 8 ∧ Sv 1 ≤ 6 ∧ Sv 2 ≤ 5 := fun q => ⟨(hSg q).2.2.1, (hSg q).2.2.2.1, (hSg q).2.2.2.2.1⟩
  have ho := ho9.2
  have hoD := hoD9.2
  have hK7 : kS D [(cI, .int), (cC, .char)] [] s := ⟨hT.1.1.sub [0, 1] rfl, fun _ h9 => nomatch h9⟩
  have hA7 : ∀ q, l7 s AD o oD q → lAN s q := fun _ h9 => h9.1
  refine lv_aload_n hx hb dL_law_1882 rfl (lv_at hl 1 rfl) ?_
  refine lv_aload_n hx hb dL_law_1883 rfl (lv_at hl 0 rfl) ?_
  refine lv_iload hx hb dL_law_1884 (lv_at hl 5 rfl) ?_
  refine lv_iconst (v := nI 1) hx hb dL_law_1886 (by decide) ?_
  refine nv_iadd hx hb dL_law_1887 ?_
  refine nv_sld hx hb hXs hbl hS (by omega) hL dL_law_1888 ?_
  refine lv_aload_n hx hb dL_law_1889 rfl (lv_at hl 0 rfl) ?_
  refine lv_iload hx hb dL_law_1890 (lv_at hl 5 rfl) ?_
  refine lv_iconst (v := nI 2) hx hb dL_law_1892 (by decide) ?_
  refine nv_iadd hx hb dL_law_1893 ?_
  refine nv_sld hx hb hXs hbl hS (by omega) hL dL_law_1894 ?_
  refine lv_aload_n hx hb dL_law_1895 rfl (lv_at hl 3 rfl) ?_
  refine nv_kN (vx_runSX (hh := [(0, 10, 13, 13), (0, 10, 17, 83)]) (As := [.ref (AD 0), .int (xs (6 * k + 1)), .int (xs (6 * k + 2)), .ref o]) (rest := []) ⟨hx, hb, hml, hown, hts⟩ (c_L_ranked l hl9 ho hG hI (xs (6 * k + 1)) (xs (6 * k + 2))) (vx_cwSW 4 hts gL_law_L_ranked rfl rfl rfl (by decide +kernel) ⟨Nat.le_of_ble_eq_true rfl, Nat.le_of_ble_eq_true rfl⟩) (nl_pS hT hX hS (fun q h9 => h9.elim (fun ⟨i, _, hi, e9⟩ => by rw [e9]; exact hAD i hi) (fun e9 => by rw [e9]; exact ho9.1)) ⟨hcW, hO⟩) rfl rfl hl.1 rfl (lv_room (Nat.le_of_ble_eq_true rfl)) dL_law_1896 ⟨(show 175 + 3 * k + 1 ≤ 603072 by omega), (show 3554 + 18 * k + 6 ≤ 7219306 by omega)⟩) hS (fun q h9 => h9.elim (fun ⟨i, _, hi, e9⟩ => by rw [e9]; exact hAD i hi) (fun e9 => by rw [e9]; exact ho9.1)) (fun H1 locs1 hP1 hK1 hS1 => ?_)
  obtain ⟨hcW, hO9⟩ := hP1
  have hP7 := nv_keep7 (hD7 G B Hi Sv In Le To _) hP7 hK1 (fun q h9 h8 => h8.elim h9.2.1 (fun e9 => h9.2.2.1 e9))
  have hOB := hOB.kept hK1 (fun h8 => h8.elim hoD (fun e9 => hne e9.symm))
  have hO := hO9
  have hS := hS1
  refine lv_istore (lv' := [(6, .int (nI ((if iR (xs (6 * k + 1)) 2 then (if gRk G (if tN (xs (6 * k + 1)) = 0 then 104 else 64) (xs (6 * k + 2)) < G 0 then 0 else 2) else 1)))), (0, .ref b9), (1, .ref (AD 0)), (2, .ref h), (3, .ref o), (4, .ref oD), (5, .int (nI (6 * k)))]) hx hb dL_law_1899 hl (by decide) rfl (fun ls hl => ?_)
  refine lv_aload_n hx hb dL_law_1901 rfl (lv_at hl 3 rfl) ?_
  refine lv_aload_n hx hb dL_law_1902 rfl (lv_at hl 1 rfl) ?_
  refine lv_iload hx hb dL_law_1903 (lv_at hl 6 rfl) ?_
  refine lv_iconst (v := nI 1) hx hb dL_law_1905 (by decide) ?_
  refine nv_iadd hx hb dL_law_1906 ?_
  refine nv_sld hx hb hXs hbl hS (by omega) hL dL_law_1907 ?_
  refine lv_aload_n hx hb dL_law_1908 rfl (lv_at hl 1 rfl) ?_
  refine lv_iload hx hb dL_law_1909 (lv_at hl 6 rfl) ?_
  refine lv_iconst (v := nI 2) hx hb dL_law_1911 (by decide) ?_
  refine nv_iadd hx hb dL_law_1912 ?_
  refine nv_sld hx hb hXs hbl hS (by omega) hL dL_law_1913 ?_
  refine nv_kM2 (va_runV (As := [.int (xs (6 * k + 1)), .int (xs (6 * k + 2))]) (rest := []) ⟨hx, hb, hml, hown, hts⟩ (c_X7_ranked l hD7 hG (xs (6 * k + 1)) (xs (6 * k + 2))) (cwV 2 hts gL_law_X7_ranked rfl rfl rfl (by decide +kernel) ⟨Nat.le_of_ble_eq_true rfl, Nat.le_of_ble_eq_true rfl⟩) (nv_pV hK7 hP7 (va_recv hT.1.1 hP7 (ci := 9) (q0 := 0) rfl rfl)) rfl rfl hl.1 rfl (lv_room (Nat.le_of_ble_eq_true rfl)) dL_law_1914 ⟨(show 175 + 3 * k + 1 + 0 ≤ 603072 by omega), (show 3554 + 18 * k + 6 + 0 ≤ 7219306 by omega)⟩) hS hA7 (fun H2 locs2 hP2 hK2 hS2 => ?_)
  have hP7 := hP2
  have hcW := cOn_W (l7 s AD o oD) _ _ (fun i _ hi h9 => h9.2.1 ⟨i, Nat.zero_le _, hi, rfl⟩) hK2 hcW
  have hO := hO.kept hK2 (fun h9 => h9.2.2.1 rfl)
  have hOB := hOB.kept hK2 (fun h9 => h9.2.2.2 rfl)
  have hS := hS2
  have hF9 := hF.next hk512
  refine lv_istore (lv' := [(7, .int (((if iR (xs (6 * k + 1)) 2 then (if gRk G (if tN (xs (6 * k + 1)) = 0 then 104 else 64) (xs (6 * k + 2)) < G 0 then nI (gRk G (if tN (xs (6 * k + 1)) = 0 then 104 else 64) (xs (6 * k + 2))) else 0) else 0)))), (6, .int (nI ((if iR (xs (6 * k + 1)) 2 then (if gRk G (if tN (xs (6 * k + 1)) = 0 then 104 else 64) (xs (6 * k + 2)) < G 0 then 0 else 2) else 1)))), (0, .ref b9), (1, .ref (AD 0)), (2, .ref h), (3, .ref o), (4, .ref oD), (5, .int (nI (6 * k)))]) hx hb dL_law_1917 hl (by decide) rfl (fun ls hl => ?_)
  refine lv_aload_n hx hb dL_law_1919 rfl (lv_at hl 4 rfl) ?_
  refine nv_kS (va_runV (As := []) (rest := []) ⟨hx, hb, hml, hown, hts⟩ (c_X7_thrown l) (cwV 0 hts gL_law_X7_thrown rfl rfl rfl (by decide +kernel) ⟨Nat.le_of_ble_eq_true rfl, Nat.le_of_ble_eq_true rfl⟩) (nv_pV hK7 hP7 (va_recv hT.1.1 hP7 (ci := 9) (q0 := 0) rfl rfl)) rfl rfl hl.1 rfl (lv_room (Nat.le_of_ble_eq_true rfl)) dL_law_1920 ⟨(show 175 + 3 * k + 1 + 0 + 0 ≤ 603072 by omega), (show 3554 + 18 * k + 6 + 0 + 0 ≤ 7219306 by omega)⟩) ?_
  refine lv_iload hx hb dL_law_1923 (lv_at hl 1 rfl) ?_
  refine lv_icmp_eq (tgt := 1930) hx hb dL_law_1925 (by decide) (fun _ => ?_) (fun h9 => absurd rfl h9)
  refine lv_iload hx hb dL_law_1930 (lv_at hl 1 rfl) ?_
  refine lv_if_ne (tgt := 1947) hx hb dL_law_1932 (by decide) (fun _ => lv_goto (tgt := 2679) hx hb dL_law_1947 (by decide) (W.widen (k := 175 + 3 * (k + 1)) (n := 3554 + 18 * (k + 1)) (by omega) (by omega) (K _ _ _ ⟨_, _, _, _, _, _, _, _, _, _, _, _, _, _, _, _, _, _, hP7, hcW, hF9, hO.imp (fun _ _ => trivial), hOB.imp (fun _ _ => trivial)⟩ hS (lv_sub hl [2, 3, 4, 5, 6, 7] rfl)))) (fun h0 => ?_)
  have ht0 := nv_n0 (t := (if iR (xs (6 * k + 1)) 2 then (if gRk G (if tN (xs (6 * k + 1)) = 0 then 104 else 64) (xs (6 * k + 2)) < G 0 then 0 else 2) else 1)) (by (repeat' split) <;> decide) h0
  refine lv_aload_n hx hb dL_law_1935 rfl (lv_at hl 5 rfl) ?_
  refine lv_iconst (v := nI 0) hx hb dL_law_1936 (by decide) ?_
  refine nv_laldO hx hb hX.1 0 rfl (hO.imp (fun _ z => z ht0)) dL_law_1937 ?_
  refine lv_iload hx hb dL_law_1938 (lv_at hl 0 rfl) ?_
  refine lv_i2l hx hb dL_law_1940 rfl ?_
  refine W.lcmp hx hb dL_law_1941 ?_
  exact lv_if_eq (tgt := 1947) hx hb dL_law_1942 (by decide) (fun _ => lv_goto (tgt := 2679) hx hb dL_law_1947 (by decide) (W.widen (k := 175 + 3 * (k + 1)) (n := 3554 + 18 * (k + 1)) (by omega) (by omega) (K _ _ _ ⟨_, _, _, _, _, _, _, _, _, _, _, _, _, _, _, _, _, _, hP7, hcW, hF9, hO.imp (fun _ _ => trivial), hOB.imp (fun _ _ => trivial)⟩ hS (lv_sub hl [2, 3, 4, 5, 6, 7] rfl)))) (fun h9 => absurd (lg_same _) h9)
