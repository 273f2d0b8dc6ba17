set_option maxHeartbeats 1000000 in
set_option maxRecDepth 100000 in
theorem lc_append {p : Program} {l : Launch} {e : Env} {s : State} {m : MethodId} {args : Array Value} {below : List Frame} {meth : Method} {c : Code} {H : Heap} {locs : List Loc} {Q : State → Prop} {ls : Array Slot} {D : va_G} {cI cC cD cR cL cB : ClassId} {sa : sA} {AD : Nat → Nat} {h aG aB aH aS aI aL aT o oD b9 L : Nat} {xs : Nat → Int32} {k : Nat} (hC : lC p l s m args c D cI cC cD cR cL cB sa AD h aG aB aH aS aI aL aT o oD b9 L xs) (hk : 6 * k + 6 ≤ L) (hLI : lI D cI cC cD cR cL cB AD h aG aB aH aS aI aL aT o oD k H) (hS : va_S (lAN s) s.heap H locs) (hl : lv_has ls 9 [(0, .ref b9), (1, .ref (AD 0)), (2, .ref h), (3, .ref o), (4, .ref oD), (5, .int (nI (6 * k)))])
    (K : ∀ (H1 : Heap) (locs1 : List Loc) (ls1 : Array Slot), lI D cI cC cD cR cL cB AD h aG aB aH aS aI aL aT o oD (k + 1) H1 → va_S (lAN s) s.heap H1 locs1 → lv_has ls1 9 [(0, .ref b9), (1, .ref (AD 0)), (2, .ref h), (3, .ref o), (4, .ref oD), (5, .int (nI (6 * k)))] → W p l e room_1 s m args below meth c H1 locs1 (175 + 3 * (k + 1)) (3554 + 18 * (k + 1)) Q (F0 m 2679 ls1 [])) : W p l e room_1 s m args below meth c H locs (175 + 3 * k) (3554 + 18 * k) Q (F0 m 2390 ls []) := by
  obtain ⟨hx, hb, hml, hown, hts, hl9, hXs, hbl, hL, hT, hX, hI, hAD, ho9, hoD9, hne, hD7⟩ := hC
  obtain ⟨G, B, Hi, Sv, In, Le, To, ch, hs, ty, wy, ln, th, sp, iw, ea, ra, wd, hP7, hcW, hF, hO, hOB⟩ := hLI
  obtain ⟨b, hG, h25, hbt, -, hch, hHg, hhs, hSg, hty, hS7, hln, hLe, hwy⟩ := id hF
  have hk512 : k < 512 := by omega
  have hbb : b + 1 < 2 ^ 20 := by omega
  have hb32 : b + 32 < 2 ^ 20 := by omega
  have h13 : b < 8192 := by omega
  have hHw : ∀ j, j < ch → hAt Hi j 0 ≤ 8 ∧ hAt Hi j 1 ≤ 6 ∧ hAt Hi j 2 ≤ 5 := fun j hj => ⟨(hHg j hj).2.2.1, (hHg j hj).2.2.2.1, (hHg j hj).2.2.2.2.1⟩
  have hSw : hs = 1 → Sv 0 ≤ 8 ∧ Sv 1 ≤ 6 ∧ Sv 2 ≤ 5 := fun q => ⟨(hSg q).2.2.1, (hSg q).2.2.2.1, (hSg q).2.2.2.2.1⟩
  have ho := ho9.2
  have hoD := hoD9.2
  have hK7 : kS D [(cI, .int), (cC, .char)] [] s := ⟨hT.1.1.sub [0, 1] rfl, fun _ h9 => nomatch h9⟩
  have hA7 : ∀ q, l7 s AD o oD q → lAN s q := fun _ h9 => h9.1
  refine lv_aload_n hx hb dL_law_2390 rfl (lv_at hl 1 rfl) ?_
  refine lv_aload_n hx hb dL_law_2391 rfl (lv_at hl 0 rfl) ?_
  refine lv_iload hx hb dL_law_2392 (lv_at hl 5 rfl) ?_
  refine lv_iconst (v := nI 1) hx hb dL_law_2394 (by decide) ?_
  refine nv_iadd hx hb dL_law_2395 ?_
  refine nv_sld hx hb hXs hbl hS (by omega) hL dL_law_2396 ?_
  refine lv_aload_n hx hb dL_law_2397 rfl (lv_at hl 3 rfl) ?_
  refine nv_kN (vx_runSX (hh := [(0, 9, 12, 13), (0, 9, 15, 108)]) (As := [.ref (AD 0), .int (xs (6 * k + 1)), .ref o]) (rest := []) ⟨hx, hb, hml, hown, hts⟩ (c_L_append l hl9 ho hI (xs (6 * k + 1)) hty) (vx_cwSW 3 hts gL_law_L_append rfl rfl rfl (by decide +kernel) ⟨Nat.le_of_ble_eq_true rfl, Nat.le_of_ble_eq_true rfl⟩) (nl_pS hT hX hS (fun q h9 => h9.elim (fun ⟨i, _, hi, e9⟩ => by rw [e9]; exact hAD i hi) (fun e9 => by rw [e9]; exact ho9.1)) ⟨hcW, hO⟩) rfl rfl hl.1 rfl (lv_room (Nat.le_of_ble_eq_true rfl)) dL_law_2398 ⟨(show 175 + 3 * k + 1 ≤ 603072 by omega), (show 3554 + 18 * k + 6 ≤ 7219306 by omega)⟩) hS (fun q h9 => h9.elim (fun ⟨i, _, hi, e9⟩ => by rw [e9]; exact hAD i hi) (fun e9 => by rw [e9]; exact ho9.1)) (fun H1 locs1 hP1 hK1 hS1 => ?_)
  obtain ⟨hcW, hO9⟩ := hP1
  have hP7 := nv_keep7 (hD7 G B Hi Sv In Le To _) hP7 hK1 (fun q h9 h8 => h8.elim h9.2.1 (fun e9 => h9.2.2.1 e9))
  have hOB := hOB.kept hK1 (fun h8 => h8.elim hoD (fun e9 => hne e9.symm))
  have hO := hO9
  have hS := hS1
  refine lv_istore (lv' := [(6, .int (nI ((if 4 < sm (bC (xs (6 * k + 1))) 4 then 1 else (if 60 < ty + sm (bC (xs (6 * k + 1))) 4 then 2 else 0))))), (0, .ref b9), (1, .ref (AD 0)), (2, .ref h), (3, .ref o), (4, .ref oD), (5, .int (nI (6 * k)))]) hx hb dL_law_2401 hl (by decide) rfl (fun ls hl => ?_)
  refine lv_aload_n hx hb dL_law_2403 rfl (lv_at hl 3 rfl) ?_
  refine lv_aload_n hx hb dL_law_2404 rfl (lv_at hl 1 rfl) ?_
  refine lv_iload hx hb dL_law_2405 (lv_at hl 6 rfl) ?_
  refine lv_iconst (v := nI 1) hx hb dL_law_2407 (by decide) ?_
  refine nv_iadd hx hb dL_law_2408 ?_
  refine nv_sld hx hb hXs hbl hS (by omega) hL dL_law_2409 ?_
  refine nv_kM2 (va_runV (As := [.int (xs (6 * k + 1))]) (rest := []) ⟨hx, hb, hml, hown, hts⟩ (c_X7_append l hD7 (xs (6 * k + 1)) hty) (cwV 1 hts gL_law_X7_append rfl rfl rfl (by decide +kernel) ⟨Nat.le_of_ble_eq_true rfl, Nat.le_of_ble_eq_true rfl⟩) (nv_pV hK7 hP7 (va_recv hT.1.1 hP7 (ci := 9) (q0 := 0) rfl rfl)) rfl rfl hl.1 rfl (lv_room (Nat.le_of_ble_eq_true rfl)) dL_law_2410 ⟨(show 175 + 3 * k + 1 + 0 ≤ 603072 by omega), (show 3554 + 18 * k + 6 + 0 ≤ 7219306 by omega)⟩) hS hA7 (fun H2 locs2 hP2 hK2 hS2 => ?_)
  have hP7 := hP2
  have hcW := cOn_W (l7 s AD o oD) _ _ (fun i _ hi h9 => h9.2.1 ⟨i, Nat.zero_le _, hi, rfl⟩) hK2 hcW
  have hO := hO.kept hK2 (fun h9 => h9.2.2.1 rfl)
  have hOB := hOB.kept hK2 (fun h9 => h9.2.2.2 rfl)
  have hS := hS2
  have hF9 := hF.append hk512 (xs (6 * k + 1))
  refine lv_istore (lv' := [(7, .int (((if 4 < sm (bC (xs (6 * k + 1))) 4 then 0 else (if 60 < ty + sm (bC (xs (6 * k + 1))) 4 then 0 else nI (apI In ty (xs (6 * k + 1)) 4).2))))), (6, .int (nI ((if 4 < sm (bC (xs (6 * k + 1))) 4 then 1 else (if 60 < ty + sm (bC (xs (6 * k + 1))) 4 then 2 else 0))))), (0, .ref b9), (1, .ref (AD 0)), (2, .ref h), (3, .ref o), (4, .ref oD), (5, .int (nI (6 * k)))]) hx hb dL_law_2413 hl (by decide) rfl (fun ls hl => ?_)
  refine lv_aload_n hx hb dL_law_2415 rfl (lv_at hl 4 rfl) ?_
  refine nv_kS (va_runV (As := []) (rest := []) ⟨hx, hb, hml, hown, hts⟩ (c_X7_thrown l) (cwV 0 hts gL_law_X7_thrown rfl rfl rfl (by decide +kernel) ⟨Nat.le_of_ble_eq_true rfl, Nat.le_of_ble_eq_true rfl⟩) (nv_pV hK7 hP7 (va_recv hT.1.1 hP7 (ci := 9) (q0 := 0) rfl rfl)) rfl rfl hl.1 rfl (lv_room (Nat.le_of_ble_eq_true rfl)) dL_law_2416 ⟨(show 175 + 3 * k + 1 + 0 + 0 ≤ 603072 by omega), (show 3554 + 18 * k + 6 + 0 + 0 ≤ 7219306 by omega)⟩) ?_
  refine lv_iload hx hb dL_law_2419 (lv_at hl 1 rfl) ?_
  refine lv_icmp_eq (tgt := 2426) hx hb dL_law_2421 (by decide) (fun _ => ?_) (fun h9 => absurd rfl h9)
  refine lv_iload hx hb dL_law_2426 (lv_at hl 1 rfl) ?_
  refine lv_if_ne (tgt := 2443) hx hb dL_law_2428 (by decide) (fun _ => lv_goto (tgt := 2679) hx hb dL_law_2443 (by decide) (W.widen (k := 175 + 3 * (k + 1)) (n := 3554 + 18 * (k + 1)) (by omega) (by omega) (K _ _ _ ⟨_, _, _, _, _, _, _, _, _, _, _, _, _, _, _, _, _, _, hP7, hcW, hF9, hO.imp (fun _ _ => trivial), hOB.imp (fun _ _ => trivial)⟩ hS (lv_sub hl [2, 3, 4, 5, 6, 7] rfl)))) (fun h0 => ?_)
  have ht0 := nv_n0 (t := (if 4 < sm (bC (xs (6 * k + 1))) 4 then 1 else (if 60 < ty + sm (bC (xs (6 * k + 1))) 4 then 2 else 0))) (by (repeat' split) <;> decide) h0
  refine lv_aload_n hx hb dL_law_2431 rfl (lv_at hl 5 rfl) ?_
  refine lv_iconst (v := nI 0) hx hb dL_law_2432 (by decide) ?_
  refine nv_laldO hx hb hX.1 0 rfl (hO.imp (fun _ z => z ht0)) dL_law_2433 ?_
  refine lv_iload hx hb dL_law_2434 (lv_at hl 0 rfl) ?_
  refine lv_i2l hx hb dL_law_2436 rfl ?_
  refine W.lcmp hx hb dL_law_2437 ?_
  exact lv_if_eq (tgt := 2443) hx hb dL_law_2438 (by decide) (fun _ => lv_goto (tgt := 2679) hx hb dL_law_2443 (by decide) (W.widen (k := 175 + 3 * (k + 1)) (n := 3554 + 18 * (k + 1)) (by omega) (by omega) (K _ _ _ ⟨_, _, _, _, _, _, _, _, _, _, _, _, _, _, _, _, _, _, hP7, hcW, hF9, hO.imp (fun _ _ => trivial), hOB.imp (fun _ _ => trivial)⟩ hS (lv_sub hl [2, 3, 4, 5, 6, 7] rfl)))) (fun h9 => absurd (lg_same _) h9)

set_option maxHeartbeats 1000000 in
set_option maxRecDepth 100000 in
theorem lc_read {p : Program} {l : Launch} {e : Env} {s : State} {m : MethodId} {args : Array Value} {below : List Frame} {meth : Method} {c : Code} {H : Heap} {locs : List Loc} {Q : State → Prop} {ls : Array Slot} {D : va_G} {cI cC cD cR cL cB : ClassId} {sa : sA} {AD : Nat → Nat} {h aG aB aH aS aI aL aT o oD b9 L : Nat} {xs : Nat → Int32} {k : Nat} (hC : lC p l s m args c D cI cC cD cR cL cB sa AD h aG aB aH aS aI aL aT o oD b9 L xs) (hk : 6 * k + 6 ≤ L) (hLI : lI D cI cC cD cR cL cB AD h aG aB aH aS aI aL aT o oD k H) (hS : va_S (lAN s) s.heap H locs) (hl : lv_has ls 9 [(0, .ref b9), (1, .ref (AD 0)), (2, .ref h), (3, .ref o), (4, .ref oD), (5, .int (nI (6 * k)))])
    (K : ∀ (H1 : Heap) (locs1 : List Loc) (ls1 : Array Slot), lI D cI cC cD cR cL cB AD h aG aB aH aS aI aL aT o oD (k + 1) H1 → va_S (lAN s) s.heap H1 locs1 → lv_has ls1 9 [(0, .ref b9), (1, .ref (AD 0)), (2, .ref h), (3, .ref o), (4, .ref oD), (5, .int (nI (6 * k)))] → W p l e room_1 s m args below meth c H1 locs1 (175 + 3 * (k + 1)) (3554 + 18 * (k + 1)) Q (F0 m 2679 ls1 [])) : W p l e room_1 s m args below meth c H locs (175 + 3 * k) (3554 + 18 * k) Q (F0 m 2446 ls []) := by
  obtain ⟨hx, hb, hml, hown, hts, hl9, hXs, hbl, hL, hT, hX, hI, hAD, ho9, hoD9, hne, hD7⟩ := hC
  obtain ⟨G, B, Hi, Sv, In, Le, To, ch, hs, ty, wy, ln, th, sp, iw, ea, ra, wd, hP7, hcW, hF, hO, hOB⟩ := hLI
  obtain ⟨b, hG, h25, hbt, -, hch, hHg, hhs, hSg, hty, hS7, hln, hLe, hwy⟩ := id hF
  have hk512 : k < 512 := by omega
  have hbb : b + 1 < 2 ^ 20 := by omega
  have hb32 : b + 32 < 2 ^ 20 := by omega
  have h13 : b < 8192 := by omega
  have hHw : ∀ j, j < ch → hAt Hi j 0 ≤ 8 ∧ hAt Hi j 1 ≤ 6 ∧ hAt Hi j 2 ≤ 5 := fun j hj => ⟨(hHg j hj).2.2.1, (hHg j hj).2.2.2.1, (hHg j hj).2.2.2.2.1⟩
  have hSw : hs = 1 → Sv 0 ≤ 8 ∧ Sv 1 ≤ 6 ∧ Sv 2 ≤ 5 := fun q => ⟨(hSg q).2.2.1, (hSg q).2.2.2.1, (hSg q).2.2.2.2.1⟩
  have ho := ho9.2
  have hoD := hoD9.2
  have hK7 : kS D [(cI, .int), (cC, .char)] [] s := ⟨hT.1.1.sub [0, 1] rfl, fun _ h9 => nomatch h9⟩
  have hA7 : ∀ q, l7 s AD o oD q → lAN s q := fun _ h9 => h9.1
  refine lv_aload_n hx hb dL_law_2446 rfl (lv_at hl 1 rfl) ?_
  refine lv_aload_n hx hb dL_law_2447 rfl (lv_at hl 3 rfl) ?_
  refine nv_kN (vx_runSX (hh := [(0, 8, 11, 13), (0, 8, 14, 17)]) (As := [.ref (AD 0), .ref o]) (rest := []) ⟨hx, hb, hml, hown, hts⟩ (c_L_read l hl9 ho hG hI hch hHw h25 hb32 hty hS7) (vx_cwSW 2 hts gL_law_L_read rfl rfl rfl (by decide +kernel) ⟨Nat.le_of_ble_eq_true rfl, Nat.le_of_ble_eq_true rfl⟩) (nl_pS hT hX hS (fun q h9 => h9.elim (fun ⟨i, _, hi, e9⟩ => by rw [e9]; exact hAD i hi) (fun e9 => by rw [e9]; exact ho9.1)) ⟨hcW, hO⟩) rfl rfl hl.1 rfl (lv_room (Nat.le_of_ble_eq_true rfl)) dL_law_2448 ⟨(show 175 + 3 * k + 1 ≤ 603072 by omega), (show 3554 + 18 * k + 6 ≤ 7219306 by omega)⟩) hS (fun q h9 => h9.elim (fun ⟨i, _, hi, e9⟩ => by rw [e9]; exact hAD i hi) (fun e9 => by rw [e9]; exact ho9.1)) (fun H1 locs1 hP1 hK1 hS1 => ?_)
  obtain ⟨hcW, hO9⟩ := hP1
  have hP7 := nv_keep7 (hD7 G B Hi Sv In Le To _) hP7 hK1 (fun q h9 h8 => h8.elim h9.2.1 (fun e9 => h9.2.2.1 e9))
  have hOB := hOB.kept hK1 (fun h8 => h8.elim hoD (fun e9 => hne e9.symm))
  have hO := hO9
  have hS := hS1
  refine lv_istore (lv' := [(6, .int (nI (((if mal In ty then 1 else (if rS In ty G < kL In ty + 1 then 2 else 0)))))), (0, .ref b9), (1, .ref (AD 0)), (2, .ref h), (3, .ref o), (4, .ref oD), (5, .int (nI (6 * k)))]) hx hb dL_law_2451 hl (by decide) rfl (fun ls hl => ?_)
  refine lv_aload_n hx hb dL_law_2453 rfl (lv_at hl 3 rfl) ?_
  refine nv_kM2 (va_runV (As := []) (rest := []) ⟨hx, hb, hml, hown, hts⟩ (c_X7_read l hD7 hG h25 hb32 hty hch) (cwV 0 hts gL_law_X7_read rfl rfl rfl (by decide +kernel) ⟨Nat.le_of_ble_eq_true rfl, Nat.le_of_ble_eq_true rfl⟩) (nv_pV hK7 hP7 (va_recv hT.1.1 hP7 (ci := 9) (q0 := 0) rfl rfl)) rfl rfl hl.1 rfl (lv_room (Nat.le_of_ble_eq_true rfl)) dL_law_2454 ⟨(show 175 + 3 * k + 1 + 0 ≤ 603072 by omega), (show 3554 + 18 * k + 6 + 0 ≤ 7219306 by omega)⟩) hS hA7 (fun H2 locs2 hP2 hK2 hS2 => ?_)
  have hP7 := hP2
  have hcW := cOn_W (l7 s AD o oD) _ _ (fun i _ hi h9 => h9.2.1 ⟨i, Nat.zero_le _, hi, rfl⟩) hK2 hcW
  have hO := hO.kept hK2 (fun h9 => h9.2.2.1 rfl)
  have hOB := hOB.kept hK2 (fun h9 => h9.2.2.2 rfl)
  have hS := hS2
  have hF9 := hF.read hk512
  refine lv_istore (lv' := [(7, .int (((if mal In ty then 0 else (if rS In ty G < kL In ty + 1 then 0 else nI (kL In ty + 1)))))), (6, .int (nI (((if mal In ty then 1 else (if rS In ty G < kL In ty + 1 then 2 else 0)))))), (0, .ref b9), (1, .ref (AD 0)), (2, .ref h), (3, .ref o), (4, .ref oD), (5, .int (nI (6 * k)))]) hx hb dL_law_2457 hl (by decide) rfl (fun ls hl => ?_)
  refine lv_aload_n hx hb dL_law_2459 rfl (lv_at hl 4 rfl) ?_
  refine nv_kS (va_runV (As := []) (rest := []) ⟨hx, hb, hml, hown, hts⟩ (c_X7_thrown l) (cwV 0 hts gL_law_X7_thrown rfl rfl rfl (by decide +kernel) ⟨Nat.le_of_ble_eq_true rfl, Nat.le_of_ble_eq_true rfl⟩) (nv_pV hK7 hP7 (va_recv hT.1.1 hP7 (ci := 9) (q0 := 0) rfl rfl)) rfl rfl hl.1 rfl (lv_room (Nat.le_of_ble_eq_true rfl)) dL_law_2460 ⟨(show 175 + 3 * k + 1 + 0 + 0 ≤ 603072 by omega), (show 3554 + 18 * k + 6 + 0 + 0 ≤ 7219306 by omega)⟩) ?_
  refine lv_iload hx hb dL_law_2463 (lv_at hl 1 rfl) ?_
  refine lv_icmp_eq (tgt := 2470) hx hb dL_law_2465 (by decide) (fun _ => ?_) (fun h9 => absurd rfl h9)
  refine lv_iload hx hb dL_law_2470 (lv_at hl 1 rfl) ?_
  refine lv_if_ne (tgt := 2487) hx hb dL_law_2472 (by decide) (fun _ => lv_goto (tgt := 2679) hx hb dL_law_2487 (by decide) (W.widen (k := 175 + 3 * (k + 1)) (n := 3554 + 18 * (k + 1)) (by omega) (by omega) (K _ _ _ ⟨_, _, _, _, _, _, _, _, _, _, _, _, _, _, _, _, _, _, hP7, hcW, hF9, hO.imp (fun _ _ => trivial), hOB.imp (fun _ _ => trivial)⟩ hS (lv_sub hl [2, 3, 4, 5, 6, 7] rfl)))) (fun h0 => ?_)
  have ht0 := nv_n0 (t := ((if mal In ty then 1 else (if rS In ty G < kL In ty + 1 then 2 else 0)))) (by (repeat' split) <;> decide) h0
  refine lv_aload_n hx hb dL_law_2475 rfl (lv_at hl 5 rfl) ?_
  refine lv_iconst (v := nI 0) hx hb dL_law_2476 (by decide) ?_
  refine nv_laldO hx hb hX.1 0 rfl (hO.imp (fun _ z => z ht0)) dL_law_2477 ?_
  refine lv_iload hx hb dL_law_2478 (lv_at hl 0 rfl) ?_
  refine lv_i2l hx hb dL_law_2480 rfl ?_
  refine W.lcmp hx hb dL_law_2481 ?_
  exact lv_if_eq (tgt := 2487) hx hb dL_law_2482 (by decide) (fun _ => lv_goto (tgt := 2679) hx hb dL_law_2487 (by decide) (W.widen (k := 175 + 3 * (k + 1)) (n := 3554 + 18 * (k + 1)) (by omega) (by omega) (K _ _ _ ⟨_, _, _, _, _, _, _, _, _, _, _, _, _, _, _, _, _, _, hP7, hcW, hF9, hO.imp (fun _ _ => trivial), hOB.imp (fun _ _ => trivial)⟩ hS (lv_sub hl [2, 3, 4, 5, 6, 7] rfl)))) (fun h9 => absurd (lg_same _) h9)

set_option maxHeartbeats 1000000 in
set_option maxRecDepth 100000 in
theorem lc_errorPosition {p : Program} {l : Launch} {e : Env} {s : State} {m : MethodId} {args : Array Value} {below : List Frame} {meth : Method} {c : Code} {H : Heap} {locs : List Loc} {Q : State → Prop} {ls : Array Slot} {D : va_G} {cI cC cD cR cL cB : ClassId} {sa : sA} {AD : Nat → Nat} {h aG aB aH aS aI aL aT o oD b9 L : Nat} {xs : Nat → Int32} {k : Nat} (hC : lC p l s m args c D cI cC cD cR cL cB sa AD h aG aB aH aS aI aL aT o oD b9 L xs) (hk : 6 * k + 6 ≤ L) (hLI : lI D cI cC cD cR cL cB AD h aG aB aH aS aI aL aT o oD k H) (hS : va_S (lAN s) s.heap H locs) (hl : lv_has ls 9 [(0, .ref b9), (1, .ref (AD 0)), (2, .ref h), (3, .ref o), (4, .ref oD), (5, .int (nI (6 * k)))])
    (K : ∀ (H1 : Heap) (locs1 : List Loc) (ls1 : Array Slot), lI D cI cC cD cR cL cB AD h aG aB aH aS aI aL aT o oD (k + 1) H1 → va_S (lAN s) s.heap H1 locs1 → lv_has ls1 9 [(0, .ref b9), (1, .ref (AD 0)), (2, .ref h), (3, .ref o), (4, .ref oD), (5, .int (nI (6 * k)))] → W p l e room_1 s m args below meth c H1 locs1 (175 + 3 * (k + 1)) (3554 + 18 * (k + 1)) Q (F0 m 2679 ls1 [])) : W p l e room_1 s m args below meth c H locs (175 + 3 * k) (3554 + 18 * k) Q (F0 m 2490 ls []) := by
  obtain ⟨hx, hb, hml, hown, hts, hl9, hXs, hbl, hL, hT, hX, hI, hAD, ho9, hoD9, hne, hD7⟩ := hC
  obtain ⟨G, B, Hi, Sv, In, Le, To, ch, hs, ty, wy, ln, th, sp, iw, ea, ra, wd, hP7, hcW, hF, hO, hOB⟩ := hLI
  obtain ⟨b, hG, h25, hbt, -, hch, hHg, hhs, hSg, hty, hS7, hln, hLe, hwy⟩ := id hF
  have hk512 : k < 512 := by omega
  have hbb : b + 1 < 2 ^ 20 := by omega
  have hb32 : b + 32 < 2 ^ 20 := by omega
  have h13 : b < 8192 := by omega
  have hHw : ∀ j, j < ch → hAt Hi j 0 ≤ 8 ∧ hAt Hi j 1 ≤ 6 ∧ hAt Hi j 2 ≤ 5 := fun j hj => ⟨(hHg j hj).2.2.1, (hHg j hj).2.2.2.1, (hHg j hj).2.2.2.2.1⟩
  have hSw : hs = 1 → Sv 0 ≤ 8 ∧ Sv 1 ≤ 6 ∧ Sv 2 ≤ 5 := fun q => ⟨(hSg q).2.2.1, (hSg q).2.2.2.1, (hSg q).2.2.2.2.1⟩
  have ho := ho9.2
  have hoD := hoD9.2
  have hK7 : kS D [(cI, .int), (cC, .char)] [] s := ⟨hT.1.1.sub [0, 1] rfl, fun _ h9 => nomatch h9⟩
  have hA7 : ∀ q, l7 s AD o oD q → lAN s q := fun _ h9 => h9.1
  refine lv_aload_n hx hb dL_law_2490 rfl (lv_at hl 1 rfl) ?_
  refine lv_aload_n hx hb dL_law_2491 rfl (lv_at hl 3 rfl) ?_
  refine nv_kN (vx_runSX (hh := [(0, 8, 11, 83)]) (As := [.ref (AD 0), .ref o]) (rest := []) ⟨hx, hb, hml, hown, hts⟩ (c_L_errorPosition l hl9 ho) (vx_cwSW 2 hts gL_law_L_errorPosition rfl rfl rfl (by decide +kernel) ⟨Nat.le_of_ble_eq_true rfl, Nat.le_of_ble_eq_true rfl⟩) (nl_pS hT hX hS (fun q h9 => h9.elim (fun ⟨i, _, hi, e9⟩ => by rw [e9]; exact hAD i hi) (fun e9 => by rw [e9]; exact ho9.1)) ⟨hcW, hO⟩) rfl rfl hl.1 rfl (lv_room (Nat.le_of_ble_eq_true rfl)) dL_law_2492 ⟨(show 175 + 3 * k + 1 ≤ 603072 by omega), (show 3554 + 18 * k + 6 ≤ 7219306 by omega)⟩) hS (fun q h9 => h9.elim (fun ⟨i, _, hi, e9⟩ => by rw [e9]; exact hAD i hi) (fun e9 => by rw [e9]; exact ho9.1)) (fun H1 locs1 hP1 hK1 hS1 => ?_)
  obtain ⟨hcW, hO9⟩ := hP1
  have hP7 := nv_keep7 (hD7 G B Hi Sv In Le To _) hP7 hK1 (fun q h9 h8 => h8.elim h9.2.1 (fun e9 => h9.2.2.1 e9))
  have hOB := hOB.kept hK1 (fun h8 => h8.elim hoD (fun e9 => hne e9.symm))
  have hO := hO9
  have hS := hS1
  refine lv_istore (lv' := [(6, .int (nI ((if ea = -1 then 1 else 0)))), (0, .ref b9), (1, .ref (AD 0)), (2, .ref h), (3, .ref o), (4, .ref oD), (5, .int (nI (6 * k)))]) hx hb dL_law_2495 hl (by decide) rfl (fun ls hl => ?_)
  refine lv_aload_n hx hb dL_law_2497 rfl (lv_at hl 3 rfl) ?_
  refine nv_kM2 (va_runV (As := []) (rest := []) ⟨hx, hb, hml, hown, hts⟩ (c_X7_errorPosition l hD7) (cwV 0 hts gL_law_X7_errorPosition rfl rfl rfl (by decide +kernel) ⟨Nat.le_of_ble_eq_true rfl, Nat.le_of_ble_eq_true rfl⟩) (nv_pV hK7 hP7 (va_recv hT.1.1 hP7 (ci := 9) (q0 := 0) rfl rfl)) rfl rfl hl.1 rfl (lv_room (Nat.le_of_ble_eq_true rfl)) dL_law_2498 ⟨(show 175 + 3 * k + 1 + 0 ≤ 603072 by omega), (show 3554 + 18 * k + 6 + 0 ≤ 7219306 by omega)⟩) hS hA7 (fun H2 locs2 hP2 hK2 hS2 => ?_)
  have hP7 := hP2
  have hcW := cOn_W (l7 s AD o oD) _ _ (fun i _ hi h9 => h9.2.1 ⟨i, Nat.zero_le _, hi, rfl⟩) hK2 hcW
  have hO := hO.kept hK2 (fun h9 => h9.2.2.1 rfl)
  have hOB := hOB.kept hK2 (fun h9 => h9.2.2.2 rfl)
  have hS := hS2
  have hF9 := hF.next hk512
  refine lv_istore (lv' := [(7, .int (((if ea = -1 then 0 else ea)))), (6, .int (nI ((if ea = -1 then 1 else 0)))), (0, .ref b9), (1, .ref (AD 0)), (2, .ref h), (3, .ref o), (4, .ref oD), (5, .int (nI (6 * k)))]) hx hb dL_law_2501 hl (by decide) rfl (fun ls hl => ?_)
  refine lv_aload_n hx hb dL_law_2503 rfl (lv_at hl 4 rfl) ?_
  refine nv_kS (va_runV (As := []) (rest := []) ⟨hx, hb, hml, hown, hts⟩ (c_X7_thrown l) (cwV 0 hts gL_law_X7_thrown rfl rfl rfl (by decide +kernel) ⟨Nat.le_of_ble_eq_true rfl, Nat.le_of_ble_eq_true rfl⟩) (nv_pV hK7 hP7 (va_recv hT.1.1 hP7 (ci := 9) (q0 := 0) rfl rfl)) rfl rfl hl.1 rfl (lv_room (Nat.le_of_ble_eq_true rfl)) dL_law_2504 ⟨(show 175 + 3 * k + 1 + 0 + 0 ≤ 603072 by omega), (show 3554 + 18 * k + 6 + 0 + 0 ≤ 7219306 by omega)⟩) ?_
  refine lv_iload hx hb dL_law_2507 (lv_at hl 1 rfl) ?_
  refine lv_icmp_eq (tgt := 2514) hx hb dL_law_2509 (by decide) (fun _ => ?_) (fun h9 => absurd rfl h9)
  refine lv_iload hx hb dL_law_2514 (lv_at hl 1 rfl) ?_
  refine lv_if_ne (tgt := 2531) hx hb dL_law_2516 (by decide) (fun _ => lv_goto (tgt := 2679) hx hb dL_law_2531 (by decide) (W.widen (k := 175 + 3 * (k + 1)) (n := 3554 + 18 * (k + 1)) (by omega) (by omega) (K _ _ _ ⟨_, _, _, _, _, _, _, _, _, _, _, _, _, _, _, _, _, _, hP7, hcW, hF9, hO.imp (fun _ _ => trivial), hOB.imp (fun _ _ => trivial)⟩ hS (lv_sub hl [2, 3, 4, 5, 6, 7] rfl)))) (fun h0 => ?_)
  have ht0 := nv_n0 (t := (if ea = -1 then 1 else 0)) (by (repeat' split) <;> decide) h0
  refine lv_aload_n hx hb dL_law_2519 rfl (lv_at hl 5 rfl) ?_
  refine lv_iconst (v := nI 0) hx hb dL_law_2520 (by decide) ?_
  refine nv_laldO hx hb hX.1 0 rfl (hO.imp (fun _ z => z ht0)) dL_law_2521 ?_
  refine lv_iload hx hb dL_law_2522 (lv_at hl 0 rfl) ?_
  refine lv_i2l hx hb dL_law_2524 rfl ?_
  refine W.lcmp hx hb dL_law_2525 ?_
  exact lv_if_eq (tgt := 2531) hx hb dL_law_2526 (by decide) (fun _ => lv_goto (tgt := 2679) hx hb dL_law_2531 (by decide) (W.widen (k := 175 + 3 * (k + 1)) (n := 3554 + 18 * (k + 1)) (by omega) (by omega) (K _ _ _ ⟨_, _, _, _, _, _, _, _, _, _, _, _, _, _, _, _, _, _, hP7, hcW, hF9, hO.imp (fun _ _ => trivial), hOB.imp (fun _ _ => trivial)⟩ hS (lv_sub hl [2, 3, 4, 5, 6, 7] rfl)))) (fun h9 => absurd (lg_same _) h9)

set_option maxHeartbeats 1000000 in
set_option maxRecDepth 100000 in
theorem lc_refusedItem {p : Program} {l : Launch} {e : Env} {s : State} {m : MethodId} {args : Array Value} {below : List Frame} {meth : Method} {c : Code} {H : Heap} {locs : List Loc} {Q : State → Prop} {ls : Array Slot} {D : va_G} {cI cC cD cR cL cB : ClassId} {sa : sA} {AD : Nat → Nat} {h aG aB aH aS aI aL aT o oD b9 L : Nat} {xs : Nat → Int32} {k : Nat} (hC : lC p l s m args c D cI cC cD cR cL cB sa AD h aG aB aH aS aI aL aT o oD b9 L xs) (hk : 6 * k + 6 ≤ L) (hLI : lI D cI cC cD cR cL cB AD h aG aB aH aS aI aL aT o oD k H) (hS : va_S (lAN s) s.heap H locs) (hl : lv_has ls 9 [(0, .ref b9), (1, .ref (AD 0)), (2, .ref h), (3, .ref o), (4, .ref oD), (5, .int (nI (6 * k)))])
    (K : ∀ (H1 : Heap) (locs1 : List Loc) (ls1 : Array Slot), lI D cI cC cD cR cL cB AD h aG aB aH aS aI aL aT o oD (k + 1) H1 → va_S (lAN s) s.heap H1 locs1 → lv_has ls1 9 [(0, .ref b9), (1, .ref (AD 0)), (2, .ref h), (3, .ref o), (4, .ref oD), (5, .int (nI (6 * k)))] → W p l e room_1 s m args below meth c H1 locs1 (175 + 3 * (k + 1)) (3554 + 18 * (k + 1)) Q (F0 m 2679 ls1 [])) : W p l e room_1 s m args below meth c H locs (175 + 3 * k) (3554 + 18 * k) Q (F0 m 2534 ls []) := by
  obtain ⟨hx, hb, hml, hown, hts, hl9, hXs, hbl, hL, hT, hX, hI, hAD, ho9, hoD9, hne, hD7⟩ := hC
  obtain ⟨G, B, Hi, Sv, In, Le, To, ch, hs, ty, wy, ln, th, sp, iw, ea, ra, wd, hP7, hcW, hF, hO, hOB⟩ := hLI
  obtain ⟨b, hG, h25, hbt, -, hch, hHg, hhs, hSg, hty, hS7, hln, hLe, hwy⟩ := id hF
  have hk512 : k < 512 := by omega
  have hbb : b + 1 < 2 ^ 20 := by omega
  have hb32 : b + 32 < 2 ^ 20 := by omega
  have h13 : b < 8192 := by omega
  have hHw : ∀ j, j < ch → hAt Hi j 0 ≤ 8 ∧ hAt Hi j 1 ≤ 6 ∧ hAt Hi j 2 ≤ 5 := fun j hj => ⟨(hHg j hj).2.2.1, (hHg j hj).2.2.2.1, (hHg j hj).2.2.2.2.1⟩
  have hSw : hs = 1 → Sv 0 ≤ 8 ∧ Sv 1 ≤ 6 ∧ Sv 2 ≤ 5 := fun q => ⟨(hSg q).2.2.1, (hSg q).2.2.2.1, (hSg q).2.2.2.2.1⟩
  have ho := ho9.2
  have hoD := hoD9.2
  have hK7 : kS D [(cI, .int), (cC, .char)] [] s := ⟨hT.1.1.sub [0, 1] rfl, fun _ h9 => nomatch h9⟩
  have hA7 : ∀ q, l7 s AD o oD q → lAN s q := fun _ h9 => h9.1
  refine lv_aload_n hx hb dL_law_2534 rfl (lv_at hl 1 rfl) ?_
  refine lv_aload_n hx hb dL_law_2535 rfl (lv_at hl 3 rfl) ?_
  refine nv_kN (vx_runSX (hh := [(0, 8, 11, 83)]) (As := [.ref (AD 0), .ref o]) (rest := []) ⟨hx, hb, hml, hown, hts⟩ (c_L_refusedItem l hl9 ho) (vx_cwSW 2 hts gL_law_L_refusedItem rfl rfl rfl (by decide +kernel) ⟨Nat.le_of_ble_eq_true rfl, Nat.le_of_ble_eq_true rfl⟩) (nl_pS hT hX hS (fun q h9 => h9.elim (fun ⟨i, _, hi, e9⟩ => by rw [e9]; exact hAD i hi) (fun e9 => by rw [e9]; exact ho9.1)) ⟨hcW, hO⟩) rfl rfl hl.1 rfl (lv_room (Nat.le_of_ble_eq_true rfl)) dL_law_2536 ⟨(show 175 + 3 * k + 1 ≤ 603072 by omega), (show 3554 + 18 * k + 6 ≤ 7219306 by omega)⟩) hS (fun q h9 => h9.elim (fun ⟨i, _, hi, e9⟩ => by rw [e9]; exact hAD i hi) (fun e9 => by rw [e9]; exact ho9.1)) (fun H1 locs1 hP1 hK1 hS1 => ?_)
  obtain ⟨hcW, hO9⟩ := hP1
  have hP7 := nv_keep7 (hD7 G B Hi Sv In Le To _) hP7 hK1 (fun q h9 h8 => h8.elim h9.2.1 (fun e9 => h9.2.2.1 e9))
  have hOB := hOB.kept hK1 (fun h8 => h8.elim hoD (fun e9 => hne e9.symm))
  have hO := hO9
  have hS := hS1
  refine lv_istore (lv' := [(6, .int (nI ((if ra = -1 then 1 else 0)))), (0, .ref b9), (1, .ref (AD 0)), (2, .ref h), (3, .ref o), (4, .ref oD), (5, .int (nI (6 * k)))]) hx hb dL_law_2539 hl (by decide) rfl (fun ls hl => ?_)
  refine lv_aload_n hx hb dL_law_2541 rfl (lv_at hl 3 rfl) ?_
  refine nv_kM2 (va_runV (As := []) (rest := []) ⟨hx, hb, hml, hown, hts⟩ (c_X7_refusedItem l hD7) (cwV 0 hts gL_law_X7_refusedItem rfl rfl rfl (by decide +kernel) ⟨Nat.le_of_ble_eq_true rfl, Nat.le_of_ble_eq_true rfl⟩) (nv_pV hK7 hP7 (va_recv hT.1.1 hP7 (ci := 9) (q0 := 0) rfl rfl)) rfl rfl hl.1 rfl (lv_room (Nat.le_of_ble_eq_true rfl)) dL_law_2542 ⟨(show 175 + 3 * k + 1 + 0 ≤ 603072 by omega), (show 3554 + 18 * k + 6 + 0 ≤ 7219306 by omega)⟩) hS hA7 (fun H2 locs2 hP2 hK2 hS2 => ?_)
  have hP7 := hP2
  have hcW := cOn_W (l7 s AD o oD) _ _ (fun i _ hi h9 => h9.2.1 ⟨i, Nat.zero_le _, hi, rfl⟩) hK2 hcW
  have hO := hO.kept hK2 (fun h9 => h9.2.2.1 rfl)
  have hOB := hOB.kept hK2 (fun h9 => h9.2.2.2 rfl)
  have hS := hS2
  have hF9 := hF.next hk512
  refine lv_istore (lv' := [(7, .int (((if ra = -1 then 0 else ra)))), (6, .int (nI ((if ra = -1 then 1 else 0)))), (0, .ref b9), (1, .ref (AD 0)), (2, .ref h), (3, .ref o), (4, .ref oD), (5, .int (nI (6 * k)))]) hx hb dL_law_2545 hl (by decide) rfl (fun ls hl => ?_)
  refine lv_aload_n hx hb dL_law_2547 rfl (lv_at hl 4 rfl) ?_
  refine nv_kS (va_runV (As := []) (rest := []) ⟨hx, hb, hml, hown, hts⟩ (c_X7_thrown l) (cwV 0 hts gL_law_X7_thrown rfl rfl rfl (by decide +kernel) ⟨Nat.le_of_ble_eq_true rfl, Nat.le_of_ble_eq_true rfl⟩) (nv_pV hK7 hP7 (va_recv hT.1.1 hP7 (ci := 9) (q0 := 0) rfl rfl)) rfl rfl hl.1 rfl (lv_room (Nat.le_of_ble_eq_true rfl)) dL_law_2548 ⟨(show 175 + 3 * k + 1 + 0 + 0 ≤ 603072 by omega), (show 3554 + 18 * k + 6 + 0 + 0 ≤ 7219306 by omega)⟩) ?_
  refine lv_iload hx hb dL_law_2551 (lv_at hl 1 rfl) ?_
  refine lv_icmp_eq (tgt := 2558) hx hb dL_law_2553 (by decide) (fun _ => ?_) (fun h9 => absurd rfl h9)
  refine lv_iload hx hb dL_law_2558 (lv_at hl 1 rfl) ?_
  refine lv_if_ne (tgt := 2575) hx hb dL_law_2560 (by decide) (fun _ => lv_goto (tgt := 2679) hx hb dL_law_2575 (by decide) (W.widen (k := 175 + 3 * (k + 1)) (n := 3554 + 18 * (k + 1)) (by omega) (by omega) (K _ _ _ ⟨_, _, _, _, _, _, _, _, _, _, _, _, _, _, _, _, _, _, hP7, hcW, hF9, hO.imp (fun _ _ => trivial), hOB.imp (fun _ _ => trivial)⟩ hS (lv_sub hl [2, 3, 4, 5, 6, 7] rfl)))) (fun h0 => ?_)
  have ht0 := nv_n0 (t := (if ra = -1 then 1 else 0)) (by (repeat' split) <;> decide) h0
  refine lv_aload_n hx hb dL_law_2563 rfl (lv_at hl 5 rfl) ?_
  refine lv_iconst (v := nI 0) hx hb dL_law_2564 (by decide) ?_
  refine nv_laldO hx hb hX.1 0 rfl (hO.imp (fun _ z => z ht0)) dL_law_2565 ?_
  refine lv_iload hx hb dL_law_2566 (lv_at hl 0 rfl) ?_
  refine lv_i2l hx hb dL_law_2568 rfl ?_
  refine W.lcmp hx hb dL_law_2569 ?_
  exact lv_if_eq (tgt := 2575) hx hb dL_law_2570 (by decide) (fun _ => lv_goto (tgt := 2679) hx hb dL_law_2575 (by decide) (W.widen (k := 175 + 3 * (k + 1)) (n := 3554 + 18 * (k + 1)) (by omega) (by omega) (K _ _ _ ⟨_, _, _, _, _, _, _, _, _, _, _, _, _, _, _, _, _, _, hP7, hcW, hF9, hO.imp (fun _ _ => trivial), hOB.imp (fun _ _ => trivial)⟩ hS (lv_sub hl [2, 3, 4, 5, 6, 7] rfl)))) (fun h9 => absurd (lg_same _) h9)

set_option maxHeartbeats 1000000 in
set_option maxRecDepth 100000 in
theorem lc_undo {p : Program} {l : Launch} {e : Env} {s : State} {m : MethodId} {args : Array Value} {below : List Frame} {meth : Method} {c : Code} {H : Heap} {locs : List Loc} {Q : State → Prop} {ls : Array Slot} {D : va_G} {cI cC cD cR cL cB : ClassId} {sa : sA} {AD : Nat → Nat} {h aG aB aH aS aI aL aT o oD b9 L : Nat} {xs : Nat → Int32} {k : Nat} (hC : lC p l s m args c D cI cC cD cR cL cB sa AD h aG aB aH aS aI aL aT o oD b9 L xs) (hk : 6 * k + 6 ≤ L) (hLI : lI D cI cC cD cR cL cB AD h aG aB aH aS aI aL aT o oD k H) (hS : va_S (lAN s) s.heap H locs) (hl : lv_has ls 9 [(0, .ref b9), (1, .ref (AD 0)), (2, .ref h), (3, .ref o), (4, .ref oD), (5, .int (nI (6 * k)))])
    (K : ∀ (H1 : Heap) (locs1 : List Loc) (ls1 : Array Slot), lI D cI cC cD cR cL cB AD h aG aB aH aS aI aL aT o oD (k + 1) H1 → va_S (lAN s) s.heap H1 locs1 → lv_has ls1 9 [(0, .ref b9), (1, .ref (AD 0)), (2, .ref h), (3, .ref o), (4, .ref oD), (5, .int (nI (6 * k)))] → W p l e room_1 s m args below meth c H1 locs1 (175 + 3 * (k + 1)) (3554 + 18 * (k + 1)) Q (F0 m 2679 ls1 [])) : W p l e room_1 s m args below meth c H locs (175 + 3 * k) (3554 + 18 * k) Q (F0 m 2578 ls []) := by
  obtain ⟨hx, hb, hml, hown, hts, hl9, hXs, hbl, hL, hT, hX, hI, hAD, ho9, hoD9, hne, hD7⟩ := hC
  obtain ⟨G, B, Hi, Sv, In, Le, To, ch, hs, ty, wy, ln, th, sp, iw, ea, ra, wd, hP7, hcW, hF, hO, hOB⟩ := hLI
  obtain ⟨b, hG, h25, hbt, -, hch, hHg, hhs, hSg, hty, hS7, hln, hLe, hwy⟩ := id hF
  have hk512 : k < 512 := by omega
  have hbb : b + 1 < 2 ^ 20 := by omega
  have hb32 : b + 32 < 2 ^ 20 := by omega
  have h13 : b < 8192 := by omega
  have hHw : ∀ j, j < ch → hAt Hi j 0 ≤ 8 ∧ hAt Hi j 1 ≤ 6 ∧ hAt Hi j 2 ≤ 5 := fun j hj => ⟨(hHg j hj).2.2.1, (hHg j hj).2.2.2.1, (hHg j hj).2.2.2.2.1⟩
  have hSw : hs = 1 → Sv 0 ≤ 8 ∧ Sv 1 ≤ 6 ∧ Sv 2 ≤ 5 := fun q => ⟨(hSg q).2.2.1, (hSg q).2.2.2.1, (hSg q).2.2.2.2.1⟩
  have ho := ho9.2
  have hoD := hoD9.2
  have hK7 : kS D [(cI, .int), (cC, .char)] [] s := ⟨hT.1.1.sub [0, 1] rfl, fun _ h9 => nomatch h9⟩
  have hA7 : ∀ q, l7 s AD o oD q → lAN s q := fun _ h9 => h9.1
  refine lv_aload_n hx hb dL_law_2578 rfl (lv_at hl 1 rfl) ?_
  refine lv_aload_n hx hb dL_law_2579 rfl (lv_at hl 3 rfl) ?_
  refine nv_kN (vx_runSX (hh := [(0, 8, 11, 108)]) (As := [.ref (AD 0), .ref o]) (rest := []) ⟨hx, hb, hml, hown, hts⟩ (c_L_undo l hl9 ho hG hI hch hHw) (vx_cwSW 2 hts gL_law_L_undo rfl rfl rfl (by decide +kernel) ⟨Nat.le_of_ble_eq_true rfl, Nat.le_of_ble_eq_true rfl⟩) (nl_pS hT hX hS (fun q h9 => h9.elim (fun ⟨i, _, hi, e9⟩ => by rw [e9]; exact hAD i hi) (fun e9 => by rw [e9]; exact ho9.1)) ⟨hcW, hO⟩) rfl rfl hl.1 rfl (lv_room (Nat.le_of_ble_eq_true rfl)) dL_law_2580 ⟨(show 175 + 3 * k + 1 ≤ 603072 by omega), (show 3554 + 18 * k + 6 ≤ 7219306 by omega)⟩) hS (fun q h9 => h9.elim (fun ⟨i, _, hi, e9⟩ => by rw [e9]; exact hAD i hi) (fun e9 => by rw [e9]; exact ho9.1)) (fun H1 locs1 hP1 hK1 hS1 => ?_)
  obtain ⟨hcW, hO9⟩ := hP1
  have hP7 := nv_keep7 (hD7 G B Hi Sv In Le To _) hP7 hK1 (fun q h9 h8 => h8.elim h9.2.1 (fun e9 => h9.2.2.1 e9))
  have hOB := hOB.kept hK1 (fun h8 => h8.elim hoD (fun e9 => hne e9.symm))
  have hO := hO9
  have hS := hS1
  refine lv_istore (lv' := [(6, .int (nI ((if ch = 0 then 1 else 0)))), (0, .ref b9), (1, .ref (AD 0)), (2, .ref h), (3, .ref o), (4, .ref oD), (5, .int (nI (6 * k)))]) hx hb dL_law_2583 hl (by decide) rfl (fun ls hl => ?_)
  refine lv_aload_n hx hb dL_law_2585 rfl (lv_at hl 3 rfl) ?_
  refine nv_kM2 (va_runV (As := []) (rest := []) ⟨hx, hb, hml, hown, hts⟩ (c_X7_undo l hD7 hch) (cwV 0 hts gL_law_X7_undo rfl rfl rfl (by decide +kernel) ⟨Nat.le_of_ble_eq_true rfl, Nat.le_of_ble_eq_true rfl⟩) (nv_pV hK7 hP7 (va_recv hT.1.1 hP7 (ci := 9) (q0 := 0) rfl rfl)) rfl rfl hl.1 rfl (lv_room (Nat.le_of_ble_eq_true rfl)) dL_law_2586 ⟨(show 175 + 3 * k + 1 + 0 ≤ 603072 by omega), (show 3554 + 18 * k + 6 + 0 ≤ 7219306 by omega)⟩) hS hA7 (fun H2 locs2 hP2 hK2 hS2 => ?_)
  have hP7 := hP2
  have hcW := cOn_W (l7 s AD o oD) _ _ (fun i _ hi h9 => h9.2.1 ⟨i, Nat.zero_le _, hi, rfl⟩) hK2 hcW
  have hO := hO.kept hK2 (fun h9 => h9.2.2.1 rfl)
  have hOB := hOB.kept hK2 (fun h9 => h9.2.2.2 rfl)
  have hS := hS2
  have hF9 := hF.undo hk512
  refine lv_istore (lv' := [(7, .int ((nI (ch - 1)))), (6, .int (nI ((if ch = 0 then 1 else 0)))), (0, .ref b9), (1, .ref (AD 0)), (2, .ref h), (3, .ref o), (4, .ref oD), (5, .int (nI (6 * k)))]) hx hb dL_law_2589 hl (by decide) rfl (fun ls hl => ?_)
  refine lv_aload_n hx hb dL_law_2591 rfl (lv_at hl 4 rfl) ?_
  refine nv_kS (va_runV (As := []) (rest := []) ⟨hx, hb, hml, hown, hts⟩ (c_X7_thrown l) (cwV 0 hts gL_law_X7_thrown rfl rfl rfl (by decide +kernel) ⟨Nat.le_of_ble_eq_true rfl, Nat.le_of_ble_eq_true rfl⟩) (nv_pV hK7 hP7 (va_recv hT.1.1 hP7 (ci := 9) (q0 := 0) rfl rfl)) rfl rfl hl.1 rfl (lv_room (Nat.le_of_ble_eq_true rfl)) dL_law_2592 ⟨(show 175 + 3 * k + 1 + 0 + 0 ≤ 603072 by omega), (show 3554 + 18 * k + 6 + 0 + 0 ≤ 7219306 by omega)⟩) ?_
  refine lv_iload hx hb dL_law_2595 (lv_at hl 1 rfl) ?_
  refine lv_icmp_eq (tgt := 2602) hx hb dL_law_2597 (by decide) (fun _ => ?_) (fun h9 => absurd rfl h9)
  refine lv_iload hx hb dL_law_2602 (lv_at hl 1 rfl) ?_
  refine lv_if_ne (tgt := 2619) hx hb dL_law_2604 (by decide) (fun _ => lv_goto (tgt := 2679) hx hb dL_law_2619 (by decide) (W.widen (k := 175 + 3 * (k + 1)) (n := 3554 + 18 * (k + 1)) (by omega) (by omega) (K _ _ _ ⟨_, _, _, _, _, _, _, _, _, _, _, _, _, _, _, _, _, _, hP7, hcW, hF9, hO.imp (fun _ _ => trivial), hOB.imp (fun _ _ => trivial)⟩ hS (lv_sub hl [2, 3, 4, 5, 6, 7] rfl)))) (fun h0 => ?_)
  have ht0 := nv_n0 (t := (if ch = 0 then 1 else 0)) (by (repeat' split) <;> decide) h0
  refine lv_aload_n hx hb dL_law_2607 rfl (lv_at hl 5 rfl) ?_
  refine lv_iconst (v := nI 0) hx hb dL_law_2608 (by decide) ?_
  refine nv_laldO hx hb hX.1 0 rfl (hO.imp (fun _ z => z ht0)) dL_law_2609 ?_
  refine lv_iload hx hb dL_law_2610 (lv_at hl 0 rfl) ?_
  refine lv_i2l hx hb dL_law_2612 rfl ?_
  refine W.lcmp hx hb dL_law_2613 ?_
  exact lv_if_eq (tgt := 2619) hx hb dL_law_2614 (by decide) (fun _ => lv_goto (tgt := 2679) hx hb dL_law_2619 (by decide) (W.widen (k := 175 + 3 * (k + 1)) (n := 3554 + 18 * (k + 1)) (by omega) (by omega) (K _ _ _ ⟨_, _, _, _, _, _, _, _, _, _, _, _, _, _, _, _, _, _, hP7, hcW, hF9, hO.imp (fun _ _ => trivial), hOB.imp (fun _ _ => trivial)⟩ hS (lv_sub hl [2, 3, 4, 5, 6, 7] rfl)))) (fun h9 => absurd (lg_same _) h9)

set_option maxHeartbeats 1000000 in
set_option maxRecDepth 100000 in
theorem lc_snapshot {p : Program} {l : Launch} {e : Env} {s : State} {m : MethodId} {args : Array Value} {below : List Frame} {meth : Method} {c : Code} {H : Heap} {locs : List Loc} {Q : State → Prop} {ls : Array Slot} {D : va_G} {cI cC cD cR cL cB : ClassId} {sa : sA} {AD : Nat → Nat} {h aG aB aH aS aI aL aT o oD b9 L : Nat} {xs : Nat → Int32} {k : Nat} (hC : lC p l s m args c D cI cC cD cR cL cB sa AD h aG aB aH aS aI aL aT o oD b9 L xs) (hk : 6 * k + 6 ≤ L) (hLI : lI D cI cC cD cR cL cB AD h aG aB aH aS aI aL aT o oD k H) (hS : va_S (lAN s) s.heap H locs) (hl : lv_has ls 9 [(0, .ref b9), (1, .ref (AD 0)), (2, .ref h), (3, .ref o), (4, .ref oD), (5, .int (nI (6 * k)))])
    (K : ∀ (H1 : Heap) (locs1 : List Loc) (ls1 : Array Slot), lI D cI cC cD cR cL cB AD h aG aB aH aS aI aL aT o oD (k + 1) H1 → va_S (lAN s) s.heap H1 locs1 → lv_has ls1 9 [(0, .ref b9), (1, .ref (AD 0)), (2, .ref h), (3, .ref o), (4, .ref oD), (5, .int (nI (6 * k)))] → W p l e room_1 s m args below meth c H1 locs1 (175 + 3 * (k + 1)) (3554 + 18 * (k + 1)) Q (F0 m 2679 ls1 [])) : W p l e room_1 s m args below meth c H locs (175 + 3 * k) (3554 + 18 * k) Q (F0 m 2622 ls []) := by
  obtain ⟨hx, hb, hml, hown, hts, hl9, hXs, hbl, hL, hT, hX, hI, hAD, ho9, hoD9, hne, hD7⟩ := hC
  obtain ⟨G, B, Hi, Sv, In, Le, To, ch, hs, ty, wy, ln, th, sp, iw, ea, ra, wd, hP7, hcW, hF, hO, hOB⟩ := hLI
  obtain ⟨b, hG, h25, hbt, -, hch, hHg, hhs, hSg, hty, hS7, hln, hLe, hwy⟩ := id hF
  have hk512 : k < 512 := by omega
  have hbb : b + 1 < 2 ^ 20 := by omega
  have hb32 : b + 32 < 2 ^ 20 := by omega
  have h13 : b < 8192 := by omega
  have hHw : ∀ j, j < ch → hAt Hi j 0 ≤ 8 ∧ hAt Hi j 1 ≤ 6 ∧ hAt Hi j 2 ≤ 5 := fun j hj => ⟨(hHg j hj).2.2.1, (hHg j hj).2.2.2.1, (hHg j hj).2.2.2.2.1⟩
  have hSw : hs = 1 → Sv 0 ≤ 8 ∧ Sv 1 ≤ 6 ∧ Sv 2 ≤ 5 := fun q => ⟨(hSg q).2.2.1, (hSg q).2.2.2.1, (hSg q).2.2.2.2.1⟩
  have ho := ho9.2
  have hoD := hoD9.2
  have hK7 : kS D [(cI, .int), (cC, .char)] [] s := ⟨hT.1.1.sub [0, 1] rfl, fun _ h9 => nomatch h9⟩
  have hA7 : ∀ q, l7 s AD o oD q → lAN s q := fun _ h9 => h9.1
  refine lv_aload_n hx hb dL_law_2622 rfl (lv_at hl 1 rfl) ?_
  refine nv_kG (va_runV (As := []) (rest := []) ⟨hx, hb, hml, hown, hts⟩ (c_X6_snapshot l (A := cRg AD 0 165) hG hI cRg_self) (cwV 0 hts gL_law_X6_snapshot rfl rfl rfl (by decide +kernel) ⟨Nat.le_of_ble_eq_true rfl, Nat.le_of_ble_eq_true rfl⟩) (nt_pVn hT hS (fun q ⟨i, _, hi, e9⟩ => by rw [e9]; exact hAD i hi) hcW (va_recv hT.1.1 hcW.1 (ci := 8) (q0 := 0) rfl rfl)) rfl rfl hl.1 rfl (lv_room (Nat.le_of_ble_eq_true rfl)) dL_law_2623 ⟨(show 175 + 3 * k + 0 ≤ 603072 by omega), (show 3554 + 18 * k + 0 ≤ 7219306 by omega)⟩) hS (fun q ⟨i, _, hi, e9⟩ => by rw [e9]; exact hAD i hi) (fun H1 locs1 hP1 hK1 hS1 => ?_)
  have hcW := hP1
  have hP7 := nv_keep7 (hD7 G B Hi Sv In Le To _) hP7 hK1 (fun q h9 h8 => h9.2.1 h8)
  have hO := hO.kept hK1 ho
  have hOB := hOB.kept hK1 hoD
  have hS := hS1
  refine lv_aload_n hx hb dL_law_2626 rfl (lv_at hl 2 rfl) ?_
  refine nv_kM2 (va_runV (As := []) (rest := [.int _]) ⟨hx, hb, hml, hown, hts⟩ (c_X7_snapshot l hD7) (cwV 0 hts gL_law_X7_snapshot rfl rfl rfl (by decide +kernel) ⟨Nat.le_of_ble_eq_true rfl, Nat.le_of_ble_eq_true rfl⟩) (nv_pV hK7 hP7 (va_recv hT.1.1 hP7 (ci := 9) (q0 := 0) rfl rfl)) rfl rfl hl.1 rfl (lv_room (Nat.le_of_ble_eq_true rfl)) dL_law_2627 ⟨(show 175 + 3 * k + 0 + 0 ≤ 603072 by omega), (show 3554 + 18 * k + 0 + 0 ≤ 7219306 by omega)⟩) hS hA7 (fun H2 locs2 hP2 hK2 hS2 => ?_)
  have hP7 := hP2
  have hcW := cOn_W (l7 s AD o oD) _ _ (fun i _ hi h9 => h9.2.1 ⟨i, Nat.zero_le _, hi, rfl⟩) hK2 hcW
  have hO := hO.kept hK2 (fun h9 => h9.2.2.1 rfl)
  have hOB := hOB.kept hK2 (fun h9 => h9.2.2.2 rfl)
  have hS := hS2
  have hF9 := hF.snapshot hk512
  refine lv_icmp_eq (tgt := 2679) hx hb dL_law_2630 (by decide) (fun _ => ?_) (fun h9 => absurd rfl h9)
  exact W.widen (k := 175 + 3 * (k + 1)) (n := 3554 + 18 * (k + 1)) (by omega) (by omega) (K _ _ _ ⟨_, _, _, _, _, _, _, _, _, _, _, _, _, _, _, _, _, _, hP7, hcW, hF9, hO.imp (fun _ _ => trivial), hOB.imp (fun _ _ => trivial)⟩ hS hl)

set_option maxHeartbeats 1000000 in
set_option maxRecDepth 100000 in
theorem lc_restore {p : Program} {l : Launch} {e : Env} {s : State} {m : MethodId} {args : Array Value} {below : List Frame} {meth : Method} {c : Code} {H : Heap} {locs : List Loc} {Q : State → Prop} {ls : Array Slot} {D : va_G} {cI cC cD cR cL cB : ClassId} {sa : sA} {AD : Nat → Nat} {h aG aB aH aS aI aL aT o oD b9 L : Nat} {xs : Nat → Int32} {k : Nat} (hC : lC p l s m args c D cI cC cD cR cL cB sa AD h aG aB aH aS aI aL aT o oD b9 L xs) (hk : 6 * k + 6 ≤ L) (hLI : lI D cI cC cD cR cL cB AD h aG aB aH aS aI aL aT o oD k H) (hS : va_S (lAN s) s.heap H locs) (hl : lv_has ls 9 [(0, .ref b9), (1, .ref (AD 0)), (2, .ref h), (3, .ref o), (4, .ref oD), (5, .int (nI (6 * k)))])
    (K : ∀ (H1 : Heap) (locs1 : List Loc) (ls1 : Array Slot), lI D cI cC cD cR cL cB AD h aG aB aH aS aI aL aT o oD (k + 1) H1 → va_S (lAN s) s.heap H1 locs1 → lv_has ls1 9 [(0, .ref b9), (1, .ref (AD 0)), (2, .ref h), (3, .ref o), (4, .ref oD), (5, .int (nI (6 * k)))] → W p l e room_1 s m args below meth c H1 locs1 (175 + 3 * (k + 1)) (3554 + 18 * (k + 1)) Q (F0 m 2679 ls1 [])) : W p l e room_1 s m args below meth c H locs (175 + 3 * k) (3554 + 18 * k) Q (F0 m 2635 ls []) := by
  obtain ⟨hx, hb, hml, hown, hts, hl9, hXs, hbl, hL, hT, hX, hI, hAD, ho9, hoD9, hne, hD7⟩ := hC
  obtain ⟨G, B, Hi, Sv, In, Le, To, ch, hs, ty, wy, ln, th, sp, iw, ea, ra, wd, hP7, hcW, hF, hO, hOB⟩ := hLI
  obtain ⟨b, hG, h25, hbt, -, hch, hHg, hhs, hSg, hty, hS7, hln, hLe, hwy⟩ := id hF
  have hk512 : k < 512 := by omega
  have hbb : b + 1 < 2 ^ 20 := by omega
  have hb32 : b + 32 < 2 ^ 20 := by omega
  have h13 : b < 8192 := by omega
  have hHw : ∀ j, j < ch → hAt Hi j 0 ≤ 8 ∧ hAt Hi j 1 ≤ 6 ∧ hAt Hi j 2 ≤ 5 := fun j hj => ⟨(hHg j hj).2.2.1, (hHg j hj).2.2.2.1, (hHg j hj).2.2.2.2.1⟩
  have hSw : hs = 1 → Sv 0 ≤ 8 ∧ Sv 1 ≤ 6 ∧ Sv 2 ≤ 5 := fun q => ⟨(hSg q).2.2.1, (hSg q).2.2.2.1, (hSg q).2.2.2.2.1⟩
  have ho := ho9.2
  have hoD := hoD9.2
  have hK7 : kS D [(cI, .int), (cC, .char)] [] s := ⟨hT.1.1.sub [0, 1] rfl, fun _ h9 => nomatch h9⟩
  have hA7 : ∀ q, l7 s AD o oD q → lAN s q := fun _ h9 => h9.1
  refine lv_aload_n hx hb dL_law_2635 rfl (lv_at hl 1 rfl) ?_
  refine lv_aload_n hx hb dL_law_2636 rfl (lv_at hl 3 rfl) ?_
  refine nv_kN (vx_runSX (hh := [(0, 8, 11, 108)]) (As := [.ref (AD 0), .ref o]) (rest := []) ⟨hx, hb, hml, hown, hts⟩ (c_L_restore l hl9 ho hG hI hhs hSw) (vx_cwSW 2 hts gL_law_L_restore rfl rfl rfl (by decide +kernel) ⟨Nat.le_of_ble_eq_true rfl, Nat.le_of_ble_eq_true rfl⟩) (nl_pS hT hX hS (fun q h9 => h9.elim (fun ⟨i, _, hi, e9⟩ => by rw [e9]; exact hAD i hi) (fun e9 => by rw [e9]; exact ho9.1)) ⟨hcW, hO⟩) rfl rfl hl.1 rfl (lv_room (Nat.le_of_ble_eq_true rfl)) dL_law_2637 ⟨(show 175 + 3 * k + 1 ≤ 603072 by omega), (show 3554 + 18 * k + 6 ≤ 7219306 by omega)⟩) hS (fun q h9 => h9.elim (fun ⟨i, _, hi, e9⟩ => by rw [e9]; exact hAD i hi) (fun e9 => by rw [e9]; exact ho9.1)) (fun H1 locs1 hP1 hK1 hS1 => ?_)
  obtain ⟨hcW, hO9⟩ := hP1
  have hP7 := nv_keep7 (hD7 G B Hi Sv In Le To _) hP7 hK1 (fun q h9 h8 => h8.elim h9.2.1 (fun e9 => h9.2.2.1 e9))
  have hOB := hOB.kept hK1 (fun h8 => h8.elim hoD (fun e9 => hne e9.symm))
  have hO := hO9
  have hS := hS1
  refine lv_istore (lv' := [(6, .int (nI ((if hs = 0 then 1 else 0)))), (0, .ref b9), (1, .ref (AD 0)), (2, .ref h), (3, .ref o), (4, .ref oD), (5, .int (nI (6 * k)))]) hx hb dL_law_2640 hl (by decide) rfl (fun ls hl => ?_)
  refine lv_aload_n hx hb dL_law_2642 rfl (lv_at hl 3 rfl) ?_
  refine nv_kM2 (va_runV (As := []) (rest := []) ⟨hx, hb, hml, hown, hts⟩ (c_X7_restore l hD7 hhs) (cwV 0 hts gL_law_X7_restore rfl rfl rfl (by decide +kernel) ⟨Nat.le_of_ble_eq_true rfl, Nat.le_of_ble_eq_true rfl⟩) (nv_pV hK7 hP7 (va_recv hT.1.1 hP7 (ci := 9) (q0 := 0) rfl rfl)) rfl rfl hl.1 rfl (lv_room (Nat.le_of_ble_eq_true rfl)) dL_law_2643 ⟨(show 175 + 3 * k + 1 + 0 ≤ 603072 by omega), (show 3554 + 18 * k + 6 + 0 ≤ 7219306 by omega)⟩) hS hA7 (fun H2 locs2 hP2 hK2 hS2 => ?_)
  have hP7 := hP2
  have hcW := cOn_W (l7 s AD o oD) _ _ (fun i _ hi h9 => h9.2.1 ⟨i, Nat.zero_le _, hi, rfl⟩) hK2 hcW
  have hO := hO.kept hK2 (fun h9 => h9.2.2.1 rfl)
  have hOB := hOB.kept hK2 (fun h9 => h9.2.2.2 rfl)
  have hS := hS2
  have hF9 := hF.restore hk512
  refine lv_istore (lv' := [(7, .int ((nI ((if hs = 0 then 0 else Sv 0))))), (6, .int (nI ((if hs = 0 then 1 else 0)))), (0, .ref b9), (1, .ref (AD 0)), (2, .ref h), (3, .ref o), (4, .ref oD), (5, .int (nI (6 * k)))]) hx hb dL_law_2646 hl (by decide) rfl (fun ls hl => ?_)
  refine lv_aload_n hx hb dL_law_2648 rfl (lv_at hl 4 rfl) ?_
  refine nv_kS (va_runV (As := []) (rest := []) ⟨hx, hb, hml, hown, hts⟩ (c_X7_thrown l) (cwV 0 hts gL_law_X7_thrown rfl rfl rfl (by decide +kernel) ⟨Nat.le_of_ble_eq_true rfl, Nat.le_of_ble_eq_true rfl⟩) (nv_pV hK7 hP7 (va_recv hT.1.1 hP7 (ci := 9) (q0 := 0) rfl rfl)) rfl rfl hl.1 rfl (lv_room (Nat.le_of_ble_eq_true rfl)) dL_law_2649 ⟨(show 175 + 3 * k + 1 + 0 + 0 ≤ 603072 by omega), (show 3554 + 18 * k + 6 + 0 + 0 ≤ 7219306 by omega)⟩) ?_
  refine lv_iload hx hb dL_law_2652 (lv_at hl 1 rfl) ?_
  refine lv_icmp_eq (tgt := 2659) hx hb dL_law_2654 (by decide) (fun _ => ?_) (fun h9 => absurd rfl h9)
  refine lv_iload hx hb dL_law_2659 (lv_at hl 1 rfl) ?_
  refine lv_if_ne (tgt := 2676) hx hb dL_law_2661 (by decide) (fun _ => lv_goto (tgt := 2679) hx hb dL_law_2676 (by decide) (W.widen (k := 175 + 3 * (k + 1)) (n := 3554 + 18 * (k + 1)) (by omega) (by omega) (K _ _ _ ⟨_, _, _, _, _, _, _, _, _, _, _, _, _, _, _, _, _, _, hP7, hcW, hF9, hO.imp (fun _ _ => trivial), hOB.imp (fun _ _ => trivial)⟩ hS (lv_sub hl [2, 3, 4, 5, 6, 7] rfl)))) (fun h0 => ?_)
  have ht0 := nv_n0 (t := (if hs = 0 then 1 else 0)) (by (repeat' split) <;> decide) h0
  refine lv_aload_n hx hb dL_law_2664 rfl (lv_at hl 5 rfl) ?_
  refine lv_iconst (v := nI 0) hx hb dL_law_2665 (by decide) ?_
  refine nv_laldO hx hb hX.1 0 rfl (hO.imp (fun _ z => z ht0)) dL_law_2666 ?_
  refine lv_iload hx hb dL_law_2667 (lv_at hl 0 rfl) ?_
  refine lv_i2l hx hb dL_law_2669 rfl ?_
  refine W.lcmp hx hb dL_law_2670 ?_
  exact lv_if_eq (tgt := 2676) hx hb dL_law_2671 (by decide) (fun _ => lv_goto (tgt := 2679) hx hb dL_law_2676 (by decide) (W.widen (k := 175 + 3 * (k + 1)) (n := 3554 + 18 * (k + 1)) (by omega) (by omega) (K _ _ _ ⟨_, _, _, _, _, _, _, _, _, _, _, _, _, _, _, _, _, _, hP7, hcW, hF9, hO.imp (fun _ _ => trivial), hOB.imp (fun _ _ => trivial)⟩ hS (lv_sub hl [2, 3, 4, 5, 6, 7] rfl)))) (fun h9 => absurd (lg_same _) h9)
