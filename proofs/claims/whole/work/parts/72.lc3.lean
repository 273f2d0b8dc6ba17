set_option maxHeartbeats 1000000 in
set_option maxRecDepth 100000 in
theorem lc_isRight {p : Program} {l : Launch} {e : Env} {s : State} {m : MethodId} {args : Array Value} {below : List Frame} {meth : Method} {c : Code} {H : Heap} {locs : List Loc} {Q : State → Prop} {ls : Array Slot} {D : va_G} {cI cC cD cR cL cB : ClassId} {sa : sA} {AD : Nat → Nat} {h aG aB aH aS aI aL aT o oD b9 L : Nat} {xs : Nat → Int32} {k : Nat} (hC : lC p l s m args c D cI cC cD cR cL cB sa AD h aG aB aH aS aI aL aT o oD b9 L xs) (hk : 6 * k + 6 ≤ L) (hLI : lI D cI cC cD cR cL cB AD h aG aB aH aS aI aL aT o oD k H) (hS : va_S (lAN s) s.heap H locs) (hl : lv_has ls 9 [(0, .ref b9), (1, .ref (AD 0)), (2, .ref h), (3, .ref o), (4, .ref oD), (5, .int (nI (6 * k)))])
    (K : ∀ (H1 : Heap) (locs1 : List Loc) (ls1 : Array Slot), lI D cI cC cD cR cL cB AD h aG aB aH aS aI aL aT o oD (k + 1) H1 → va_S (lAN s) s.heap H1 locs1 → lv_has ls1 9 [(0, .ref b9), (1, .ref (AD 0)), (2, .ref h), (3, .ref o), (4, .ref oD), (5, .int (nI (6 * k)))] → W p l e room_1 s m args below meth c H1 locs1 (175 + 3 * (k + 1)) (3554 + 18 * (k + 1)) Q (F0 m 2679 ls1 [])) : W p l e room_1 s m args below meth c H locs (175 + 3 * k) (3554 + 18 * k) Q (F0 m 1950 ls []) := by
  obtain ⟨hx, hb, hml, hown, hts, hl9, hXs, hbl, hL, hT, hX, hI, hAD, ho9, hoD9, hne, hD7⟩ := hC
  obtain ⟨G, B, Hi, Sv, In, Le, To, ch, hs, ty, wy, ln, th, sp, iw, ea, ra, wd, hP7, hcW, hF, hO, hOB⟩ := hLI
  obtain ⟨b, hG, h25, hbt, -, hch, hHg, hhs, hSg, hty, hS7, hln, hLe, hwy⟩ := id hF
  have hk512 : k < 512 := by omega
  have hbb : b + 1 < 2 ^ 20 := by omega
  have hb32 : b + 32 < 2 ^ 20 := by omega
  have h13 : b < 8192 := by omega
  have hHw : ∀ j, j < ch → hAt Hi j 0 ≤ 8 ∧ hAt Hi j 1 ≤ 6 ∧ hAt Hi j 2 ≤ 5 := fun j hj => ⟨(hHg j hj).2.2.1, (hHg j hj).2.2.2.1, (hHg j hj).2.2.2.2.1⟩
  have hSw : hs = 1 → Sv 0 ≤ 8 ∧ Sv 1 ≤ 6 ∧ Sv 2 ≤ 5 := fun q => ⟨(hSg q).2.2.1, (hSg q).2.2.2.1, (hSg q).2.2.2.2.1⟩
  have ho := ho9.2
  have hoD := hoD9.2
  have hK7 : kS D [(cI, .int), (cC, .char)] [] s := ⟨hT.1.1.sub [0, 1] rfl, fun _ h9 => nomatch h9⟩
  have hA7 : ∀ q, l7 s AD o oD q → lAN s q := fun _ h9 => h9.1
  refine lv_aload_n hx hb dL_law_1950 rfl (lv_at hl 1 rfl) ?_
  refine nv_kG (va_runV (As := []) (rest := []) ⟨hx, hb, hml, hown, hts⟩ (c_X6_isRight l (A := cRg AD 0 165) hG hI cRg_self) (cwV 0 hts gL_law_X6_isRight rfl rfl rfl (by decide +kernel) ⟨Nat.le_of_ble_eq_true rfl, Nat.le_of_ble_eq_true rfl⟩) (nt_pVn hT hS (fun q ⟨i, _, hi, e9⟩ => by rw [e9]; exact hAD i hi) hcW (va_recv hT.1.1 hcW.1 (ci := 8) (q0 := 0) rfl rfl)) rfl rfl hl.1 rfl (lv_room (Nat.le_of_ble_eq_true rfl)) dL_law_1951 ⟨(show 175 + 3 * k + 0 ≤ 603072 by omega), (show 3554 + 18 * k + 0 ≤ 7219306 by omega)⟩) hS (fun q ⟨i, _, hi, e9⟩ => by rw [e9]; exact hAD i hi) (fun H1 locs1 hP1 hK1 hS1 => ?_)
  have hcW := hP1
  have hP7 := nv_keep7 (hD7 G B Hi Sv In Le To _) hP7 hK1 (fun q h9 h8 => h9.2.1 h8)
  have hO := hO.kept hK1 ho
  have hOB := hOB.kept hK1 hoD
  have hS := hS1
  refine lv_aload_n hx hb dL_law_1954 rfl (lv_at hl 2 rfl) ?_
  refine nv_kM2 (va_runV (As := []) (rest := [.int _]) ⟨hx, hb, hml, hown, hts⟩ (c_X7_isRight l hD7) (cwV 0 hts gL_law_X7_isRight rfl rfl rfl (by decide +kernel) ⟨Nat.le_of_ble_eq_true rfl, Nat.le_of_ble_eq_true rfl⟩) (nv_pV hK7 hP7 (va_recv hT.1.1 hP7 (ci := 9) (q0 := 0) rfl rfl)) rfl rfl hl.1 rfl (lv_room (Nat.le_of_ble_eq_true rfl)) dL_law_1955 ⟨(show 175 + 3 * k + 0 + 0 ≤ 603072 by omega), (show 3554 + 18 * k + 0 + 0 ≤ 7219306 by omega)⟩) hS hA7 (fun H2 locs2 hP2 hK2 hS2 => ?_)
  have hP7 := hP2
  have hcW := cOn_W (l7 s AD o oD) _ _ (fun i _ hi h9 => h9.2.1 ⟨i, Nat.zero_le _, hi, rfl⟩) hK2 hcW
  have hO := hO.kept hK2 (fun h9 => h9.2.2.1 rfl)
  have hOB := hOB.kept hK2 (fun h9 => h9.2.2.2 rfl)
  have hS := hS2
  have hF9 := hF.next hk512
  refine lv_icmp_eq (tgt := 2679) hx hb dL_law_1958 (by decide) (fun _ => ?_) (fun h9 => absurd rfl h9)
  exact W.widen (k := 175 + 3 * (k + 1)) (n := 3554 + 18 * (k + 1)) (by omega) (by omega) (K _ _ _ ⟨_, _, _, _, _, _, _, _, _, _, _, _, _, _, _, _, _, _, hP7, hcW, hF9, hO.imp (fun _ _ => trivial), hOB.imp (fun _ _ => trivial)⟩ hS hl)

set_option maxHeartbeats 1000000 in
set_option maxRecDepth 100000 in
theorem lc_line {p : Program} {l : Launch} {e : Env} {s : State} {m : MethodId} {args : Array Value} {below : List Frame} {meth : Method} {c : Code} {H : Heap} {locs : List Loc} {Q : State → Prop} {ls : Array Slot} {D : va_G} {cI cC cD cR cL cB : ClassId} {sa : sA} {AD : Nat → Nat} {h aG aB aH aS aI aL aT o oD b9 L : Nat} {xs : Nat → Int32} {k : Nat} (hC : lC p l s m args c D cI cC cD cR cL cB sa AD h aG aB aH aS aI aL aT o oD b9 L xs) (hk : 6 * k + 6 ≤ L) (hLI : lI D cI cC cD cR cL cB AD h aG aB aH aS aI aL aT o oD k H) (hS : va_S (lAN s) s.heap H locs) (hl : lv_has ls 9 [(0, .ref b9), (1, .ref (AD 0)), (2, .ref h), (3, .ref o), (4, .ref oD), (5, .int (nI (6 * k)))])
    (K : ∀ (H1 : Heap) (locs1 : List Loc) (ls1 : Array Slot), lI D cI cC cD cR cL cB AD h aG aB aH aS aI aL aT o oD (k + 1) H1 → va_S (lAN s) s.heap H1 locs1 → lv_has ls1 9 [(0, .ref b9), (1, .ref (AD 0)), (2, .ref h), (3, .ref o), (4, .ref oD), (5, .int (nI (6 * k)))] → W p l e room_1 s m args below meth c H1 locs1 (175 + 3 * (k + 1)) (3554 + 18 * (k + 1)) Q (F0 m 2679 ls1 [])) : W p l e room_1 s m args below meth c H locs (175 + 3 * k) (3554 + 18 * k) Q (F0 m 1963 ls []) := by
  obtain ⟨hx, hb, hml, hown, hts, hl9, hXs, hbl, hL, hT, hX, hI, hAD, ho9, hoD9, hne, hD7⟩ := hC
  obtain ⟨G, B, Hi, Sv, In, Le, To, ch, hs, ty, wy, ln, th, sp, iw, ea, ra, wd, hP7, hcW, hF, hO, hOB⟩ := hLI
  obtain ⟨b, hG, h25, hbt, -, hch, hHg, hhs, hSg, hty, hS7, hln, hLe, hwy⟩ := id hF
  have hk512 : k < 512 := by omega
  have hbb : b + 1 < 2 ^ 20 := by omega
  have hb32 : b + 32 < 2 ^ 20 := by omega
  have h13 : b < 8192 := by omega
  have hHw : ∀ j, j < ch → hAt Hi j 0 ≤ 8 ∧ hAt Hi j 1 ≤ 6 ∧ hAt Hi j 2 ≤ 5 := fun j hj => ⟨(hHg j hj).2.2.1, (hHg j hj).2.2.2.1, (hHg j hj).2.2.2.2.1⟩
  have hSw : hs = 1 → Sv 0 ≤ 8 ∧ Sv 1 ≤ 6 ∧ Sv 2 ≤ 5 := fun q => ⟨(hSg q).2.2.1, (hSg q).2.2.2.1, (hSg q).2.2.2.2.1⟩
  have ho := ho9.2
  have hoD := hoD9.2
  have hK7 : kS D [(cI, .int), (cC, .char)] [] s := ⟨hT.1.1.sub [0, 1] rfl, fun _ h9 => nomatch h9⟩
  have hA7 : ∀ q, l7 s AD o oD q → lAN s q := fun _ h9 => h9.1
  refine lv_aload_n hx hb dL_law_1963 rfl (lv_at hl 1 rfl) ?_
  refine lv_aload_n hx hb dL_law_1964 rfl (lv_at hl 0 rfl) ?_
  refine lv_iload hx hb dL_law_1965 (lv_at hl 5 rfl) ?_
  refine lv_iconst (v := nI 1) hx hb dL_law_1967 (by decide) ?_
  refine nv_iadd hx hb dL_law_1968 ?_
  refine nv_sld hx hb hXs hbl hS (by omega) hL dL_law_1969 ?_
  refine lv_aload_n hx hb dL_law_1970 rfl (lv_at hl 3 rfl) ?_
  refine nv_kN (vx_runSX (hh := [(0, 9, 12, 15)]) (As := [.ref (AD 0), .int (xs (6 * k + 1)), .ref o]) (rest := []) ⟨hx, hb, hml, hown, hts⟩ (c_L_line l hl9 ho hG hI (xs (6 * k + 1))) (vx_cwSW 3 hts gL_law_L_line rfl rfl rfl (by decide +kernel) ⟨Nat.le_of_ble_eq_true rfl, Nat.le_of_ble_eq_true rfl⟩) (nl_pS hT hX hS (fun q h9 => h9.elim (fun ⟨i, _, hi, e9⟩ => by rw [e9]; exact hAD i hi) (fun e9 => by rw [e9]; exact ho9.1)) ⟨hcW, hO⟩) rfl rfl hl.1 rfl (lv_room (Nat.le_of_ble_eq_true rfl)) dL_law_1971 ⟨(show 175 + 3 * k + 1 ≤ 603072 by omega), (show 3554 + 18 * k + 6 ≤ 7219306 by omega)⟩) hS (fun q h9 => h9.elim (fun ⟨i, _, hi, e9⟩ => by rw [e9]; exact hAD i hi) (fun e9 => by rw [e9]; exact ho9.1)) (fun H1 locs1 hP1 hK1 hS1 => ?_)
  obtain ⟨hcW, hO9⟩ := hP1
  have hP7 := nv_keep7 (hD7 G B Hi Sv In Le To _) hP7 hK1 (fun q h9 h8 => h8.elim h9.2.1 (fun e9 => h9.2.2.1 e9))
  have hOB := hOB.kept hK1 (fun h8 => h8.elim hoD (fun e9 => hne e9.symm))
  have hO := hO9
  have hS := hS1
  refine lv_istore (lv' := [(6, .int (nI ((if iR (xs (6 * k + 1)) (G 0) then 0 else 1)))), (0, .ref b9), (1, .ref (AD 0)), (2, .ref h), (3, .ref o), (4, .ref oD), (5, .int (nI (6 * k)))]) hx hb dL_law_1974 hl (by decide) rfl (fun ls hl => ?_)
  refine lv_aload_n hx hb dL_law_1976 rfl (lv_at hl 3 rfl) ?_
  refine lv_aload_n hx hb dL_law_1977 rfl (lv_at hl 1 rfl) ?_
  refine lv_iload hx hb dL_law_1978 (lv_at hl 6 rfl) ?_
  refine lv_iconst (v := nI 1) hx hb dL_law_1980 (by decide) ?_
  refine nv_iadd hx hb dL_law_1981 ?_
  refine nv_sld hx hb hXs hbl hS (by omega) hL dL_law_1982 ?_
  refine nv_kM2 (va_runV (As := [.int (xs (6 * k + 1))]) (rest := []) ⟨hx, hb, hml, hown, hts⟩ (c_X7_line l hD7 hG (xs (6 * k + 1))) (cwV 1 hts gL_law_X7_line rfl rfl rfl (by decide +kernel) ⟨Nat.le_of_ble_eq_true rfl, Nat.le_of_ble_eq_true rfl⟩) (nv_pV hK7 hP7 (va_recv hT.1.1 hP7 (ci := 9) (q0 := 0) rfl rfl)) rfl rfl hl.1 rfl (lv_room (Nat.le_of_ble_eq_true rfl)) dL_law_1983 ⟨(show 175 + 3 * k + 1 + 0 ≤ 603072 by omega), (show 3554 + 18 * k + 6 + 0 ≤ 7219306 by omega)⟩) hS hA7 (fun H2 locs2 hP2 hK2 hS2 => ?_)
  have hP7 := hP2
  have hcW := cOn_W (l7 s AD o oD) _ _ (fun i _ hi h9 => h9.2.1 ⟨i, Nat.zero_le _, hi, rfl⟩) hK2 hcW
  have hO := hO.kept hK2 (fun h9 => h9.2.2.1 rfl)
  have hOB := hOB.kept hK2 (fun h9 => h9.2.2.2 rfl)
  have hS := hS2
  have hF9 : lF (k + 1) G Sv Hi In (if iR (xs (6 * k + 1)) (G 0) then wrL (lnD G (tN (xs (6 * k + 1)))) Le 0 else Le) hs ch ty wy (if iR (xs (6 * k + 1)) (G 0) then (lnD G (tN (xs (6 * k + 1)))).length else ln) := by
    split
    · exact hF.text hk512 (Nat.le_trans (lnD_len G _) (by decide)) (lnD_lt hG (iR_lt ‹_› (by have := hG.2.2.1; omega)))
    · exact hF.next hk512
  refine lv_istore (lv' := [(7, .int (((if iR (xs (6 * k + 1)) (G 0) then nI (lnD G (tN (xs (6 * k + 1)))).length else 0)))), (6, .int (nI ((if iR (xs (6 * k + 1)) (G 0) then 0 else 1)))), (0, .ref b9), (1, .ref (AD 0)), (2, .ref h), (3, .ref o), (4, .ref oD), (5, .int (nI (6 * k)))]) hx hb dL_law_1986 hl (by decide) rfl (fun ls hl => ?_)
  refine lv_aload_n hx hb dL_law_1988 rfl (lv_at hl 4 rfl) ?_
  refine nv_kS (va_runV (As := []) (rest := []) ⟨hx, hb, hml, hown, hts⟩ (c_X7_thrown l) (cwV 0 hts gL_law_X7_thrown rfl rfl rfl (by decide +kernel) ⟨Nat.le_of_ble_eq_true rfl, Nat.le_of_ble_eq_true rfl⟩) (nv_pV hK7 hP7 (va_recv hT.1.1 hP7 (ci := 9) (q0 := 0) rfl rfl)) rfl rfl hl.1 rfl (lv_room (Nat.le_of_ble_eq_true rfl)) dL_law_1989 ⟨(show 175 + 3 * k + 1 + 0 + 0 ≤ 603072 by omega), (show 3554 + 18 * k + 6 + 0 + 0 ≤ 7219306 by omega)⟩) ?_
  refine lv_iload hx hb dL_law_1992 (lv_at hl 1 rfl) ?_
  refine lv_icmp_eq (tgt := 1999) hx hb dL_law_1994 (by decide) (fun _ => ?_) (fun h9 => absurd rfl h9)
  refine lv_iload hx hb dL_law_1999 (lv_at hl 1 rfl) ?_
  refine lv_if_ne (tgt := 2016) hx hb dL_law_2001 (by decide) (fun _ => lv_goto (tgt := 2679) hx hb dL_law_2016 (by decide) (W.widen (k := 175 + 3 * (k + 1)) (n := 3554 + 18 * (k + 1)) (by omega) (by omega) (K _ _ _ ⟨_, _, _, _, _, _, _, _, _, _, _, _, _, _, _, _, _, _, hP7, hcW, hF9, hO.imp (fun _ _ => trivial), hOB.imp (fun _ _ => trivial)⟩ hS (lv_sub hl [2, 3, 4, 5, 6, 7] rfl)))) (fun h0 => ?_)
  have ht0 := nv_n0 (t := (if iR (xs (6 * k + 1)) (G 0) then 0 else 1)) (by (repeat' split) <;> decide) h0
  refine lv_aload_n hx hb dL_law_2004 rfl (lv_at hl 5 rfl) ?_
  refine lv_iconst (v := nI 0) hx hb dL_law_2005 (by decide) ?_
  refine nv_laldO hx hb hX.1 0 rfl (hO.imp (fun _ z => z ht0)) dL_law_2006 ?_
  refine lv_iload hx hb dL_law_2007 (lv_at hl 0 rfl) ?_
  refine lv_i2l hx hb dL_law_2009 rfl ?_
  refine W.lcmp hx hb dL_law_2010 ?_
  exact lv_if_eq (tgt := 2016) hx hb dL_law_2011 (by decide) (fun _ => lv_goto (tgt := 2679) hx hb dL_law_2016 (by decide) (W.widen (k := 175 + 3 * (k + 1)) (n := 3554 + 18 * (k + 1)) (by omega) (by omega) (K _ _ _ ⟨_, _, _, _, _, _, _, _, _, _, _, _, _, _, _, _, _, _, hP7, hcW, hF9, hO.imp (fun _ _ => trivial), hOB.imp (fun _ _ => trivial)⟩ hS (lv_sub hl [2, 3, 4, 5, 6, 7] rfl)))) (fun h9 => absurd (lg_same _) h9)

set_option maxHeartbeats 1000000 in
set_option maxRecDepth 100000 in
theorem lc_endings {p : Program} {l : Launch} {e : Env} {s : State} {m : MethodId} {args : Array Value} {below : List Frame} {meth : Method} {c : Code} {H : Heap} {locs : List Loc} {Q : State → Prop} {ls : Array Slot} {D : va_G} {cI cC cD cR cL cB : ClassId} {sa : sA} {AD : Nat → Nat} {h aG aB aH aS aI aL aT o oD b9 L : Nat} {xs : Nat → Int32} {k : Nat} (hC : lC p l s m args c D cI cC cD cR cL cB sa AD h aG aB aH aS aI aL aT o oD b9 L xs) (hk : 6 * k + 6 ≤ L) (hLI : lI D cI cC cD cR cL cB AD h aG aB aH aS aI aL aT o oD k H) (hS : va_S (lAN s) s.heap H locs) (hl : lv_has ls 9 [(0, .ref b9), (1, .ref (AD 0)), (2, .ref h), (3, .ref o), (4, .ref oD), (5, .int (nI (6 * k)))])
    (K : ∀ (H1 : Heap) (locs1 : List Loc) (ls1 : Array Slot), lI D cI cC cD cR cL cB AD h aG aB aH aS aI aL aT o oD (k + 1) H1 → va_S (lAN s) s.heap H1 locs1 → lv_has ls1 9 [(0, .ref b9), (1, .ref (AD 0)), (2, .ref h), (3, .ref o), (4, .ref oD), (5, .int (nI (6 * k)))] → W p l e room_1 s m args below meth c H1 locs1 (175 + 3 * (k + 1)) (3554 + 18 * (k + 1)) Q (F0 m 2679 ls1 [])) : W p l e room_1 s m args below meth c H locs (175 + 3 * k) (3554 + 18 * k) Q (F0 m 2019 ls []) := by
  obtain ⟨hx, hb, hml, hown, hts, hl9, hXs, hbl, hL, hT, hX, hI, hAD, ho9, hoD9, hne, hD7⟩ := hC
  obtain ⟨G, B, Hi, Sv, In, Le, To, ch, hs, ty, wy, ln, th, sp, iw, ea, ra, wd, hP7, hcW, hF, hO, hOB⟩ := hLI
  obtain ⟨b, hG, h25, hbt, -, hch, hHg, hhs, hSg, hty, hS7, hln, hLe, hwy⟩ := id hF
  have hk512 : k < 512 := by omega
  have hbb : b + 1 < 2 ^ 20 := by omega
  have hb32 : b + 32 < 2 ^ 20 := by omega
  have h13 : b < 8192 := by omega
  have hHw : ∀ j, j < ch → hAt Hi j 0 ≤ 8 ∧ hAt Hi j 1 ≤ 6 ∧ hAt Hi j 2 ≤ 5 := fun j hj => ⟨(hHg j hj).2.2.1, (hHg j hj).2.2.2.1, (hHg j hj).2.2.2.2.1⟩
  have hSw : hs = 1 → Sv 0 ≤ 8 ∧ Sv 1 ≤ 6 ∧ Sv 2 ≤ 5 := fun q => ⟨(hSg q).2.2.1, (hSg q).2.2.2.1, (hSg q).2.2.2.2.1⟩
  have ho := ho9.2
  have hoD := hoD9.2
  have hK7 : kS D [(cI, .int), (cC, .char)] [] s := ⟨hT.1.1.sub [0, 1] rfl, fun _ h9 => nomatch h9⟩
  have hA7 : ∀ q, l7 s AD o oD q → lAN s q := fun _ h9 => h9.1
  refine lv_aload_n hx hb dL_law_2019 rfl (lv_at hl 1 rfl) ?_
  refine lv_aload_n hx hb dL_law_2020 rfl (lv_at hl 0 rfl) ?_
  refine lv_iload hx hb dL_law_2021 (lv_at hl 5 rfl) ?_
  refine lv_iconst (v := nI 1) hx hb dL_law_2023 (by decide) ?_
  refine nv_iadd hx hb dL_law_2024 ?_
  refine nv_sld hx hb hXs hbl hS (by omega) hL dL_law_2025 ?_
  refine lv_aload_n hx hb dL_law_2026 rfl (lv_at hl 3 rfl) ?_
  refine nv_kN (vx_runSX (hh := [(0, 9, 12, 13)]) (As := [.ref (AD 0), .int (xs (6 * k + 1)), .ref o]) (rest := []) ⟨hx, hb, hml, hown, hts⟩ (c_L_endings l hl9 ho hG hI (xs (6 * k + 1))) (vx_cwSW 3 hts gL_law_L_endings rfl rfl rfl (by decide +kernel) ⟨Nat.le_of_ble_eq_true rfl, Nat.le_of_ble_eq_true rfl⟩) (nl_pS hT hX hS (fun q h9 => h9.elim (fun ⟨i, _, hi, e9⟩ => by rw [e9]; exact hAD i hi) (fun e9 => by rw [e9]; exact ho9.1)) ⟨hcW, hO⟩) rfl rfl hl.1 rfl (lv_room (Nat.le_of_ble_eq_true rfl)) dL_law_2027 ⟨(show 175 + 3 * k + 1 ≤ 603072 by omega), (show 3554 + 18 * k + 6 ≤ 7219306 by omega)⟩) hS (fun q h9 => h9.elim (fun ⟨i, _, hi, e9⟩ => by rw [e9]; exact hAD i hi) (fun e9 => by rw [e9]; exact ho9.1)) (fun H1 locs1 hP1 hK1 hS1 => ?_)
  obtain ⟨hcW, hO9⟩ := hP1
  have hP7 := nv_keep7 (hD7 G B Hi Sv In Le To _) hP7 hK1 (fun q h9 h8 => h8.elim h9.2.1 (fun e9 => h9.2.2.1 e9))
  have hOB := hOB.kept hK1 (fun h8 => h8.elim hoD (fun e9 => hne e9.symm))
  have hO := hO9
  have hS := hS1
  refine lv_istore (lv' := [(6, .int (nI ((if iR (xs (6 * k + 1)) 3 then 0 else 1)))), (0, .ref b9), (1, .ref (AD 0)), (2, .ref h), (3, .ref o), (4, .ref oD), (5, .int (nI (6 * k)))]) hx hb dL_law_2030 hl (by decide) rfl (fun ls hl => ?_)
  refine lv_aload_n hx hb dL_law_2032 rfl (lv_at hl 3 rfl) ?_
  refine lv_aload_n hx hb dL_law_2033 rfl (lv_at hl 1 rfl) ?_
  refine lv_iload hx hb dL_law_2034 (lv_at hl 6 rfl) ?_
  refine lv_iconst (v := nI 1) hx hb dL_law_2036 (by decide) ?_
  refine nv_iadd hx hb dL_law_2037 ?_
  refine nv_sld hx hb hXs hbl hS (by omega) hL dL_law_2038 ?_
  refine nv_kM2 (va_runV (As := [.int (xs (6 * k + 1))]) (rest := []) ⟨hx, hb, hml, hown, hts⟩ (c_X7_endings l hD7 hG (xs (6 * k + 1))) (cwV 1 hts gL_law_X7_endings rfl rfl rfl (by decide +kernel) ⟨Nat.le_of_ble_eq_true rfl, Nat.le_of_ble_eq_true rfl⟩) (nv_pV hK7 hP7 (va_recv hT.1.1 hP7 (ci := 9) (q0 := 0) rfl rfl)) rfl rfl hl.1 rfl (lv_room (Nat.le_of_ble_eq_true rfl)) dL_law_2039 ⟨(show 175 + 3 * k + 1 + 0 ≤ 603072 by omega), (show 3554 + 18 * k + 6 + 0 ≤ 7219306 by omega)⟩) hS hA7 (fun H2 locs2 hP2 hK2 hS2 => ?_)
  have hP7 := hP2
  have hcW := cOn_W (l7 s AD o oD) _ _ (fun i _ hi h9 => h9.2.1 ⟨i, Nat.zero_le _, hi, rfl⟩) hK2 hcW
  have hO := hO.kept hK2 (fun h9 => h9.2.2.1 rfl)
  have hOB := hOB.kept hK2 (fun h9 => h9.2.2.2 rfl)
  have hS := hS2
  have hF9 : lF (k + 1) G Sv Hi In (if iR (xs (6 * k + 1)) 3 then wrL (enD G (tN (xs (6 * k + 1)))) Le 0 else Le) hs ch ty wy (if iR (xs (6 * k + 1)) 3 then 9 else ln) := by
    split
    · exact hF.text hk512 (l := enD G _) (Nat.le_of_ble_eq_true rfl) (enD_lt hG (iR_lt ‹_› (by decide)))
    · exact hF.next hk512
  refine lv_istore (lv' := [(7, .int (((if iR (xs (6 * k + 1)) 3 then nI 9 else 0)))), (6, .int (nI ((if iR (xs (6 * k + 1)) 3 then 0 else 1)))), (0, .ref b9), (1, .ref (AD 0)), (2, .ref h), (3, .ref o), (4, .ref oD), (5, .int (nI (6 * k)))]) hx hb dL_law_2042 hl (by decide) rfl (fun ls hl => ?_)
  refine lv_aload_n hx hb dL_law_2044 rfl (lv_at hl 4 rfl) ?_
  refine nv_kS (va_runV (As := []) (rest := []) ⟨hx, hb, hml, hown, hts⟩ (c_X7_thrown l) (cwV 0 hts gL_law_X7_thrown rfl rfl rfl (by decide +kernel) ⟨Nat.le_of_ble_eq_true rfl, Nat.le_of_ble_eq_true rfl⟩) (nv_pV hK7 hP7 (va_recv hT.1.1 hP7 (ci := 9) (q0 := 0) rfl rfl)) rfl rfl hl.1 rfl (lv_room (Nat.le_of_ble_eq_true rfl)) dL_law_2045 ⟨(show 175 + 3 * k + 1 + 0 + 0 ≤ 603072 by omega), (show 3554 + 18 * k + 6 + 0 + 0 ≤ 7219306 by omega)⟩) ?_
  refine lv_iload hx hb dL_law_2048 (lv_at hl 1 rfl) ?_
  refine lv_icmp_eq (tgt := 2055) hx hb dL_law_2050 (by decide) (fun _ => ?_) (fun h9 => absurd rfl h9)
  refine lv_iload hx hb dL_law_2055 (lv_at hl 1 rfl) ?_
  refine lv_if_ne (tgt := 2072) hx hb dL_law_2057 (by decide) (fun _ => lv_goto (tgt := 2679) hx hb dL_law_2072 (by decide) (W.widen (k := 175 + 3 * (k + 1)) (n := 3554 + 18 * (k + 1)) (by omega) (by omega) (K _ _ _ ⟨_, _, _, _, _, _, _, _, _, _, _, _, _, _, _, _, _, _, hP7, hcW, hF9, hO.imp (fun _ _ => trivial), hOB.imp (fun _ _ => trivial)⟩ hS (lv_sub hl [2, 3, 4, 5, 6, 7] rfl)))) (fun h0 => ?_)
  have ht0 := nv_n0 (t := (if iR (xs (6 * k + 1)) 3 then 0 else 1)) (by (repeat' split) <;> decide) h0
  refine lv_aload_n hx hb dL_law_2060 rfl (lv_at hl 5 rfl) ?_
  refine lv_iconst (v := nI 0) hx hb dL_law_2061 (by decide) ?_
  refine nv_laldO hx hb hX.1 0 rfl (hO.imp (fun _ z => z ht0)) dL_law_2062 ?_
  refine lv_iload hx hb dL_law_2063 (lv_at hl 0 rfl) ?_
  refine lv_i2l hx hb dL_law_2065 rfl ?_
  refine W.lcmp hx hb dL_law_2066 ?_
  exact lv_if_eq (tgt := 2072) hx hb dL_law_2067 (by decide) (fun _ => lv_goto (tgt := 2679) hx hb dL_law_2072 (by decide) (W.widen (k := 175 + 3 * (k + 1)) (n := 3554 + 18 * (k + 1)) (by omega) (by omega) (K _ _ _ ⟨_, _, _, _, _, _, _, _, _, _, _, _, _, _, _, _, _, _, hP7, hcW, hF9, hO.imp (fun _ _ => trivial), hOB.imp (fun _ _ => trivial)⟩ hS (lv_sub hl [2, 3, 4, 5, 6, 7] rfl)))) (fun h9 => absurd (lg_same _) h9)

set_option maxHeartbeats 1000000 in
set_option maxRecDepth 100000 in
theorem lc_character {p : Program} {l : Launch} {e : Env} {s : State} {m : MethodId} {args : Array Value} {below : List Frame} {meth : Method} {c : Code} {H : Heap} {locs : List Loc} {Q : State → Prop} {ls : Array Slot} {D : va_G} {cI cC cD cR cL cB : ClassId} {sa : sA} {AD : Nat → Nat} {h aG aB aH aS aI aL aT o oD b9 L : Nat} {xs : Nat → Int32} {k : Nat} (hC : lC p l s m args c D cI cC cD cR cL cB sa AD h aG aB aH aS aI aL aT o oD b9 L xs) (hk : 6 * k + 6 ≤ L) (hLI : lI D cI cC cD cR cL cB AD h aG aB aH aS aI aL aT o oD k H) (hS : va_S (lAN s) s.heap H locs) (hl : lv_has ls 9 [(0, .ref b9), (1, .ref (AD 0)), (2, .ref h), (3, .ref o), (4, .ref oD), (5, .int (nI (6 * k)))])
    (K : ∀ (H1 : Heap) (locs1 : List Loc) (ls1 : Array Slot), lI D cI cC cD cR cL cB AD h aG aB aH aS aI aL aT o oD (k + 1) H1 → va_S (lAN s) s.heap H1 locs1 → lv_has ls1 9 [(0, .ref b9), (1, .ref (AD 0)), (2, .ref h), (3, .ref o), (4, .ref oD), (5, .int (nI (6 * k)))] → W p l e room_1 s m args below meth c H1 locs1 (175 + 3 * (k + 1)) (3554 + 18 * (k + 1)) Q (F0 m 2679 ls1 [])) : W p l e room_1 s m args below meth c H locs (175 + 3 * k) (3554 + 18 * k) Q (F0 m 2075 ls []) := by
  obtain ⟨hx, hb, hml, hown, hts, hl9, hXs, hbl, hL, hT, hX, hI, hAD, ho9, hoD9, hne, hD7⟩ := hC
  obtain ⟨G, B, Hi, Sv, In, Le, To, ch, hs, ty, wy, ln, th, sp, iw, ea, ra, wd, hP7, hcW, hF, hO, hOB⟩ := hLI
  obtain ⟨b, hG, h25, hbt, -, hch, hHg, hhs, hSg, hty, hS7, hln, hLe, hwy⟩ := id hF
  have hk512 : k < 512 := by omega
  have hbb : b + 1 < 2 ^ 20 := by omega
  have hb32 : b + 32 < 2 ^ 20 := by omega
  have h13 : b < 8192 := by omega
  have hHw : ∀ j, j < ch → hAt Hi j 0 ≤ 8 ∧ hAt Hi j 1 ≤ 6 ∧ hAt Hi j 2 ≤ 5 := fun j hj => ⟨(hHg j hj).2.2.1, (hHg j hj).2.2.2.1, (hHg j hj).2.2.2.2.1⟩
  have hSw : hs = 1 → Sv 0 ≤ 8 ∧ Sv 1 ≤ 6 ∧ Sv 2 ≤ 5 := fun q => ⟨(hSg q).2.2.1, (hSg q).2.2.2.1, (hSg q).2.2.2.2.1⟩
  have ho := ho9.2
  have hoD := hoD9.2
  have hK7 : kS D [(cI, .int), (cC, .char)] [] s := ⟨hT.1.1.sub [0, 1] rfl, fun _ h9 => nomatch h9⟩
  have hA7 : ∀ q, l7 s AD o oD q → lAN s q := fun _ h9 => h9.1
  refine lv_aload_n hx hb dL_law_2075 rfl (lv_at hl 1 rfl) ?_
  refine lv_aload_n hx hb dL_law_2076 rfl (lv_at hl 0 rfl) ?_
  refine lv_iload hx hb dL_law_2077 (lv_at hl 5 rfl) ?_
  refine lv_iconst (v := nI 1) hx hb dL_law_2079 (by decide) ?_
  refine nv_iadd hx hb dL_law_2080 ?_
  refine nv_sld hx hb hXs hbl hS (by omega) hL dL_law_2081 ?_
  refine lv_aload_n hx hb dL_law_2082 rfl (lv_at hl 3 rfl) ?_
  refine nv_kN (vx_runSX (hh := [(0, 9, 12, 15)]) (As := [.ref (AD 0), .int (xs (6 * k + 1)), .ref o]) (rest := []) ⟨hx, hb, hml, hown, hts⟩ (c_L_character l hl9 ho hG hI (xs (6 * k + 1)) hln hLe) (vx_cwSW 3 hts gL_law_L_character rfl rfl rfl (by decide +kernel) ⟨Nat.le_of_ble_eq_true rfl, Nat.le_of_ble_eq_true rfl⟩) (nl_pS hT hX hS (fun q h9 => h9.elim (fun ⟨i, _, hi, e9⟩ => by rw [e9]; exact hAD i hi) (fun e9 => by rw [e9]; exact ho9.1)) ⟨hcW, hO⟩) rfl rfl hl.1 rfl (lv_room (Nat.le_of_ble_eq_true rfl)) dL_law_2083 ⟨(show 175 + 3 * k + 1 ≤ 603072 by omega), (show 3554 + 18 * k + 6 ≤ 7219306 by omega)⟩) hS (fun q h9 => h9.elim (fun ⟨i, _, hi, e9⟩ => by rw [e9]; exact hAD i hi) (fun e9 => by rw [e9]; exact ho9.1)) (fun H1 locs1 hP1 hK1 hS1 => ?_)
  obtain ⟨hcW, hO9⟩ := hP1
  have hP7 := nv_keep7 (hD7 G B Hi Sv In Le To _) hP7 hK1 (fun q h9 h8 => h8.elim h9.2.1 (fun e9 => h9.2.2.1 e9))
  have hOB := hOB.kept hK1 (fun h8 => h8.elim hoD (fun e9 => hne e9.symm))
  have hO := hO9
  have hS := hS1
  refine lv_istore (lv' := [(6, .int (nI ((if iR (xs (6 * k + 1)) ln then 0 else 1)))), (0, .ref b9), (1, .ref (AD 0)), (2, .ref h), (3, .ref o), (4, .ref oD), (5, .int (nI (6 * k)))]) hx hb dL_law_2086 hl (by decide) rfl (fun ls hl => ?_)
  refine lv_aload_n hx hb dL_law_2088 rfl (lv_at hl 3 rfl) ?_
  refine lv_aload_n hx hb dL_law_2089 rfl (lv_at hl 1 rfl) ?_
  refine lv_iload hx hb dL_law_2090 (lv_at hl 6 rfl) ?_
  refine lv_iconst (v := nI 1) hx hb dL_law_2092 (by decide) ?_
  refine nv_iadd hx hb dL_law_2093 ?_
  refine nv_sld hx hb hXs hbl hS (by omega) hL dL_law_2094 ?_
  refine nv_kM2 (va_runV (As := [.int (xs (6 * k + 1))]) (rest := []) ⟨hx, hb, hml, hown, hts⟩ (c_X7_character l hD7 (xs (6 * k + 1)) (by omega) (by omega) hLe) (cwV 1 hts gL_law_X7_character rfl rfl rfl (by decide +kernel) ⟨Nat.le_of_ble_eq_true rfl, Nat.le_of_ble_eq_true rfl⟩) (nv_pV hK7 hP7 (va_recv hT.1.1 hP7 (ci := 9) (q0 := 0) rfl rfl)) rfl rfl hl.1 rfl (lv_room (Nat.le_of_ble_eq_true rfl)) dL_law_2095 ⟨(show 175 + 3 * k + 1 + 0 ≤ 603072 by omega), (show 3554 + 18 * k + 6 + 0 ≤ 7219306 by omega)⟩) hS hA7 (fun H2 locs2 hP2 hK2 hS2 => ?_)
  have hP7 := hP2
  have hcW := cOn_W (l7 s AD o oD) _ _ (fun i _ hi h9 => h9.2.1 ⟨i, Nat.zero_le _, hi, rfl⟩) hK2 hcW
  have hO := hO.kept hK2 (fun h9 => h9.2.2.1 rfl)
  have hOB := hOB.kept hK2 (fun h9 => h9.2.2.2 rfl)
  have hS := hS2
  have hF9 := hF.next hk512
  refine lv_istore (lv' := [(7, .int (((if iR (xs (6 * k + 1)) ln then nI (Le (tN (xs (6 * k + 1)))) else 0)))), (6, .int (nI ((if iR (xs (6 * k + 1)) ln then 0 else 1)))), (0, .ref b9), (1, .ref (AD 0)), (2, .ref h), (3, .ref o), (4, .ref oD), (5, .int (nI (6 * k)))]) hx hb dL_law_2098 hl (by decide) rfl (fun ls hl => ?_)
  refine lv_aload_n hx hb dL_law_2100 rfl (lv_at hl 4 rfl) ?_
  refine nv_kS (va_runV (As := []) (rest := []) ⟨hx, hb, hml, hown, hts⟩ (c_X7_thrown l) (cwV 0 hts gL_law_X7_thrown rfl rfl rfl (by decide +kernel) ⟨Nat.le_of_ble_eq_true rfl, Nat.le_of_ble_eq_true rfl⟩) (nv_pV hK7 hP7 (va_recv hT.1.1 hP7 (ci := 9) (q0 := 0) rfl rfl)) rfl rfl hl.1 rfl (lv_room (Nat.le_of_ble_eq_true rfl)) dL_law_2101 ⟨(show 175 + 3 * k + 1 + 0 + 0 ≤ 603072 by omega), (show 3554 + 18 * k + 6 + 0 + 0 ≤ 7219306 by omega)⟩) ?_
  refine lv_iload hx hb dL_law_2104 (lv_at hl 1 rfl) ?_
  refine lv_icmp_eq (tgt := 2111) hx hb dL_law_2106 (by decide) (fun _ => ?_) (fun h9 => absurd rfl h9)
  refine lv_iload hx hb dL_law_2111 (lv_at hl 1 rfl) ?_
  refine lv_if_ne (tgt := 2128) hx hb dL_law_2113 (by decide) (fun _ => lv_goto (tgt := 2679) hx hb dL_law_2128 (by decide) (W.widen (k := 175 + 3 * (k + 1)) (n := 3554 + 18 * (k + 1)) (by omega) (by omega) (K _ _ _ ⟨_, _, _, _, _, _, _, _, _, _, _, _, _, _, _, _, _, _, hP7, hcW, hF9, hO.imp (fun _ _ => trivial), hOB.imp (fun _ _ => trivial)⟩ hS (lv_sub hl [2, 3, 4, 5, 6, 7] rfl)))) (fun h0 => ?_)
  have ht0 := nv_n0 (t := (if iR (xs (6 * k + 1)) ln then 0 else 1)) (by (repeat' split) <;> decide) h0
  refine lv_aload_n hx hb dL_law_2116 rfl (lv_at hl 5 rfl) ?_
  refine lv_iconst (v := nI 0) hx hb dL_law_2117 (by decide) ?_
  refine nv_laldO hx hb hX.1 0 rfl (hO.imp (fun _ z => z ht0)) dL_law_2118 ?_
  refine lv_iload hx hb dL_law_2119 (lv_at hl 0 rfl) ?_
  refine lv_i2l hx hb dL_law_2121 rfl ?_
  refine W.lcmp hx hb dL_law_2122 ?_
  exact lv_if_eq (tgt := 2128) hx hb dL_law_2123 (by decide) (fun _ => lv_goto (tgt := 2679) hx hb dL_law_2128 (by decide) (W.widen (k := 175 + 3 * (k + 1)) (n := 3554 + 18 * (k + 1)) (by omega) (by omega) (K _ _ _ ⟨_, _, _, _, _, _, _, _, _, _, _, _, _, _, _, _, _, _, hP7, hcW, hF9, hO.imp (fun _ _ => trivial), hOB.imp (fun _ _ => trivial)⟩ hS (lv_sub hl [2, 3, 4, 5, 6, 7] rfl)))) (fun h9 => absurd (lg_same _) h9)

set_option maxHeartbeats 1000000 in
set_option maxRecDepth 100000 in
theorem lc_refusal {p : Program} {l : Launch} {e : Env} {s : State} {m : MethodId} {args : Array Value} {below : List Frame} {meth : Method} {c : Code} {H : Heap} {locs : List Loc} {Q : State → Prop} {ls : Array Slot} {D : va_G} {cI cC cD cR cL cB : ClassId} {sa : sA} {AD : Nat → Nat} {h aG aB aH aS aI aL aT o oD b9 L : Nat} {xs : Nat → Int32} {k : Nat} (hC : lC p l s m args c D cI cC cD cR cL cB sa AD h aG aB aH aS aI aL aT o oD b9 L xs) (hk : 6 * k + 6 ≤ L) (hLI : lI D cI cC cD cR cL cB AD h aG aB aH aS aI aL aT o oD k H) (hS : va_S (lAN s) s.heap H locs) (hl : lv_has ls 9 [(0, .ref b9), (1, .ref (AD 0)), (2, .ref h), (3, .ref o), (4, .ref oD), (5, .int (nI (6 * k)))])
    (K : ∀ (H1 : Heap) (locs1 : List Loc) (ls1 : Array Slot), lI D cI cC cD cR cL cB AD h aG aB aH aS aI aL aT o oD (k + 1) H1 → va_S (lAN s) s.heap H1 locs1 → lv_has ls1 9 [(0, .ref b9), (1, .ref (AD 0)), (2, .ref h), (3, .ref o), (4, .ref oD), (5, .int (nI (6 * k)))] → W p l e room_1 s m args below meth c H1 locs1 (175 + 3 * (k + 1)) (3554 + 18 * (k + 1)) Q (F0 m 2679 ls1 [])) : W p l e room_1 s m args below meth c H locs (175 + 3 * k) (3554 + 18 * k) Q (F0 m 2131 ls []) := by
  obtain ⟨hx, hb, hml, hown, hts, hl9, hXs, hbl, hL, hT, hX, hI, hAD, ho9, hoD9, hne, hD7⟩ := hC
  obtain ⟨G, B, Hi, Sv, In, Le, To, ch, hs, ty, wy, ln, th, sp, iw, ea, ra, wd, hP7, hcW, hF, hO, hOB⟩ := hLI
  obtain ⟨b, hG, h25, hbt, -, hch, hHg, hhs, hSg, hty, hS7, hln, hLe, hwy⟩ := id hF
  have hk512 : k < 512 := by omega
  have hbb : b + 1 < 2 ^ 20 := by omega
  have hb32 : b + 32 < 2 ^ 20 := by omega
  have h13 : b < 8192 := by omega
  have hHw : ∀ j, j < ch → hAt Hi j 0 ≤ 8 ∧ hAt Hi j 1 ≤ 6 ∧ hAt Hi j 2 ≤ 5 := fun j hj => ⟨(hHg j hj).2.2.1, (hHg j hj).2.2.2.1, (hHg j hj).2.2.2.2.1⟩
  have hSw : hs = 1 → Sv 0 ≤ 8 ∧ Sv 1 ≤ 6 ∧ Sv 2 ≤ 5 := fun q => ⟨(hSg q).2.2.1, (hSg q).2.2.2.1, (hSg q).2.2.2.2.1⟩
  have ho := ho9.2
  have hoD := hoD9.2
  have hK7 : kS D [(cI, .int), (cC, .char)] [] s := ⟨hT.1.1.sub [0, 1] rfl, fun _ h9 => nomatch h9⟩
  have hA7 : ∀ q, l7 s AD o oD q → lAN s q := fun _ h9 => h9.1
  refine lv_aload_n hx hb dL_law_2131 rfl (lv_at hl 1 rfl) ?_
  refine lv_aload_n hx hb dL_law_2132 rfl (lv_at hl 0 rfl) ?_
  refine lv_iload hx hb dL_law_2133 (lv_at hl 5 rfl) ?_
  refine lv_iconst (v := nI 1) hx hb dL_law_2135 (by decide) ?_
  refine nv_iadd hx hb dL_law_2136 ?_
  refine nv_sld hx hb hXs hbl hS (by omega) hL dL_law_2137 ?_
  refine nv_bool hx hb dL_law_2138 dL_law_2141 dL_law_2142 dL_law_2145 ?_
  refine lv_aload_n hx hb dL_law_2146 rfl (lv_at hl 3 rfl) ?_
  refine nv_kN (vx_runSX (hh := [(0, 9, 12, 108)]) (As := [.ref (AD 0), .int (nI (if xs (6 * k + 1) = 0 then 0 else 1)), .ref o]) (rest := []) ⟨hx, hb, hml, hown, hts⟩ (c_L_refusal l hl9 ho (if xs (6 * k + 1) = 0 then 0 else 1) (nv_b01 _) hwy) (vx_cwSW 3 hts gL_law_L_refusal rfl rfl rfl (by decide +kernel) ⟨Nat.le_of_ble_eq_true rfl, Nat.le_of_ble_eq_true rfl⟩) (nl_pS hT hX hS (fun q h9 => h9.elim (fun ⟨i, _, hi, e9⟩ => by rw [e9]; exact hAD i hi) (fun e9 => by rw [e9]; exact ho9.1)) ⟨hcW, hO⟩) rfl rfl hl.1 rfl (lv_room (Nat.le_of_ble_eq_true rfl)) dL_law_2147 ⟨(show 175 + 3 * k + 1 ≤ 603072 by omega), (show 3554 + 18 * k + 6 ≤ 7219306 by omega)⟩) hS (fun q h9 => h9.elim (fun ⟨i, _, hi, e9⟩ => by rw [e9]; exact hAD i hi) (fun e9 => by rw [e9]; exact ho9.1)) (fun H1 locs1 hP1 hK1 hS1 => ?_)
  obtain ⟨hcW, hO9⟩ := hP1
  have hP7 := nv_keep7 (hD7 G B Hi Sv In Le To _) hP7 hK1 (fun q h9 h8 => h8.elim h9.2.1 (fun e9 => h9.2.2.1 e9))
  have hOB := hOB.kept hK1 (fun h8 => h8.elim hoD (fun e9 => hne e9.symm))
  have hO := hO9
  have hS := hS1
  refine lv_istore (lv' := [(6, .int (nI ((if wy = 0 then 1 else 0)))), (0, .ref b9), (1, .ref (AD 0)), (2, .ref h), (3, .ref o), (4, .ref oD), (5, .int (nI (6 * k)))]) hx hb dL_law_2150 hl (by decide) rfl (fun ls hl => ?_)
  refine lv_aload_n hx hb dL_law_2152 rfl (lv_at hl 3 rfl) ?_
  refine lv_aload_n hx hb dL_law_2153 rfl (lv_at hl 1 rfl) ?_
  refine lv_iload hx hb dL_law_2154 (lv_at hl 6 rfl) ?_
  refine lv_iconst (v := nI 1) hx hb dL_law_2156 (by decide) ?_
  refine nv_iadd hx hb dL_law_2157 ?_
  refine nv_sld hx hb hXs hbl hS (by omega) hL dL_law_2158 ?_
  refine nv_bool hx hb dL_law_2159 dL_law_2162 dL_law_2163 dL_law_2166 ?_
  refine nv_kM2 (va_runV (As := [.int (nI (if xs (6 * k + 1) = 0 then 0 else 1))]) (rest := []) ⟨hx, hb, hml, hown, hts⟩ (c_X7_refusal l hD7 (if xs (6 * k + 1) = 0 then 0 else 1) (nv_b01 _) hwy) (cwV 1 hts gL_law_X7_refusal rfl rfl rfl (by decide +kernel) ⟨Nat.le_of_ble_eq_true rfl, Nat.le_of_ble_eq_true rfl⟩) (nv_pV hK7 hP7 (va_recv hT.1.1 hP7 (ci := 9) (q0 := 0) rfl rfl)) rfl rfl hl.1 rfl (lv_room (Nat.le_of_ble_eq_true rfl)) dL_law_2167 ⟨(show 175 + 3 * k + 1 + 0 ≤ 603072 by omega), (show 3554 + 18 * k + 6 + 0 ≤ 7219306 by omega)⟩) hS hA7 (fun H2 locs2 hP2 hK2 hS2 => ?_)
  have hP7 := hP2
  have hcW := cOn_W (l7 s AD o oD) _ _ (fun i _ hi h9 => h9.2.1 ⟨i, Nat.zero_le _, hi, rfl⟩) hK2 hcW
  have hO := hO.kept hK2 (fun h9 => h9.2.2.1 rfl)
  have hOB := hOB.kept hK2 (fun h9 => h9.2.2.2 rfl)
  have hS := hS2
  have hF9 := hF.next hk512
  refine lv_istore (lv' := [(7, .int (((if wy = 0 then 0 else (if (if xs (6 * k + 1) = 0 then 0 else 1) = 0 then nI wy else wd))))), (6, .int (nI ((if wy = 0 then 1 else 0)))), (0, .ref b9), (1, .ref (AD 0)), (2, .ref h), (3, .ref o), (4, .ref oD), (5, .int (nI (6 * k)))]) hx hb dL_law_2170 hl (by decide) rfl (fun ls hl => ?_)
  refine lv_aload_n hx hb dL_law_2172 rfl (lv_at hl 4 rfl) ?_
  refine nv_kS (va_runV (As := []) (rest := []) ⟨hx, hb, hml, hown, hts⟩ (c_X7_thrown l) (cwV 0 hts gL_law_X7_thrown rfl rfl rfl (by decide +kernel) ⟨Nat.le_of_ble_eq_true rfl, Nat.le_of_ble_eq_true rfl⟩) (nv_pV hK7 hP7 (va_recv hT.1.1 hP7 (ci := 9) (q0 := 0) rfl rfl)) rfl rfl hl.1 rfl (lv_room (Nat.le_of_ble_eq_true rfl)) dL_law_2173 ⟨(show 175 + 3 * k + 1 + 0 + 0 ≤ 603072 by omega), (show 3554 + 18 * k + 6 + 0 + 0 ≤ 7219306 by omega)⟩) ?_
  refine lv_iload hx hb dL_law_2176 (lv_at hl 1 rfl) ?_
  refine lv_icmp_eq (tgt := 2183) hx hb dL_law_2178 (by decide) (fun _ => ?_) (fun h9 => absurd rfl h9)
  refine lv_iload hx hb dL_law_2183 (lv_at hl 1 rfl) ?_
  refine lv_if_ne (tgt := 2200) hx hb dL_law_2185 (by decide) (fun _ => lv_goto (tgt := 2679) hx hb dL_law_2200 (by decide) (W.widen (k := 175 + 3 * (k + 1)) (n := 3554 + 18 * (k + 1)) (by omega) (by omega) (K _ _ _ ⟨_, _, _, _, _, _, _, _, _, _, _, _, _, _, _, _, _, _, hP7, hcW, hF9, hO.imp (fun _ _ => trivial), hOB.imp (fun _ _ => trivial)⟩ hS (lv_sub hl [2, 3, 4, 5, 6, 7] rfl)))) (fun h0 => ?_)
  have ht0 := nv_n0 (t := (if wy = 0 then 1 else 0)) (by (repeat' split) <;> decide) h0
  refine lv_aload_n hx hb dL_law_2188 rfl (lv_at hl 5 rfl) ?_
  refine lv_iconst (v := nI 0) hx hb dL_law_2189 (by decide) ?_
  refine nv_laldO hx hb hX.1 0 rfl (hO.imp (fun _ z => z ht0)) dL_law_2190 ?_
  refine lv_iload hx hb dL_law_2191 (lv_at hl 0 rfl) ?_
  refine lv_i2l hx hb dL_law_2193 rfl ?_
  refine W.lcmp hx hb dL_law_2194 ?_
  exact lv_if_eq (tgt := 2200) hx hb dL_law_2195 (by decide) (fun _ => lv_goto (tgt := 2679) hx hb dL_law_2200 (by decide) (W.widen (k := 175 + 3 * (k + 1)) (n := 3554 + 18 * (k + 1)) (by omega) (by omega) (K _ _ _ ⟨_, _, _, _, _, _, _, _, _, _, _, _, _, _, _, _, _, _, hP7, hcW, hF9, hO.imp (fun _ _ => trivial), hOB.imp (fun _ _ => trivial)⟩ hS (lv_sub hl [2, 3, 4, 5, 6, 7] rfl)))) (fun h9 => absurd (lg_same _) h9)

set_option maxHeartbeats 1000000 in
set_option maxRecDepth 100000 in
theorem lc_account {p : Program} {l : Launch} {e : Env} {s : State} {m : MethodId} {args : Array Value} {below : List Frame} {meth : Method} {c : Code} {H : Heap} {locs : List Loc} {Q : State → Prop} {ls : Array Slot} {D : va_G} {cI cC cD cR cL cB : ClassId} {sa : sA} {AD : Nat → Nat} {h aG aB aH aS aI aL aT o oD b9 L : Nat} {xs : Nat → Int32} {k : Nat} (hC : lC p l s m args c D cI cC cD cR cL cB sa AD h aG aB aH aS aI aL aT o oD b9 L xs) (hk : 6 * k + 6 ≤ L) (hLI : lI D cI cC cD cR cL cB AD h aG aB aH aS aI aL aT o oD k H) (hS : va_S (lAN s) s.heap H locs) (hl : lv_has ls 9 [(0, .ref b9), (1, .ref (AD 0)), (2, .ref h), (3, .ref o), (4, .ref oD), (5, .int (nI (6 * k)))])
    (K : ∀ (H1 : Heap) (locs1 : List Loc) (ls1 : Array Slot), lI D cI cC cD cR cL cB AD h aG aB aH aS aI aL aT o oD (k + 1) H1 → va_S (lAN s) s.heap H1 locs1 → lv_has ls1 9 [(0, .ref b9), (1, .ref (AD 0)), (2, .ref h), (3, .ref o), (4, .ref oD), (5, .int (nI (6 * k)))] → W p l e room_1 s m args below meth c H1 locs1 (175 + 3 * (k + 1)) (3554 + 18 * (k + 1)) Q (F0 m 2679 ls1 [])) : W p l e room_1 s m args below meth c H locs (175 + 3 * k) (3554 + 18 * k) Q (F0 m 2203 ls []) := by
  obtain ⟨hx, hb, hml, hown, hts, hl9, hXs, hbl, hL, hT, hX, hI, hAD, ho9, hoD9, hne, hD7⟩ := hC
  obtain ⟨G, B, Hi, Sv, In, Le, To, ch, hs, ty, wy, ln, th, sp, iw, ea, ra, wd, hP7, hcW, hF, hO, hOB⟩ := hLI
  obtain ⟨b, hG, h25, hbt, -, hch, hHg, hhs, hSg, hty, hS7, hln, hLe, hwy⟩ := id hF
  have hk512 : k < 512 := by omega
  have hbb : b + 1 < 2 ^ 20 := by omega
  have hb32 : b + 32 < 2 ^ 20 := by omega
  have h13 : b < 8192 := by omega
  have hHw : ∀ j, j < ch → hAt Hi j 0 ≤ 8 ∧ hAt Hi j 1 ≤ 6 ∧ hAt Hi j 2 ≤ 5 := fun j hj => ⟨(hHg j hj).2.2.1, (hHg j hj).2.2.2.1, (hHg j hj).2.2.2.2.1⟩
  have hSw : hs = 1 → Sv 0 ≤ 8 ∧ Sv 1 ≤ 6 ∧ Sv 2 ≤ 5 := fun q => ⟨(hSg q).2.2.1, (hSg q).2.2.2.1, (hSg q).2.2.2.2.1⟩
  have ho := ho9.2
  have hoD := hoD9.2
  have hK7 : kS D [(cI, .int), (cC, .char)] [] s := ⟨hT.1.1.sub [0, 1] rfl, fun _ h9 => nomatch h9⟩
  have hA7 : ∀ q, l7 s AD o oD q → lAN s q := fun _ h9 => h9.1
  refine lv_aload_n hx hb dL_law_2203 rfl (lv_at hl 1 rfl) ?_
  refine lv_aload_n hx hb dL_law_2204 rfl (lv_at hl 0 rfl) ?_
  refine lv_iload hx hb dL_law_2205 (lv_at hl 5 rfl) ?_
  refine lv_iconst (v := nI 1) hx hb dL_law_2207 (by decide) ?_
  refine nv_iadd hx hb dL_law_2208 ?_
  refine nv_sld hx hb hXs hbl hS (by omega) hL dL_law_2209 ?_
  refine lv_aload_n hx hb dL_law_2210 rfl (lv_at hl 3 rfl) ?_
  refine nv_kN (vx_runSX (hh := [(0, 9, 12, 13)]) (As := [.ref (AD 0), .int (xs (6 * k + 1)), .ref o]) (rest := []) ⟨hx, hb, hml, hown, hts⟩ (c_L_account l hl9 ho hG hI (xs (6 * k + 1))) (vx_cwSW 3 hts gL_law_L_account rfl rfl rfl (by decide +kernel) ⟨Nat.le_of_ble_eq_true rfl, Nat.le_of_ble_eq_true rfl⟩) (nl_pS hT hX hS (fun q h9 => h9.elim (fun ⟨i, _, hi, e9⟩ => by rw [e9]; exact hAD i hi) (fun e9 => by rw [e9]; exact ho9.1)) ⟨hcW, hO⟩) rfl rfl hl.1 rfl (lv_room (Nat.le_of_ble_eq_true rfl)) dL_law_2211 ⟨(show 175 + 3 * k + 1 ≤ 603072 by omega), (show 3554 + 18 * k + 6 ≤ 7219306 by omega)⟩) hS (fun q h9 => h9.elim (fun ⟨i, _, hi, e9⟩ => by rw [e9]; exact hAD i hi) (fun e9 => by rw [e9]; exact ho9.1)) (fun H1 locs1 hP1 hK1 hS1 => ?_)
  obtain ⟨hcW, hO9⟩ := hP1
  have hP7 := nv_keep7 (hD7 G B Hi Sv In Le To _) hP7 hK1 (fun q h9 h8 => h8.elim h9.2.1 (fun e9 => h9.2.2.1 e9))
  have hOB := hOB.kept hK1 (fun h8 => h8.elim hoD (fun e9 => hne e9.symm))
  have hO := hO9
  have hS := hS1
  refine lv_istore (lv' := [(6, .int (nI ((if iR (xs (6 * k + 1)) 13 then 0 else 1)))), (0, .ref b9), (1, .ref (AD 0)), (2, .ref h), (3, .ref o), (4, .ref oD), (5, .int (nI (6 * k)))]) hx hb dL_law_2214 hl (by decide) rfl (fun ls hl => ?_)
  refine lv_aload_n hx hb dL_law_2216 rfl (lv_at hl 3 rfl) ?_
  refine lv_aload_n hx hb dL_law_2217 rfl (lv_at hl 1 rfl) ?_
  refine lv_iload hx hb dL_law_2218 (lv_at hl 6 rfl) ?_
  refine lv_iconst (v := nI 1) hx hb dL_law_2220 (by decide) ?_
  refine nv_iadd hx hb dL_law_2221 ?_
  refine nv_sld hx hb hXs hbl hS (by omega) hL dL_law_2222 ?_
  refine nv_kM2 (va_runV (As := [.int (xs (6 * k + 1))]) (rest := []) ⟨hx, hb, hml, hown, hts⟩ (c_X7_account l hD7 hG (xs (6 * k + 1))) (cwV 1 hts gL_law_X7_account rfl rfl rfl (by decide +kernel) ⟨Nat.le_of_ble_eq_true rfl, Nat.le_of_ble_eq_true rfl⟩) (nv_pV hK7 hP7 (va_recv hT.1.1 hP7 (ci := 9) (q0 := 0) rfl rfl)) rfl rfl hl.1 rfl (lv_room (Nat.le_of_ble_eq_true rfl)) dL_law_2223 ⟨(show 175 + 3 * k + 1 + 0 ≤ 603072 by omega), (show 3554 + 18 * k + 6 + 0 ≤ 7219306 by omega)⟩) hS hA7 (fun H2 locs2 hP2 hK2 hS2 => ?_)
  have hP7 := hP2
  have hcW := cOn_W (l7 s AD o oD) _ _ (fun i _ hi h9 => h9.2.1 ⟨i, Nat.zero_le _, hi, rfl⟩) hK2 hcW
  have hO := hO.kept hK2 (fun h9 => h9.2.2.1 rfl)
  have hOB := hOB.kept hK2 (fun h9 => h9.2.2.2 rfl)
  have hS := hS2
  have hF9 := hF.next hk512
  refine lv_istore (lv' := [(7, .int (((if iR (xs (6 * k + 1)) 13 then nI (qAcc G ty ch (tN (xs (6 * k + 1)))) else 0)))), (6, .int (nI ((if iR (xs (6 * k + 1)) 13 then 0 else 1)))), (0, .ref b9), (1, .ref (AD 0)), (2, .ref h), (3, .ref o), (4, .ref oD), (5, .int (nI (6 * k)))]) hx hb dL_law_2226 hl (by decide) rfl (fun ls hl => ?_)
  refine lv_aload_n hx hb dL_law_2228 rfl (lv_at hl 4 rfl) ?_
  refine nv_kS (va_runV (As := []) (rest := []) ⟨hx, hb, hml, hown, hts⟩ (c_X7_thrown l) (cwV 0 hts gL_law_X7_thrown rfl rfl rfl (by decide +kernel) ⟨Nat.le_of_ble_eq_true rfl, Nat.le_of_ble_eq_true rfl⟩) (nv_pV hK7 hP7 (va_recv hT.1.1 hP7 (ci := 9) (q0 := 0) rfl rfl)) rfl rfl hl.1 rfl (lv_room (Nat.le_of_ble_eq_true rfl)) dL_law_2229 ⟨(show 175 + 3 * k + 1 + 0 + 0 ≤ 603072 by omega), (show 3554 + 18 * k + 6 + 0 + 0 ≤ 7219306 by omega)⟩) ?_
  refine lv_iload hx hb dL_law_2232 (lv_at hl 1 rfl) ?_
  refine lv_icmp_eq (tgt := 2239) hx hb dL_law_2234 (by decide) (fun _ => ?_) (fun h9 => absurd rfl h9)
  refine lv_iload hx hb dL_law_2239 (lv_at hl 1 rfl) ?_
  refine lv_if_ne (tgt := 2256) hx hb dL_law_2241 (by decide) (fun _ => lv_goto (tgt := 2679) hx hb dL_law_2256 (by decide) (W.widen (k := 175 + 3 * (k + 1)) (n := 3554 + 18 * (k + 1)) (by omega) (by omega) (K _ _ _ ⟨_, _, _, _, _, _, _, _, _, _, _, _, _, _, _, _, _, _, hP7, hcW, hF9, hO.imp (fun _ _ => trivial), hOB.imp (fun _ _ => trivial)⟩ hS (lv_sub hl [2, 3, 4, 5, 6, 7] rfl)))) (fun h0 => ?_)
  have ht0 := nv_n0 (t := (if iR (xs (6 * k + 1)) 13 then 0 else 1)) (by (repeat' split) <;> decide) h0
  refine lv_aload_n hx hb dL_law_2244 rfl (lv_at hl 5 rfl) ?_
  refine lv_iconst (v := nI 0) hx hb dL_law_2245 (by decide) ?_
  refine nv_laldO hx hb hX.1 0 rfl (hO.imp (fun _ z => z ht0)) dL_law_2246 ?_
  refine lv_iload hx hb dL_law_2247 (lv_at hl 0 rfl) ?_
  refine lv_i2l hx hb dL_law_2249 rfl ?_
  refine W.lcmp hx hb dL_law_2250 ?_
  exact lv_if_eq (tgt := 2256) hx hb dL_law_2251 (by decide) (fun _ => lv_goto (tgt := 2679) hx hb dL_law_2256 (by decide) (W.widen (k := 175 + 3 * (k + 1)) (n := 3554 + 18 * (k + 1)) (by omega) (by omega) (K _ _ _ ⟨_, _, _, _, _, _, _, _, _, _, _, _, _, _, _, _, _, _, hP7, hcW, hF9, hO.imp (fun _ _ => trivial), hOB.imp (fun _ _ => trivial)⟩ hS (lv_sub hl [2, 3, 4, 5, 6, 7] rfl)))) (fun h9 => absurd (lg_same _) h9)

set_option maxHeartbeats 1000000 in
set_option maxRecDepth 100000 in
theorem lc_meanKnocks {p : Program} {l : Launch} {e : Env} {s : State} {m : MethodId} {args : Array Value} {below : List Frame} {meth : Method} {c : Code} {H : Heap} {locs : List Loc} {Q : State → Prop} {ls : Array Slot} {D : va_G} {cI cC cD cR cL cB : ClassId} {sa : sA} {AD : Nat → Nat} {h aG aB aH aS aI aL aT o oD b9 L : Nat} {xs : Nat → Int32} {k : Nat} (hC : lC p l s m args c D cI cC cD cR cL cB sa AD h aG aB aH aS aI aL aT o oD b9 L xs) (hk : 6 * k + 6 ≤ L) (hLI : lI D cI cC cD cR cL cB AD h aG aB aH aS aI aL aT o oD k H) (hS : va_S (lAN s) s.heap H locs) (hl : lv_has ls 9 [(0, .ref b9), (1, .ref (AD 0)), (2, .ref h), (3, .ref o), (4, .ref oD), (5, .int (nI (6 * k)))])
    (K : ∀ (H1 : Heap) (locs1 : List Loc) (ls1 : Array Slot), lI D cI cC cD cR cL cB AD h aG aB aH aS aI aL aT o oD (k + 1) H1 → va_S (lAN s) s.heap H1 locs1 → lv_has ls1 9 [(0, .ref b9), (1, .ref (AD 0)), (2, .ref h), (3, .ref o), (4, .ref oD), (5, .int (nI (6 * k)))] → W p l e room_1 s m args below meth c H1 locs1 (175 + 3 * (k + 1)) (3554 + 18 * (k + 1)) Q (F0 m 2679 ls1 [])) : W p l e room_1 s m args below meth c H locs (175 + 3 * k) (3554 + 18 * k) Q (F0 m 2259 ls []) := by
  obtain ⟨hx, hb, hml, hown, hts, hl9, hXs, hbl, hL, hT, hX, hI, hAD, ho9, hoD9, hne, hD7⟩ := hC
  obtain ⟨G, B, Hi, Sv, In, Le, To, ch, hs, ty, wy, ln, th, sp, iw, ea, ra, wd, hP7, hcW, hF, hO, hOB⟩ := hLI
  obtain ⟨b, hG, h25, hbt, -, hch, hHg, hhs, hSg, hty, hS7, hln, hLe, hwy⟩ := id hF
  have hk512 : k < 512 := by omega
  have hbb : b + 1 < 2 ^ 20 := by omega
  have hb32 : b + 32 < 2 ^ 20 := by omega
  have h13 : b < 8192 := by omega
  have hHw : ∀ j, j < ch → hAt Hi j 0 ≤ 8 ∧ hAt Hi j 1 ≤ 6 ∧ hAt Hi j 2 ≤ 5 := fun j hj => ⟨(hHg j hj).2.2.1, (hHg j hj).2.2.2.1, (hHg j hj).2.2.2.2.1⟩
  have hSw : hs = 1 → Sv 0 ≤ 8 ∧ Sv 1 ≤ 6 ∧ Sv 2 ≤ 5 := fun q => ⟨(hSg q).2.2.1, (hSg q).2.2.2.1, (hSg q).2.2.2.2.1⟩
  have ho := ho9.2
  have hoD := hoD9.2
  have hK7 : kS D [(cI, .int), (cC, .char)] [] s := ⟨hT.1.1.sub [0, 1] rfl, fun _ h9 => nomatch h9⟩
  have hA7 : ∀ q, l7 s AD o oD q → lAN s q := fun _ h9 => h9.1
  refine lv_aload_n hx hb dL_law_2259 rfl (lv_at hl 1 rfl) ?_
  refine lv_aload hx hb dL_law_2260 (lv_at hl 4 rfl) ?_
  refine nv_kN (vx_runSX (hh := [(0, 7, 10, 117)]) (As := [.ref (AD 0), .ref oD]) (rest := []) ⟨hx, hb, hml, hown, hts⟩ (c_L_meanKnocks l hl9 hoD hG hI) (vx_cwSW 2 hts gL_law_L_meanKnocks rfl rfl rfl (by decide +kernel) ⟨Nat.le_of_ble_eq_true rfl, Nat.le_of_ble_eq_true rfl⟩) (nl_pS hT hX hS (fun q h9 => h9.elim (fun ⟨i, _, hi, e9⟩ => by rw [e9]; exact hAD i hi) (fun e9 => by rw [e9]; exact hoD9.1)) ⟨hcW, hOB⟩) rfl rfl hl.1 rfl (lv_room (Nat.le_of_ble_eq_true rfl)) dL_law_2262 ⟨(show 175 + 3 * k + 1 ≤ 603072 by omega), (show 3554 + 18 * k + 6 ≤ 7219306 by omega)⟩) hS (fun q h9 => h9.elim (fun ⟨i, _, hi, e9⟩ => by rw [e9]; exact hAD i hi) (fun e9 => by rw [e9]; exact hoD9.1)) (fun H1 locs1 hP1 hK1 hS1 => ?_)
  obtain ⟨hcW, hO9⟩ := hP1
  have hP7 := nv_keep7 (hD7 G B Hi Sv In Le To _) hP7 hK1 (fun q h9 h8 => h8.elim h9.2.1 (fun e9 => h9.2.2.2 e9))
  have hO := hO.kept hK1 (fun h8 => h8.elim ho (fun e9 => hne e9))
  have hOB := hO9
  have hS := hS1
  refine lv_istore (lv' := [(6, .int (nI ((if G 0 = 0 then 1 else 0)))), (0, .ref b9), (1, .ref (AD 0)), (2, .ref h), (3, .ref o), (4, .ref oD), (5, .int (nI (6 * k)))]) hx hb dL_law_2265 hl (by decide) rfl (fun ls hl => ?_)
  refine lv_aload_n hx hb dL_law_2267 rfl (lv_at hl 3 rfl) ?_
  refine nv_kM2d (va_runV (As := []) (rest := []) ⟨hx, hb, hml, hown, hts⟩ (c_X7_meanKnocks l hD7 hG) (cwV 0 hts gL_law_X7_meanKnocks rfl rfl rfl (by decide +kernel) ⟨Nat.le_of_ble_eq_true rfl, Nat.le_of_ble_eq_true rfl⟩) (nv_pV hK7 hP7 (va_recv hT.1.1 hP7 (ci := 9) (q0 := 0) rfl rfl)) rfl rfl hl.1 rfl (lv_room (Nat.le_of_ble_eq_true rfl)) dL_law_2268 ⟨(show 175 + 3 * k + 1 + 0 ≤ 603072 by omega), (show 3554 + 18 * k + 6 + 0 ≤ 7219306 by omega)⟩) hS hA7 (fun H2 locs2 hP2 hK2 hS2 => ?_)
  have hP7 := hP2
  have hcW := cOn_W (l7 s AD o oD) _ _ (fun i _ hi h9 => h9.2.1 ⟨i, Nat.zero_le _, hi, rfl⟩) hK2 hcW
  have hO := hO.kept hK2 (fun h9 => h9.2.2.1 rfl)
  have hOB := hOB.kept hK2 (fun h9 => h9.2.2.2 rfl)
  have hS := hS2
  have hF9 := hF.next hk512
  refine lv_dstore (lv' := [(7, .double (((if G 0 = 0 then FP.dconst0 else FP.ddiv (FP.i2d (nI (G 3))) (FP.i2d (nI (G 0))))))), (6, .int (nI ((if G 0 = 0 then 1 else 0)))), (0, .ref b9), (1, .ref (AD 0)), (2, .ref h), (3, .ref o), (4, .ref oD), (5, .int (nI (6 * k)))]) hx hb dL_law_2271 hl (by decide) rfl (fun ls hl => ?_)
  refine lv_aload_n hx hb dL_law_2273 rfl (lv_at hl 4 rfl) ?_
  refine nv_kS (va_runV (As := []) (rest := []) ⟨hx, hb, hml, hown, hts⟩ (c_X7_thrown l) (cwV 0 hts gL_law_X7_thrown rfl rfl rfl (by decide +kernel) ⟨Nat.le_of_ble_eq_true rfl, Nat.le_of_ble_eq_true rfl⟩) (nv_pV hK7 hP7 (va_recv hT.1.1 hP7 (ci := 9) (q0 := 0) rfl rfl)) rfl rfl hl.1 rfl (lv_room (Nat.le_of_ble_eq_true rfl)) dL_law_2274 ⟨(show 175 + 3 * k + 1 + 0 + 0 ≤ 603072 by omega), (show 3554 + 18 * k + 6 + 0 + 0 ≤ 7219306 by omega)⟩) ?_
  refine lv_iload hx hb dL_law_2277 (lv_at hl 1 rfl) ?_
  refine lv_icmp_eq (tgt := 2284) hx hb dL_law_2279 (by decide) (fun _ => ?_) (fun h9 => absurd rfl h9)
  refine lv_iload hx hb dL_law_2284 (lv_at hl 1 rfl) ?_
  refine lv_if_ne (tgt := 2321) hx hb dL_law_2286 (by decide) (fun _ => lv_goto (tgt := 2679) hx hb dL_law_2321 (by decide) (W.widen (k := 175 + 3 * (k + 1)) (n := 3554 + 18 * (k + 1)) (by omega) (by omega) (K _ _ _ ⟨_, _, _, _, _, _, _, _, _, _, _, _, _, _, _, _, _, _, hP7, hcW, hF9, hO.imp (fun _ _ => trivial), hOB.imp (fun _ _ => trivial)⟩ hS (lv_sub hl [2, 3, 4, 5, 6, 7] rfl)))) (fun h0 => ?_)
  have ht0 := nv_n0 (t := (if G 0 = 0 then 1 else 0)) (by (repeat' split) <;> decide) h0
  refine lv_aload hx hb dL_law_2289 (lv_at hl 6 rfl) ?_
  refine lv_iconst (v := nI 0) hx hb dL_law_2291 (by decide) ?_
  refine nv_daldO hx hb hX.1 1 rfl (hOB.imp (fun _ z => z ht0)) dL_law_2292 ?_
  refine lv_dload hx hb dL_law_2293 (lv_at hl 0 rfl) ?_
  refine lv_dcmp hx hb dL_law_2295 ?_
  exact lv_if_eq (tgt := 2321) hx hb dL_law_2296 (by decide) (fun _ => lv_goto (tgt := 2679) hx hb dL_law_2321 (by decide) (W.widen (k := 175 + 3 * (k + 1)) (n := 3554 + 18 * (k + 1)) (by omega) (by omega) (K _ _ _ ⟨_, _, _, _, _, _, _, _, _, _, _, _, _, _, _, _, _, _, hP7, hcW, hF9, hO.imp (fun _ _ => trivial), hOB.imp (fun _ _ => trivial)⟩ hS (lv_sub hl [2, 3, 4, 5, 6, 7] rfl)))) (fun h9 => absurd (dc_same (nd_mean hG.2.2.1)) h9)

set_option maxHeartbeats 1000000 in
set_option maxRecDepth 100000 in
theorem lc_agreedShare {p : Program} {l : Launch} {e : Env} {s : State} {m : MethodId} {args : Array Value} {below : List Frame} {meth : Method} {c : Code} {H : Heap} {locs : List Loc} {Q : State → Prop} {ls : Array Slot} {D : va_G} {cI cC cD cR cL cB : ClassId} {sa : sA} {AD : Nat → Nat} {h aG aB aH aS aI aL aT o oD b9 L : Nat} {xs : Nat → Int32} {k : Nat} (hC : lC p l s m args c D cI cC cD cR cL cB sa AD h aG aB aH aS aI aL aT o oD b9 L xs) (hk : 6 * k + 6 ≤ L) (hLI : lI D cI cC cD cR cL cB AD h aG aB aH aS aI aL aT o oD k H) (hS : va_S (lAN s) s.heap H locs) (hl : lv_has ls 9 [(0, .ref b9), (1, .ref (AD 0)), (2, .ref h), (3, .ref o), (4, .ref oD), (5, .int (nI (6 * k)))])
    (K : ∀ (H1 : Heap) (locs1 : List Loc) (ls1 : Array Slot), lI D cI cC cD cR cL cB AD h aG aB aH aS aI aL aT o oD (k + 1) H1 → va_S (lAN s) s.heap H1 locs1 → lv_has ls1 9 [(0, .ref b9), (1, .ref (AD 0)), (2, .ref h), (3, .ref o), (4, .ref oD), (5, .int (nI (6 * k)))] → W p l e room_1 s m args below meth c H1 locs1 (175 + 3 * (k + 1)) (3554 + 18 * (k + 1)) Q (F0 m 2679 ls1 [])) : W p l e room_1 s m args below meth c H locs (175 + 3 * k) (3554 + 18 * k) Q (F0 m 2324 ls []) := by
  obtain ⟨hx, hb, hml, hown, hts, hl9, hXs, hbl, hL, hT, hX, hI, hAD, ho9, hoD9, hne, hD7⟩ := hC
  obtain ⟨G, B, Hi, Sv, In, Le, To, ch, hs, ty, wy, ln, th, sp, iw, ea, ra, wd, hP7, hcW, hF, hO, hOB⟩ := hLI
  obtain ⟨b, hG, h25, hbt, -, hch, hHg, hhs, hSg, hty, hS7, hln, hLe, hwy⟩ := id hF
  have hk512 : k < 512 := by omega
  have hbb : b + 1 < 2 ^ 20 := by omega
  have hb32 : b + 32 < 2 ^ 20 := by omega
  have h13 : b < 8192 := by omega
  have hHw : ∀ j, j < ch → hAt Hi j 0 ≤ 8 ∧ hAt Hi j 1 ≤ 6 ∧ hAt Hi j 2 ≤ 5 := fun j hj => ⟨(hHg j hj).2.2.1, (hHg j hj).2.2.2.1, (hHg j hj).2.2.2.2.1⟩
  have hSw : hs = 1 → Sv 0 ≤ 8 ∧ Sv 1 ≤ 6 ∧ Sv 2 ≤ 5 := fun q => ⟨(hSg q).2.2.1, (hSg q).2.2.2.1, (hSg q).2.2.2.2.1⟩
  have ho := ho9.2
  have hoD := hoD9.2
  have hK7 : kS D [(cI, .int), (cC, .char)] [] s := ⟨hT.1.1.sub [0, 1] rfl, fun _ h9 => nomatch h9⟩
  have hA7 : ∀ q, l7 s AD o oD q → lAN s q := fun _ h9 => h9.1
  refine lv_aload_n hx hb dL_law_2324 rfl (lv_at hl 1 rfl) ?_
  refine lv_aload hx hb dL_law_2325 (lv_at hl 4 rfl) ?_
  refine nv_kN (vx_runSX (hh := [(0, 8, 11, 117)]) (As := [.ref (AD 0), .ref oD]) (rest := []) ⟨hx, hb, hml, hown, hts⟩ (c_L_agreedShare l hl9 hoD hG hI h13) (vx_cwSW 2 hts gL_law_L_agreedShare rfl rfl rfl (by decide +kernel) ⟨Nat.le_of_ble_eq_true rfl, Nat.le_of_ble_eq_true rfl⟩) (nl_pS hT hX hS (fun q h9 => h9.elim (fun ⟨i, _, hi, e9⟩ => by rw [e9]; exact hAD i hi) (fun e9 => by rw [e9]; exact hoD9.1)) ⟨hcW, hOB⟩) rfl rfl hl.1 rfl (lv_room (Nat.le_of_ble_eq_true rfl)) dL_law_2327 ⟨(show 175 + 3 * k + 1 ≤ 603072 by omega), (show 3554 + 18 * k + 6 ≤ 7219306 by omega)⟩) hS (fun q h9 => h9.elim (fun ⟨i, _, hi, e9⟩ => by rw [e9]; exact hAD i hi) (fun e9 => by rw [e9]; exact hoD9.1)) (fun H1 locs1 hP1 hK1 hS1 => ?_)
  obtain ⟨hcW, hO9⟩ := hP1
  have hP7 := nv_keep7 (hD7 G B Hi Sv In Le To _) hP7 hK1 (fun q h9 h8 => h8.elim h9.2.1 (fun e9 => h9.2.2.2 e9))
  have hO := hO.kept hK1 (fun h8 => h8.elim ho (fun e9 => hne e9))
  have hOB := hO9
  have hS := hS1
  refine lv_istore (lv' := [(6, .int (nI ((if G 3 = 0 then 1 else 0)))), (0, .ref b9), (1, .ref (AD 0)), (2, .ref h), (3, .ref o), (4, .ref oD), (5, .int (nI (6 * k)))]) hx hb dL_law_2330 hl (by decide) rfl (fun ls hl => ?_)
  refine lv_aload_n hx hb dL_law_2332 rfl (lv_at hl 3 rfl) ?_
  refine nv_kM2f (va_runV (As := []) (rest := []) ⟨hx, hb, hml, hown, hts⟩ (c_X7_agreedShare l hD7 hG h13) (cwV 0 hts gL_law_X7_agreedShare rfl rfl rfl (by decide +kernel) ⟨Nat.le_of_ble_eq_true rfl, Nat.le_of_ble_eq_true rfl⟩) (nv_pV hK7 hP7 (va_recv hT.1.1 hP7 (ci := 9) (q0 := 0) rfl rfl)) rfl rfl hl.1 rfl (lv_room (Nat.le_of_ble_eq_true rfl)) dL_law_2333 ⟨(show 175 + 3 * k + 1 + 0 ≤ 603072 by omega), (show 3554 + 18 * k + 6 + 0 ≤ 7219306 by omega)⟩) hS hA7 (fun H2 locs2 hP2 hK2 hS2 => ?_)
  have hP7 := hP2
  have hcW := cOn_W (l7 s AD o oD) _ _ (fun i _ hi h9 => h9.2.1 ⟨i, Nat.zero_le _, hi, rfl⟩) hK2 hcW
  have hO := hO.kept hK2 (fun h9 => h9.2.2.1 rfl)
  have hOB := hOB.kept hK2 (fun h9 => h9.2.2.2 rfl)
  have hS := hS2
  have hF9 := hF.next hk512
  refine lv_fstore (lv' := [(7, .float (((if G 3 = 0 then FP.fconst0 else FP.fdiv (FP.i2f (nI (G 4))) (FP.i2f (nI (G 3))))))), (6, .int (nI ((if G 3 = 0 then 1 else 0)))), (0, .ref b9), (1, .ref (AD 0)), (2, .ref h), (3, .ref o), (4, .ref oD), (5, .int (nI (6 * k)))]) hx hb dL_law_2336 hl (by decide) rfl (fun ls hl => ?_)
  refine lv_aload_n hx hb dL_law_2338 rfl (lv_at hl 4 rfl) ?_
  refine nv_kS (va_runV (As := []) (rest := []) ⟨hx, hb, hml, hown, hts⟩ (c_X7_thrown l) (cwV 0 hts gL_law_X7_thrown rfl rfl rfl (by decide +kernel) ⟨Nat.le_of_ble_eq_true rfl, Nat.le_of_ble_eq_true rfl⟩) (nv_pV hK7 hP7 (va_recv hT.1.1 hP7 (ci := 9) (q0 := 0) rfl rfl)) rfl rfl hl.1 rfl (lv_room (Nat.le_of_ble_eq_true rfl)) dL_law_2339 ⟨(show 175 + 3 * k + 1 + 0 + 0 ≤ 603072 by omega), (show 3554 + 18 * k + 6 + 0 + 0 ≤ 7219306 by omega)⟩) ?_
  refine lv_iload hx hb dL_law_2342 (lv_at hl 1 rfl) ?_
  refine lv_icmp_eq (tgt := 2349) hx hb dL_law_2344 (by decide) (fun _ => ?_) (fun h9 => absurd rfl h9)
  refine lv_iload hx hb dL_law_2349 (lv_at hl 1 rfl) ?_
  refine lv_if_ne (tgt := 2387) hx hb dL_law_2351 (by decide) (fun _ => lv_goto (tgt := 2679) hx hb dL_law_2387 (by decide) (W.widen (k := 175 + 3 * (k + 1)) (n := 3554 + 18 * (k + 1)) (by omega) (by omega) (K _ _ _ ⟨_, _, _, _, _, _, _, _, _, _, _, _, _, _, _, _, _, _, hP7, hcW, hF9, hO.imp (fun _ _ => trivial), hOB.imp (fun _ _ => trivial)⟩ hS (lv_sub hl [2, 3, 4, 5, 6, 7] rfl)))) (fun h0 => ?_)
  have ht0 := nv_n0 (t := (if G 3 = 0 then 1 else 0)) (by (repeat' split) <;> decide) h0
  refine lv_aload hx hb dL_law_2354 (lv_at hl 6 rfl) ?_
  refine lv_iconst (v := nI 0) hx hb dL_law_2356 (by decide) ?_
  refine nv_daldO hx hb hX.1 1 rfl (hOB.imp (fun _ z => z ht0)) dL_law_2357 ?_
  refine lv_fload hx hb dL_law_2358 (lv_at hl 0 rfl) ?_
  refine lv_f2d hx hb dL_law_2360 (nf_f2d (nf_share (Nat.lt_of_le_of_lt (hG.2.1 3 (by decide)) h13))) ?_
  refine lv_dcmp hx hb dL_law_2361 ?_
  exact lv_if_eq (tgt := 2387) hx hb dL_law_2362 (by decide) (fun _ => lv_goto (tgt := 2679) hx hb dL_law_2387 (by decide) (W.widen (k := 175 + 3 * (k + 1)) (n := 3554 + 18 * (k + 1)) (by omega) (by omega) (K _ _ _ ⟨_, _, _, _, _, _, _, _, _, _, _, _, _, _, _, _, _, _, hP7, hcW, hF9, hO.imp (fun _ _ => trivial), hOB.imp (fun _ _ => trivial)⟩ hS (lv_sub hl [2, 3, 4, 5, 6, 7] rfl)))) (fun h9 => absurd (dc_same (nf_f2d (nf_share (Nat.lt_of_le_of_lt (hG.2.1 3 (by decide)) h13)))) h9)
