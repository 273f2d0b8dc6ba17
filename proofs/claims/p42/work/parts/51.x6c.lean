theorem cOn.keepU {AD : Nat → Nat} {H H1 : Heap} {P : Heap → Prop} {lo hi l h l2 h2 : Nat} (hc : cOn AD lo hi P) (hI : cInj AD) (hK : cFr (fun q => cRg AD l h q ∨ cRg AD l2 h2 q) H H1) (hP : P H) (d : (hi ≤ l ∨ h ≤ lo) ∧ (hi ≤ l2 ∨ h2 ≤ lo) ∧ hi ≤ 165 ∧ h ≤ 165 ∧ h2 ≤ 165) : P H1 :=
  hc _ H H1 (fun i x y z => z.elim (cRg_no hI d.2.2.2.1 (by omega) (by omega)) (cRg_no hI d.2.2.2.2 (by omega) (by omega))) hK hP

set_option maxHeartbeats 1000000 in
set_option maxRecDepth 100000 in
theorem c_X6_door (l : Launch) (hl9 : l.stackTraces = false) {D : va_G} {cI cC cD cR : ClassId} {sa : sA} {A : Nat → Prop} {AD : Nat → Nat} {G Sv Hi In Le : Nat → Nat} {b hs ch ty wy ln : Nat} {ea ra wd : Int32} (hG : gWf b G) (hI : cInj AD) (hAA : ∀ i, i < 165 → A (AD i)) (hch : ch ≤ 8) (hHw : ∀ j, j < ch → hAt Hi j 0 ≤ 8 ∧ hAt Hi j 1 ≤ 6 ∧ hAt Hi j 2 ≤ 5) (h25 : 25 ≤ b) (hbb : b + 1 < 2 ^ 20) (a g : Int32) (z : Nat) (x y : Int32) (hz : z ≤ 1) : vx_Met l yX6_door wsX6_door ({ frames := 7, cells := 1, slots := 6, locals := 132 }) (va_Pc [.ref (AD 0), .int a, .int g, .int (nI z), .int x, .int y] (tPre D [(cI, .int), (cC, .char), (cD, .object "DoorDialect$Door"), (cR, .object "DoorDialect$House")] nN sa A (cW D cI cC cD cR AD G Sv Hi In Le hs ch ty wy ln ea ra wd))) (gQX ((vDoor G a g z x y).1) ((vDoor G a g z x y).2.2.2.1) (cWv D cI cC cD cR AD G Sv Hi In Le hs ch ty wy ln ea ra wd (vDoor G a g z x y)) A) (xQ (nsF [1, 2, 3]) ((vDoor G a g z x y).1) (cWv D cI cC cD cR AD G Sv Hi In Le hs ch ty wy ln ea ra wd (vDoor G a g z x y)) A) 1 6 A := by
  refine nv_metX (cc := cX6_door) (maxL := 6) (ret := (some .int)) (by decide) rfl (Nat.le_of_ble_eq_true rfl) ?_
  intro p0 e0 s m0 args below meth c0 Q hq hargs hnA hout hpre ls hl
  obtain ⟨hx, hb, hr, hts, hown, hlocks, hml⟩ := hnA
  obtain ⟨hP, hT⟩ := hpre
  have hK := hT.1
  have hown : s.vm.findClass RX6 = some m0.cls := hown
  obtain ⟨hPo, ⟨u, hR, hk, hPh⟩, hPi, hPs, hPp, hPw, hPt⟩ := hP
  have hPo : va_P D vwCl (cOb AD (hs) (wy) (wd) (ea) (ra)) s.heap := hPo
  have hPh : va_P D vwCl (hw cI cD (cAd AD 1) u) s.heap := hPh
  have hl : lv_has ls 6 [(0, .ref (AD 0)), (1, .int a), (2, .int g), (3, .int (nI z)), (4, .int x), (5, .int y)] := hl
  have hS : va_S A s.heap s.heap [] := va_S.rf
  have in_X6 : ∀ w ∈ wsX60, w ∈ wsX6_door := by decide +kernel
  have fl_10 := hts (.fieldLink RX6 10 "DoorDialect" "house" "LDoorDialect$House;") (by decide +kernel)
  have fl_22 := hts (.fieldLink RX6 22 "DoorDialect" "past" "LDoorDialect$Past;") (by decide +kernel)
  obtain ⟨g_b, g_k, g_0, g_1, g_2, g_e, g_d, g_t, g_y, g_s, g_h⟩ := id hG
  refine lv_aload_n hx hb dX6_door_0 rfl (lv_at hl 0 rfl) ?_
  refine lv_iload_n hx hb dX6_door_1 rfl (lv_at hl 1 rfl) ?_
  refine lv_iload_n hx hb dX6_door_2 rfl (lv_at hl 2 rfl) ?_
  refine lv_iload hx hb dX6_door_3 (lv_at hl 4 rfl) ?_
  refine lv_iload hx hb dX6_door_5 (lv_at hl 5 rfl) ?_
  refine nv_kG (va_runV (As := [.int a, .int g, .int x, .int y]) (rest := []) ⟨hx, hb, hml, hown, hts⟩ (c_X6_faultOfDoor l (A := cRg AD 0 165) (J := cJ9 D cI cC cD cR AD Sv Hi In Le hs ch ty ln) hR hG hI cRg_self cOn_J9 ((a)) ((g)) z ((x)) ((y))) (cwV 4 hts gX6_door_X6_faultOfDoor rfl rfl rfl (by decide +kernel) ⟨Nat.le_of_ble_eq_true rfl, Nat.le_of_ble_eq_true rfl⟩) (nt_pVn hT hS (cRg_A hAA (by decide)) ⟨hPo, hPh, hPi, hPs, hPp, hPw, hPt⟩ (va_recv hK.1 hPo (ci := 8) (q0 := 0) rfl rfl)) rfl rfl hl.1 rfl (lv_room (Nat.le_of_ble_eq_true rfl)) dX6_door_7 ⟨Nat.le_of_ble_eq_true rfl, Nat.le_of_ble_eq_true rfl⟩) hS (cRg_A hAA (by decide)) (fun H locs hP1 hK1 hS => ?_)
  obtain ⟨hPo, hPh, hPi, hPs, hPp, hPw, hPt⟩ := hP1
  have hPo : va_P D vwCl (cOb AD (hs) (vWy (vDoor G ((a)) ((g)) z ((x)) ((y))) (wy)) (vWd (vDoor G ((a)) ((g)) z ((x)) ((y))) (wd)) (ea) (ra)) H := hPo
  have hfc := fC_ok (n := (vDoor G ((a)) ((g)) z ((x)) ((y))).1) fOk_123 (vDoor_n _ _ _ _ _ _)
  refine nv_kGXv (vx_runS (As := [.int (nI (fC [1, 2, 3] (vDoor G ((a)) ((g)) z ((x)) ((y))).1))]) (rest := []) ⟨hx, hb, hml, hown, hts⟩ (c_X6_throwFault l hl9 (A := fun _ => False) (J := cJ D cI cC cD cR AD u Sv Hi In Le hs ch ty (vWy (vDoor G ((a)) ((g)) z ((x)) ((y))) (wy)) ln ea ra (vWd (vDoor G ((a)) ((g)) z ((x)) ((y))) (wd))) (fun _ _ h9 h8 => h8.grow h9) (fC [1, 2, 3] (vDoor G ((a)) ((g)) z ((x)) ((y))).1) hfc.1) (va_cwS 1 hts gX6_door_X6_throwFault rfl rfl rfl (by decide +kernel) ⟨Nat.le_of_ble_eq_true rfl, Nat.le_of_ble_eq_true rfl⟩) (nt_pSn hT hS (fun _ h9 => h9.elim) ⟨hPo, hPh, hPi, hPs, hPp, hPw, hPt⟩) rfl rfl hl.1 rfl (lv_room (Nat.le_of_ble_eq_true rfl)) dX6_door_10 ⟨Nat.le_of_ble_eq_true rfl, Nat.le_of_ble_eq_true rfl⟩) hS (fun _ h9 => h9.elim) hq hout hlocks (Nat.le_of_ble_eq_true rfl) (Nat.le_of_ble_eq_true rfl) (fun H h0 hP1 hK1 => ?_) (fun H locs h0 hP1 hK1 hS => ?_)
  · have hn9 : ¬ (vDoor G ((a)) ((g)) z ((x)) ((y))).1 = 0 := fun q => h0 (hfc.2.1.mpr q)
    exact ⟨hn9, hfc.2.2 hn9, cWv_no hn9 (vDoor_G hn9).1 hR hk hP1⟩
  obtain ⟨hPo, hPh, hPi, hPs, hPp, hPw, hPt⟩ := hP1
  have hv0 : (vDoor G ((a)) ((g)) z ((x)) ((y))).1 = 0 := hfc.2.1.mp h0
  obtain ⟨ak, gk, xk, yk, h_a, h_g, h_x, h_y, rfl, rfl, rfl, rfl, h8, hV⟩ := vDoor_ok hv0
  have hPo : va_P D vwCl (cOb AD (hs) (vWy (vDoor G (((nI ak))) (((nI gk))) z (((nI xk))) (((nI yk)))) (wy)) (vWd (vDoor G (((nI ak))) (((nI gk))) z (((nI xk))) (((nI yk)))) (wd)) (ea) (ra)) H := hPo
  refine lv_aload_n hx hb dX6_door_13 rfl (lv_at hl 0 rfl) ?_
  refine va_get (D := D) (ci := 8) (v := .ref ((cAd AD 29) 0)) (C := RX6) (T := TX6) (N := 11) hx hb hts in_X6 hown hK.1 hPo 0 rfl rfl 2 (by decide) fl_22 (fun _ h9 => h9) rfl dX6_door_14 ?_
  refine lv_aload_n hx hb dX6_door_17 rfl (lv_at hl 0 rfl) ?_
  refine va_get (D := D) (ci := 8) (v := .ref ((cAd AD 1) 0)) (C := RX6) (T := TX6) (N := 11) hx hb hts in_X6 hown hK.1 hPo 0 rfl rfl 0 (by decide) fl_10 (fun _ h9 => h9) rfl dX6_door_18 ?_
  refine nv_kGv (va_runV (As := [.ref ((cAd AD 1) 0)]) (rest := []) ⟨hx, hb, hml, hown, hts⟩ (c_X3_add l (A := fun q => cRg AD 1 15 q ∨ cRg AD 29 157 q) (fun _ h => h) hI hch hHw ⟨by omega, by omega, by omega⟩ hR hk) (cwV 1 hts gX6_door_X3_add rfl rfl rfl (by decide +kernel) ⟨Nat.le_of_ble_eq_true rfl, Nat.le_of_ble_eq_true rfl⟩) (nt_pVn hT hS (fun q h => h.elim (cRg_A hAA (by decide) q) (cRg_A hAA (by decide) q)) ⟨hPp, hPh⟩ (cPa.recv hK.1 hPp)) rfl rfl hl.1 rfl (lv_room (Nat.le_of_ble_eq_true rfl)) dX6_door_21 ⟨Nat.le_of_ble_eq_true rfl, Nat.le_of_ble_eq_true rfl⟩) hS (fun q h => h.elim (cRg_A hAA (by decide) q) (cRg_A hAA (by decide) q)) (fun H locs hP1 hK1 hS => ?_)
  obtain ⟨hPp, hPh⟩ := hP1
  have hPo := cOn_Ob.keepU hI hK1 hPo (by decide)
  have hPs := cOn_Sv.keepU hI hK1 hPs (by decide)
  have hPw := cOn_Wk.keepU hI hK1 hPw (by decide)
  have hPt := cOn_Tx.keepU hI hK1 hPt (by decide)
  have hPi := cOn_In.keepU hI hK1 hPi (by decide)
  refine lv_aload_n hx hb dX6_door_24 rfl (lv_at hl 0 rfl) ?_
  refine va_get (D := D) (ci := 8) (v := .ref ((cAd AD 1) 0)) (C := RX6) (T := TX6) (N := 11) hx hb hts in_X6 hown hK.1 hPo 0 rfl rfl 0 (by decide) fl_10 (fun _ h9 => h9) rfl dX6_door_25 ?_
  refine lv_iload_n hx hb dX6_door_28 rfl (lv_at hl 1 rfl) ?_
  refine lv_iload_n hx hb dX6_door_29 rfl (lv_at hl 2 rfl) ?_
  refine lv_iload_n hx hb dX6_door_30 rfl (lv_at hl 3 rfl) ?_
  refine nv_kS (va_runS (As := [.int (nI z)]) (rest := [.int (nI gk), .int (nI ak), .ref ((cAd AD 1) 0)]) ⟨hx, hb, hml, hown, hts⟩ (c_X6_numberOf l z (by first | omega | exact bI_le _)) (va_cwS 1 hts gX6_door_X6_numberOf rfl rfl rfl (by decide +kernel) ⟨Nat.le_of_ble_eq_true rfl, Nat.le_of_ble_eq_true rfl⟩) (nt_pS hT hS trivial) rfl rfl hl.1 rfl (lv_room (Nat.le_of_ble_eq_true rfl)) dX6_door_31 ⟨Nat.le_of_ble_eq_true rfl, Nat.le_of_ble_eq_true rfl⟩) ?_
  refine lv_iload hx hb dX6_door_34 (lv_at hl 4 rfl) ?_
  refine lv_iload hx hb dX6_door_36 (lv_at hl 5 rfl) ?_
  refine nv_kG (va_runV (As := [.int (nI ak), .int (nI gk), .int (nI z), .int (nI xk), .int (nI yk)]) (rest := []) ⟨hx, hb, hml, hown, hts⟩ (c_X1_addDoor l hR hG hk (fun _ => cD_of hI (cAt_hw 1) (by decide)) ak gk z xk yk (by omega)) (cwV 5 hts gX6_door_X1_addDoor rfl rfl rfl (by decide +kernel) ⟨Nat.le_of_ble_eq_true rfl, Nat.le_of_ble_eq_true rfl⟩) (nt_pVn hT hS (cRg_A hAA (by decide)) hPh (va_recv hK.1 hPh (ci := 3) (q0 := 0) rfl rfl)) rfl rfl hl.1 rfl (lv_room (Nat.le_of_ble_eq_true rfl)) dX6_door_38 ⟨Nat.le_of_ble_eq_true rfl, Nat.le_of_ble_eq_true rfl⟩) hS (cRg_A hAA (by decide)) (fun H locs hP1 hK1 hS => ?_)
  obtain ⟨u, hR, hk, hPh⟩ := hP1
  have hPo := cOn_Ob.keep hI hK1 hPo (Or.inl (by decide)) (by decide) (by decide)
  have hPs := cOn_Sv.keep hI hK1 hPs (Or.inr (by decide)) (by decide) (by decide)
  have hPp := cOn_Pa.keep hI hK1 hPp (Or.inr (by decide)) (by decide) (by decide)
  have hPw := cOn_Wk.keep hI hK1 hPw (Or.inr (by decide)) (by decide) (by decide)
  have hPt := cOn_Tx.keep hI hK1 hPt (Or.inr (by decide)) (by decide) (by decide)
  have hPi := cOn_In.keep hI hK1 hPi (Or.inr (by decide)) (by decide) (by decide)
  exact nv_retGX hq hx hb hr hlocks (Nat.le_of_ble_eq_true rfl) (Nat.le_of_ble_eq_true rfl) (nar_i _) (hv0) (by rw [hV]; rfl) hS (cWv_ok hV ⟨u, hR, hk, hPh⟩ hPo hPi hPs hPp hPw hPt) dX6_door_41

set_option maxHeartbeats 1000000 in
set_option maxRecDepth 100000 in
theorem c_X6_threshold (l : Launch) (hl9 : l.stackTraces = false) {D : va_G} {cI cC cD cR : ClassId} {sa : sA} {A : Nat → Prop} {AD : Nat → Nat} {G Sv Hi In Le : Nat → Nat} {b hs ch ty wy ln : Nat} {ea ra wd : Int32} (hG : gWf b G) (hI : cInj AD) (hAA : ∀ i, i < 165 → A (AD i)) (hch : ch ≤ 8) (hHw : ∀ j, j < ch → hAt Hi j 0 ≤ 8 ∧ hAt Hi j 1 ≤ 6 ∧ hAt Hi j 2 ≤ 5) (h25 : 25 ≤ b) (hbb : b + 1 < 2 ^ 20) (c : Int32) : vx_Met l yX6_threshold wsX6_threshold ({ frames := 7, cells := 1, slots := 6, locals := 132 }) (va_Pc [.ref (AD 0), .int c] (tPre D [(cI, .int), (cC, .char), (cD, .object "DoorDialect$Door"), (cR, .object "DoorDialect$House")] nN sa A (cW D cI cC cD cR AD G Sv Hi In Le hs ch ty wy ln ea ra wd))) (gQX ((vSill G c).1) ((vSill G c).2.2.2.1) (cWv D cI cC cD cR AD G Sv Hi In Le hs ch ty wy ln ea ra wd (vSill G c)) A) (xQ (nsF [1, 3]) ((vSill G c).1) (cWv D cI cC cD cR AD G Sv Hi In Le hs ch ty wy ln ea ra wd (vSill G c)) A) 1 6 A := by
  refine nv_metX (cc := cX6_threshold) (maxL := 2) (ret := (some .int)) (by decide) rfl (Nat.le_of_ble_eq_true rfl) ?_
  intro p0 e0 s m0 args below meth c0 Q hq hargs hnA hout hpre ls hl
  obtain ⟨hx, hb, hr, hts, hown, hlocks, hml⟩ := hnA
  obtain ⟨hP, hT⟩ := hpre
  have hK := hT.1
  have hown : s.vm.findClass RX6 = some m0.cls := hown
  obtain ⟨hPo, ⟨u, hR, hk, hPh⟩, hPi, hPs, hPp, hPw, hPt⟩ := hP
  have hPo : va_P D vwCl (cOb AD (hs) (wy) (wd) (ea) (ra)) s.heap := hPo
  have hPh : va_P D vwCl (hw cI cD (cAd AD 1) u) s.heap := hPh
  have hl : lv_has ls 2 [(0, .ref (AD 0)), (1, .int c)] := hl
  have hS : va_S A s.heap s.heap [] := va_S.rf
  have in_X6 : ∀ w ∈ wsX60, w ∈ wsX6_threshold := by decide +kernel
  have fl_10 := hts (.fieldLink RX6 10 "DoorDialect" "house" "LDoorDialect$House;") (by decide +kernel)
  have fl_22 := hts (.fieldLink RX6 22 "DoorDialect" "past" "LDoorDialect$Past;") (by decide +kernel)
  obtain ⟨g_b, g_k, g_0, g_1, g_2, g_e, g_d, g_t, g_y, g_s, g_h⟩ := id hG
  refine lv_aload_n hx hb dX6_threshold_0 rfl (lv_at hl 0 rfl) ?_
  refine lv_iload_n hx hb dX6_threshold_1 rfl (lv_at hl 1 rfl) ?_
  refine nv_kG (va_runV (As := [.int c]) (rest := []) ⟨hx, hb, hml, hown, hts⟩ (c_X6_faultOfThreshold l (A := cRg AD 0 165) (J := cJ9 D cI cC cD cR AD Sv Hi In Le hs ch ty ln) hR hG hI cRg_self cOn_J9 ((c))) (cwV 1 hts gX6_threshold_X6_faultOfThreshold rfl rfl rfl (by decide +kernel) ⟨Nat.le_of_ble_eq_true rfl, Nat.le_of_ble_eq_true rfl⟩) (nt_pVn hT hS (cRg_A hAA (by decide)) ⟨hPo, hPh, hPi, hPs, hPp, hPw, hPt⟩ (va_recv hK.1 hPo (ci := 8) (q0 := 0) rfl rfl)) rfl rfl hl.1 rfl (lv_room (Nat.le_of_ble_eq_true rfl)) dX6_threshold_2 ⟨Nat.le_of_ble_eq_true rfl, Nat.le_of_ble_eq_true rfl⟩) hS (cRg_A hAA (by decide)) (fun H locs hP1 hK1 hS => ?_)
  obtain ⟨hPo, hPh, hPi, hPs, hPp, hPw, hPt⟩ := hP1
  have hPo : va_P D vwCl (cOb AD (hs) (vWy (vSill G ((c))) (wy)) (vWd (vSill G ((c))) (wd)) (ea) (ra)) H := hPo
  have hfc := fC_ok (n := (vSill G ((c))).1) fOk_13 (vSill_n2 _ _)
  refine nv_kGXv (vx_runS (As := [.int (nI (fC [1, 3] (vSill G ((c))).1))]) (rest := []) ⟨hx, hb, hml, hown, hts⟩ (c_X6_throwFault l hl9 (A := fun _ => False) (J := cJ D cI cC cD cR AD u Sv Hi In Le hs ch ty (vWy (vSill G ((c))) (wy)) ln ea ra (vWd (vSill G ((c))) (wd))) (fun _ _ h9 h8 => h8.grow h9) (fC [1, 3] (vSill G ((c))).1) hfc.1) (va_cwS 1 hts gX6_threshold_X6_throwFault rfl rfl rfl (by decide +kernel) ⟨Nat.le_of_ble_eq_true rfl, Nat.le_of_ble_eq_true rfl⟩) (nt_pSn hT hS (fun _ h9 => h9.elim) ⟨hPo, hPh, hPi, hPs, hPp, hPw, hPt⟩) rfl rfl hl.1 rfl (lv_room (Nat.le_of_ble_eq_true rfl)) dX6_threshold_5 ⟨Nat.le_of_ble_eq_true rfl, Nat.le_of_ble_eq_true rfl⟩) hS (fun _ h9 => h9.elim) hq hout hlocks (Nat.le_of_ble_eq_true rfl) (Nat.le_of_ble_eq_true rfl) (fun H h0 hP1 hK1 => ?_) (fun H locs h0 hP1 hK1 hS => ?_)
  · have hn9 : ¬ (vSill G ((c))).1 = 0 := fun q => h0 (hfc.2.1.mpr q)
    exact ⟨hn9, hfc.2.2 hn9, cWv_no hn9 (vSill_G hn9).1 hR hk hP1⟩
  obtain ⟨hPo, hPh, hPi, hPs, hPp, hPw, hPt⟩ := hP1
  have hv0 : (vSill G ((c))).1 = 0 := hfc.2.1.mp h0
  obtain ⟨ck, h_c, rfl, h8, hV⟩ := vSill_ok hv0
  have hPo : va_P D vwCl (cOb AD (hs) (vWy (vSill G (((nI ck)))) (wy)) (vWd (vSill G (((nI ck)))) (wd)) (ea) (ra)) H := hPo
  refine lv_aload_n hx hb dX6_threshold_8 rfl (lv_at hl 0 rfl) ?_
  refine va_get (D := D) (ci := 8) (v := .ref ((cAd AD 29) 0)) (C := RX6) (T := TX6) (N := 11) hx hb hts in_X6 hown hK.1 hPo 0 rfl rfl 2 (by decide) fl_22 (fun _ h9 => h9) rfl dX6_threshold_9 ?_
  refine lv_aload_n hx hb dX6_threshold_12 rfl (lv_at hl 0 rfl) ?_
  refine va_get (D := D) (ci := 8) (v := .ref ((cAd AD 1) 0)) (C := RX6) (T := TX6) (N := 11) hx hb hts in_X6 hown hK.1 hPo 0 rfl rfl 0 (by decide) fl_10 (fun _ h9 => h9) rfl dX6_threshold_13 ?_
  refine nv_kGv (va_runV (As := [.ref ((cAd AD 1) 0)]) (rest := []) ⟨hx, hb, hml, hown, hts⟩ (c_X3_add l (A := fun q => cRg AD 1 15 q ∨ cRg AD 29 157 q) (fun _ h => h) hI hch hHw ⟨by omega, by omega, by omega⟩ hR hk) (cwV 1 hts gX6_threshold_X3_add rfl rfl rfl (by decide +kernel) ⟨Nat.le_of_ble_eq_true rfl, Nat.le_of_ble_eq_true rfl⟩) (nt_pVn hT hS (fun q h => h.elim (cRg_A hAA (by decide) q) (cRg_A hAA (by decide) q)) ⟨hPp, hPh⟩ (cPa.recv hK.1 hPp)) rfl rfl hl.1 rfl (lv_room (Nat.le_of_ble_eq_true rfl)) dX6_threshold_16 ⟨Nat.le_of_ble_eq_true rfl, Nat.le_of_ble_eq_true rfl⟩) hS (fun q h => h.elim (cRg_A hAA (by decide) q) (cRg_A hAA (by decide) q)) (fun H locs hP1 hK1 hS => ?_)
  obtain ⟨hPp, hPh⟩ := hP1
  have hPo := cOn_Ob.keepU hI hK1 hPo (by decide)
  have hPs := cOn_Sv.keepU hI hK1 hPs (by decide)
  have hPw := cOn_Wk.keepU hI hK1 hPw (by decide)
  have hPt := cOn_Tx.keepU hI hK1 hPt (by decide)
  have hPi := cOn_In.keepU hI hK1 hPi (by decide)
  refine lv_aload_n hx hb dX6_threshold_19 rfl (lv_at hl 0 rfl) ?_
  refine va_get (D := D) (ci := 8) (v := .ref ((cAd AD 1) 0)) (C := RX6) (T := TX6) (N := 11) hx hb hts in_X6 hown hK.1 hPo 0 rfl rfl 0 (by decide) fl_10 (fun _ h9 => h9) rfl dX6_threshold_20 ?_
  refine lv_iload_n hx hb dX6_threshold_23 rfl (lv_at hl 1 rfl) ?_
  refine nv_kG (va_runV (As := [.int (nI ck)]) (rest := []) ⟨hx, hb, hml, hown, hts⟩ (c_X1_addThreshold l hR hG hk (fun _ => cD_of hI (cAt_hw 1) (by decide)) ck (by omega)) (cwV 1 hts gX6_threshold_X1_addThreshold rfl rfl rfl (by decide +kernel) ⟨Nat.le_of_ble_eq_true rfl, Nat.le_of_ble_eq_true rfl⟩) (nt_pVn hT hS (cRg_A hAA (by decide)) hPh (va_recv hK.1 hPh (ci := 3) (q0 := 0) rfl rfl)) rfl rfl hl.1 rfl (lv_room (Nat.le_of_ble_eq_true rfl)) dX6_threshold_24 ⟨Nat.le_of_ble_eq_true rfl, Nat.le_of_ble_eq_true rfl⟩) hS (cRg_A hAA (by decide)) (fun H locs hP1 hK1 hS => ?_)
  obtain ⟨u, hR, hk, hPh⟩ := hP1
  have hPo := cOn_Ob.keep hI hK1 hPo (Or.inl (by decide)) (by decide) (by decide)
  have hPs := cOn_Sv.keep hI hK1 hPs (Or.inr (by decide)) (by decide) (by decide)
  have hPp := cOn_Pa.keep hI hK1 hPp (Or.inr (by decide)) (by decide) (by decide)
  have hPw := cOn_Wk.keep hI hK1 hPw (Or.inr (by decide)) (by decide) (by decide)
  have hPt := cOn_Tx.keep hI hK1 hPt (Or.inr (by decide)) (by decide) (by decide)
  have hPi := cOn_In.keep hI hK1 hPi (Or.inr (by decide)) (by decide) (by decide)
  exact nv_retGX hq hx hb hr hlocks (Nat.le_of_ble_eq_true rfl) (Nat.le_of_ble_eq_true rfl) (nar_i _) (hv0) (by rw [hV]; rfl) hS (cWv_ok hV ⟨u, hR, hk, hPh⟩ hPo hPi hPs hPp hPw hPt) dX6_threshold_27

set_option maxHeartbeats 1000000 in
set_option maxRecDepth 100000 in
theorem c_X6_govern (l : Launch) (hl9 : l.stackTraces = false) {D : va_G} {cI cC cD cR : ClassId} {sa : sA} {A : Nat → Prop} {AD : Nat → Nat} {G Sv Hi In Le : Nat → Nat} {b hs ch ty wy ln : Nat} {ea ra wd : Int32} (hG : gWf b G) (hI : cInj AD) (hAA : ∀ i, i < 165 → A (AD i)) (hch : ch ≤ 8) (hHw : ∀ j, j < ch → hAt Hi j 0 ≤ 8 ∧ hAt Hi j 1 ≤ 6 ∧ hAt Hi j 2 ≤ 5) (h25 : 25 ≤ b) (hbb : b + 1 < 2 ^ 20) (t c : Int32) : vx_Met l yX6_govern wsX6_govern ({ frames := 7, cells := 1, slots := 6, locals := 132 }) (va_Pc [.ref (AD 0), .int t, .int c] (tPre D [(cI, .int), (cC, .char), (cD, .object "DoorDialect$Door"), (cR, .object "DoorDialect$House")] nN sa A (cW D cI cC cD cR AD G Sv Hi In Le hs ch ty wy ln ea ra wd))) (gQX ((vGovern G t c).1) ((vGovern G t c).2.2.2.1) (cWv D cI cC cD cR AD G Sv Hi In Le hs ch ty wy ln ea ra wd (vGovern G t c)) A) (xQ (nsF [2, 1, 3]) ((vGovern G t c).1) (cWv D cI cC cD cR AD G Sv Hi In Le hs ch ty wy ln ea ra wd (vGovern G t c)) A) 1 6 A := by
  refine nv_metX (cc := cX6_govern) (maxL := 3) (ret := (some .int)) (by decide) rfl (Nat.le_of_ble_eq_true rfl) ?_
  intro p0 e0 s m0 args below meth c0 Q hq hargs hnA hout hpre ls hl
  obtain ⟨hx, hb, hr, hts, hown, hlocks, hml⟩ := hnA
  obtain ⟨hP, hT⟩ := hpre
  have hK := hT.1
  have hown : s.vm.findClass RX6 = some m0.cls := hown
  obtain ⟨hPo, ⟨u, hR, hk, hPh⟩, hPi, hPs, hPp, hPw, hPt⟩ := hP
  have hPo : va_P D vwCl (cOb AD (hs) (wy) (wd) (ea) (ra)) s.heap := hPo
  have hPh : va_P D vwCl (hw cI cD (cAd AD 1) u) s.heap := hPh
  have hl : lv_has ls 3 [(0, .ref (AD 0)), (1, .int t), (2, .int c)] := hl
  have hS : va_S A s.heap s.heap [] := va_S.rf
  have in_X6 : ∀ w ∈ wsX60, w ∈ wsX6_govern := by decide +kernel
  have fl_10 := hts (.fieldLink RX6 10 "DoorDialect" "house" "LDoorDialect$House;") (by decide +kernel)
  have fl_22 := hts (.fieldLink RX6 22 "DoorDialect" "past" "LDoorDialect$Past;") (by decide +kernel)
  obtain ⟨g_b, g_k, g_0, g_1, g_2, g_e, g_d, g_t, g_y, g_s, g_h⟩ := id hG
  refine lv_aload_n hx hb dX6_govern_0 rfl (lv_at hl 0 rfl) ?_
  refine lv_iload_n hx hb dX6_govern_1 rfl (lv_at hl 1 rfl) ?_
  refine lv_iload_n hx hb dX6_govern_2 rfl (lv_at hl 2 rfl) ?_
  refine nv_kG (va_runV (As := [.int t, .int c]) (rest := []) ⟨hx, hb, hml, hown, hts⟩ (c_X6_faultOfGovern l (A := cRg AD 0 165) (J := cJ9 D cI cC cD cR AD Sv Hi In Le hs ch ty ln) hR hG hI cRg_self cOn_J9 ((t)) ((c))) (cwV 2 hts gX6_govern_X6_faultOfGovern rfl rfl rfl (by decide +kernel) ⟨Nat.le_of_ble_eq_true rfl, Nat.le_of_ble_eq_true rfl⟩) (nt_pVn hT hS (cRg_A hAA (by decide)) ⟨hPo, hPh, hPi, hPs, hPp, hPw, hPt⟩ (va_recv hK.1 hPo (ci := 8) (q0 := 0) rfl rfl)) rfl rfl hl.1 rfl (lv_room (Nat.le_of_ble_eq_true rfl)) dX6_govern_3 ⟨Nat.le_of_ble_eq_true rfl, Nat.le_of_ble_eq_true rfl⟩) hS (cRg_A hAA (by decide)) (fun H locs hP1 hK1 hS => ?_)
  obtain ⟨hPo, hPh, hPi, hPs, hPp, hPw, hPt⟩ := hP1
  have hPo : va_P D vwCl (cOb AD (hs) (vWy (vGovern G ((t)) ((c))) (wy)) (vWd (vGovern G ((t)) ((c))) (wd)) (ea) (ra)) H := hPo
  have hfc := fC_ok (n := (vGovern G ((t)) ((c))).1) fOk_213 (vGovern_n _ _ _)
  refine nv_kGXv (vx_runS (As := [.int (nI (fC [2, 1, 3] (vGovern G ((t)) ((c))).1))]) (rest := []) ⟨hx, hb, hml, hown, hts⟩ (c_X6_throwFault l hl9 (A := fun _ => False) (J := cJ D cI cC cD cR AD u Sv Hi In Le hs ch ty (vWy (vGovern G ((t)) ((c))) (wy)) ln ea ra (vWd (vGovern G ((t)) ((c))) (wd))) (fun _ _ h9 h8 => h8.grow h9) (fC [2, 1, 3] (vGovern G ((t)) ((c))).1) hfc.1) (va_cwS 1 hts gX6_govern_X6_throwFault rfl rfl rfl (by decide +kernel) ⟨Nat.le_of_ble_eq_true rfl, Nat.le_of_ble_eq_true rfl⟩) (nt_pSn hT hS (fun _ h9 => h9.elim) ⟨hPo, hPh, hPi, hPs, hPp, hPw, hPt⟩) rfl rfl hl.1 rfl (lv_room (Nat.le_of_ble_eq_true rfl)) dX6_govern_6 ⟨Nat.le_of_ble_eq_true rfl, Nat.le_of_ble_eq_true rfl⟩) hS (fun _ h9 => h9.elim) hq hout hlocks (Nat.le_of_ble_eq_true rfl) (Nat.le_of_ble_eq_true rfl) (fun H h0 hP1 hK1 => ?_) (fun H locs h0 hP1 hK1 hS => ?_)
  · have hn9 : ¬ (vGovern G ((t)) ((c))).1 = 0 := fun q => h0 (hfc.2.1.mpr q)
    exact ⟨hn9, hfc.2.2 hn9, cWv_no hn9 (vGovern_G hn9).1 hR hk hP1⟩
  obtain ⟨hPo, hPh, hPi, hPs, hPp, hPw, hPt⟩ := hP1
  have hv0 : (vGovern G ((t)) ((c))).1 = 0 := hfc.2.1.mp h0
  obtain ⟨tk, ck, h_t, h_c, rfl, rfl, _, hV⟩ := vGovern_ok hv0 (by omega)
  have hPo : va_P D vwCl (cOb AD (hs) (vWy (vGovern G (((nI tk))) (((nI ck)))) (wy)) (vWd (vGovern G (((nI tk))) (((nI ck)))) (wd)) (ea) (ra)) H := hPo
  refine lv_aload_n hx hb dX6_govern_9 rfl (lv_at hl 0 rfl) ?_
  refine va_get (D := D) (ci := 8) (v := .ref ((cAd AD 29) 0)) (C := RX6) (T := TX6) (N := 11) hx hb hts in_X6 hown hK.1 hPo 0 rfl rfl 2 (by decide) fl_22 (fun _ h9 => h9) rfl dX6_govern_10 ?_
  refine lv_aload_n hx hb dX6_govern_13 rfl (lv_at hl 0 rfl) ?_
  refine va_get (D := D) (ci := 8) (v := .ref ((cAd AD 1) 0)) (C := RX6) (T := TX6) (N := 11) hx hb hts in_X6 hown hK.1 hPo 0 rfl rfl 0 (by decide) fl_10 (fun _ h9 => h9) rfl dX6_govern_14 ?_
  refine nv_kGv (va_runV (As := [.ref ((cAd AD 1) 0)]) (rest := []) ⟨hx, hb, hml, hown, hts⟩ (c_X3_add l (A := fun q => cRg AD 1 15 q ∨ cRg AD 29 157 q) (fun _ h => h) hI hch hHw ⟨by omega, by omega, by omega⟩ hR hk) (cwV 1 hts gX6_govern_X3_add rfl rfl rfl (by decide +kernel) ⟨Nat.le_of_ble_eq_true rfl, Nat.le_of_ble_eq_true rfl⟩) (nt_pVn hT hS (fun q h => h.elim (cRg_A hAA (by decide) q) (cRg_A hAA (by decide) q)) ⟨hPp, hPh⟩ (cPa.recv hK.1 hPp)) rfl rfl hl.1 rfl (lv_room (Nat.le_of_ble_eq_true rfl)) dX6_govern_17 ⟨Nat.le_of_ble_eq_true rfl, Nat.le_of_ble_eq_true rfl⟩) hS (fun q h => h.elim (cRg_A hAA (by decide) q) (cRg_A hAA (by decide) q)) (fun H locs hP1 hK1 hS => ?_)
  obtain ⟨hPp, hPh⟩ := hP1
  have hPo := cOn_Ob.keepU hI hK1 hPo (by decide)
  have hPs := cOn_Sv.keepU hI hK1 hPs (by decide)
  have hPw := cOn_Wk.keepU hI hK1 hPw (by decide)
  have hPt := cOn_Tx.keepU hI hK1 hPt (by decide)
  have hPi := cOn_In.keepU hI hK1 hPi (by decide)
  refine lv_aload_n hx hb dX6_govern_20 rfl (lv_at hl 0 rfl) ?_
  refine va_get (D := D) (ci := 8) (v := .ref ((cAd AD 1) 0)) (C := RX6) (T := TX6) (N := 11) hx hb hts in_X6 hown hK.1 hPo 0 rfl rfl 0 (by decide) fl_10 (fun _ h9 => h9) rfl dX6_govern_21 ?_
  refine lv_iload_n hx hb dX6_govern_24 rfl (lv_at hl 1 rfl) ?_
  refine lv_iload_n hx hb dX6_govern_25 rfl (lv_at hl 2 rfl) ?_
  refine nv_kG (va_runV (As := [.int (nI tk), .int (nI ck)]) (rest := []) ⟨hx, hb, hml, hown, hts⟩ (c_X1_changeGoverned l hR hG hk (fun _ => cD_of hI (cAt_hw 1) (by decide)) tk ck (by omega)) (cwV 2 hts gX6_govern_X1_changeGoverned rfl rfl rfl (by decide +kernel) ⟨Nat.le_of_ble_eq_true rfl, Nat.le_of_ble_eq_true rfl⟩) (nt_pVn hT hS (cRg_A hAA (by decide)) hPh (va_recv hK.1 hPh (ci := 3) (q0 := 0) rfl rfl)) rfl rfl hl.1 rfl (lv_room (Nat.le_of_ble_eq_true rfl)) dX6_govern_26 ⟨Nat.le_of_ble_eq_true rfl, Nat.le_of_ble_eq_true rfl⟩) hS (cRg_A hAA (by decide)) (fun H locs hP1 hK1 hS => ?_)
  obtain ⟨u, hR, hk, hPh⟩ := hP1
  have hPo := cOn_Ob.keep hI hK1 hPo (Or.inl (by decide)) (by decide) (by decide)
  have hPs := cOn_Sv.keep hI hK1 hPs (Or.inr (by decide)) (by decide) (by decide)
  have hPp := cOn_Pa.keep hI hK1 hPp (Or.inr (by decide)) (by decide) (by decide)
  have hPw := cOn_Wk.keep hI hK1 hPw (Or.inr (by decide)) (by decide) (by decide)
  have hPt := cOn_Tx.keep hI hK1 hPt (Or.inr (by decide)) (by decide) (by decide)
  have hPi := cOn_In.keep hI hK1 hPi (Or.inr (by decide)) (by decide) (by decide)
  exact nv_retGX hq hx hb hr hlocks (Nat.le_of_ble_eq_true rfl) (Nat.le_of_ble_eq_true rfl) (nar_i _) (hv0) (by rw [hV]; rfl) hS (cWv_ok hV ⟨u, hR, hk, hPh⟩ hPo hPi hPs hPp hPw hPt) dX6_govern_29

set_option maxHeartbeats 1000000 in
set_option maxRecDepth 100000 in
theorem c_X6_set (l : Launch) (hl9 : l.stackTraces = false) {D : va_G} {cI cC cD cR : ClassId} {sa : sA} {A : Nat → Prop} {AD : Nat → Nat} {G Sv Hi In Le : Nat → Nat} {b hs ch ty wy ln : Nat} {ea ra wd : Int32} (hG : gWf b G) (hI : cInj AD) (hAA : ∀ i, i < 165 → A (AD i)) (hch : ch ≤ 8) (hHw : ∀ j, j < ch → hAt Hi j 0 ≤ 8 ∧ hAt Hi j 1 ≤ 6 ∧ hAt Hi j 2 ≤ 5) (h25 : 25 ≤ b) (hbb : b + 1 < 2 ^ 20) (d t : Int32) : vx_Met l yX6_set wsX6_set ({ frames := 7, cells := 1, slots := 6, locals := 132 }) (va_Pc [.ref (AD 0), .int d, .int t] (tPre D [(cI, .int), (cC, .char), (cD, .object "DoorDialect$Door"), (cR, .object "DoorDialect$House")] nN sa A (cW D cI cC cD cR AD G Sv Hi In Le hs ch ty wy ln ea ra wd))) (gQX ((vSet G d t).1) ((vSet G d t).2.2.2.1) (cWv D cI cC cD cR AD G Sv Hi In Le hs ch ty wy ln ea ra wd (vSet G d t)) A) (xQ (nsF [2, 3]) ((vSet G d t).1) (cWv D cI cC cD cR AD G Sv Hi In Le hs ch ty wy ln ea ra wd (vSet G d t)) A) 1 6 A := by
  refine nv_metX (cc := cX6_set) (maxL := 3) (ret := (some .int)) (by decide) rfl (Nat.le_of_ble_eq_true rfl) ?_
  intro p0 e0 s m0 args below meth c0 Q hq hargs hnA hout hpre ls hl
  obtain ⟨hx, hb, hr, hts, hown, hlocks, hml⟩ := hnA
  obtain ⟨hP, hT⟩ := hpre
  have hK := hT.1
  have hown : s.vm.findClass RX6 = some m0.cls := hown
  obtain ⟨hPo, ⟨u, hR, hk, hPh⟩, hPi, hPs, hPp, hPw, hPt⟩ := hP
  have hPo : va_P D vwCl (cOb AD (hs) (wy) (wd) (ea) (ra)) s.heap := hPo
  have hPh : va_P D vwCl (hw cI cD (cAd AD 1) u) s.heap := hPh
  have hl : lv_has ls 3 [(0, .ref (AD 0)), (1, .int d), (2, .int t)] := hl
  have hS : va_S A s.heap s.heap [] := va_S.rf
  have in_X6 : ∀ w ∈ wsX60, w ∈ wsX6_set := by decide +kernel
  have fl_10 := hts (.fieldLink RX6 10 "DoorDialect" "house" "LDoorDialect$House;") (by decide +kernel)
  have fl_22 := hts (.fieldLink RX6 22 "DoorDialect" "past" "LDoorDialect$Past;") (by decide +kernel)
  obtain ⟨g_b, g_k, g_0, g_1, g_2, g_e, g_d, g_t, g_y, g_s, g_h⟩ := id hG
  refine lv_aload_n hx hb dX6_set_0 rfl (lv_at hl 0 rfl) ?_
  refine lv_iload_n hx hb dX6_set_1 rfl (lv_at hl 1 rfl) ?_
  refine lv_iload_n hx hb dX6_set_2 rfl (lv_at hl 2 rfl) ?_
  refine nv_kG (va_runV (As := [.int d, .int t]) (rest := []) ⟨hx, hb, hml, hown, hts⟩ (c_X6_faultOfSet l (A := cRg AD 0 165) (J := cJ9 D cI cC cD cR AD Sv Hi In Le hs ch ty ln) hR hG hI cRg_self cOn_J9 ((d)) ((t))) (cwV 2 hts gX6_set_X6_faultOfSet rfl rfl rfl (by decide +kernel) ⟨Nat.le_of_ble_eq_true rfl, Nat.le_of_ble_eq_true rfl⟩) (nt_pVn hT hS (cRg_A hAA (by decide)) ⟨hPo, hPh, hPi, hPs, hPp, hPw, hPt⟩ (va_recv hK.1 hPo (ci := 8) (q0 := 0) rfl rfl)) rfl rfl hl.1 rfl (lv_room (Nat.le_of_ble_eq_true rfl)) dX6_set_3 ⟨Nat.le_of_ble_eq_true rfl, Nat.le_of_ble_eq_true rfl⟩) hS (cRg_A hAA (by decide)) (fun H locs hP1 hK1 hS => ?_)
  obtain ⟨hPo, hPh, hPi, hPs, hPp, hPw, hPt⟩ := hP1
  have hPo : va_P D vwCl (cOb AD (hs) (vWy (vSet G ((d)) ((t))) (wy)) (vWd (vSet G ((d)) ((t))) (wd)) (ea) (ra)) H := hPo
  have hfc := fC_ok (n := (vSet G ((d)) ((t))).1) fOk_23 (vSet_n2 _ _ _)
  refine nv_kGXv (vx_runS (As := [.int (nI (fC [2, 3] (vSet G ((d)) ((t))).1))]) (rest := []) ⟨hx, hb, hml, hown, hts⟩ (c_X6_throwFault l hl9 (A := fun _ => False) (J := cJ D cI cC cD cR AD u Sv Hi In Le hs ch ty (vWy (vSet G ((d)) ((t))) (wy)) ln ea ra (vWd (vSet G ((d)) ((t))) (wd))) (fun _ _ h9 h8 => h8.grow h9) (fC [2, 3] (vSet G ((d)) ((t))).1) hfc.1) (va_cwS 1 hts gX6_set_X6_throwFault rfl rfl rfl (by decide +kernel) ⟨Nat.le_of_ble_eq_true rfl, Nat.le_of_ble_eq_true rfl⟩) (nt_pSn hT hS (fun _ h9 => h9.elim) ⟨hPo, hPh, hPi, hPs, hPp, hPw, hPt⟩) rfl rfl hl.1 rfl (lv_room (Nat.le_of_ble_eq_true rfl)) dX6_set_6 ⟨Nat.le_of_ble_eq_true rfl, Nat.le_of_ble_eq_true rfl⟩) hS (fun _ h9 => h9.elim) hq hout hlocks (Nat.le_of_ble_eq_true rfl) (Nat.le_of_ble_eq_true rfl) (fun H h0 hP1 hK1 => ?_) (fun H locs h0 hP1 hK1 hS => ?_)
  · have hn9 : ¬ (vSet G ((d)) ((t))).1 = 0 := fun q => h0 (hfc.2.1.mpr q)
    exact ⟨hn9, hfc.2.2 hn9, cWv_no hn9 (vSet_G hn9).1 hR hk hP1⟩
  obtain ⟨hPo, hPh, hPi, hPs, hPp, hPw, hPt⟩ := hP1
  have hv0 : (vSet G ((d)) ((t))).1 = 0 := hfc.2.1.mp h0
  obtain ⟨dk, zk, h_d, h_z, rfl, htz, hV⟩ := vSet_ok hv0 (by omega) (by omega)
  have hPo : va_P D vwCl (cOb AD (hs) (vWy (vSet G (((nI dk))) ((t))) (wy)) (vWd (vSet G (((nI dk))) ((t))) (wd)) (ea) (ra)) H := hPo
  refine lv_aload_n hx hb dX6_set_9 rfl (lv_at hl 0 rfl) ?_
  refine va_get (D := D) (ci := 8) (v := .ref ((cAd AD 29) 0)) (C := RX6) (T := TX6) (N := 11) hx hb hts in_X6 hown hK.1 hPo 0 rfl rfl 2 (by decide) fl_22 (fun _ h9 => h9) rfl dX6_set_10 ?_
  refine lv_aload_n hx hb dX6_set_13 rfl (lv_at hl 0 rfl) ?_
  refine va_get (D := D) (ci := 8) (v := .ref ((cAd AD 1) 0)) (C := RX6) (T := TX6) (N := 11) hx hb hts in_X6 hown hK.1 hPo 0 rfl rfl 0 (by decide) fl_10 (fun _ h9 => h9) rfl dX6_set_14 ?_
  refine nv_kGv (va_runV (As := [.ref ((cAd AD 1) 0)]) (rest := []) ⟨hx, hb, hml, hown, hts⟩ (c_X3_add l (A := fun q => cRg AD 1 15 q ∨ cRg AD 29 157 q) (fun _ h => h) hI hch hHw ⟨by omega, by omega, by omega⟩ hR hk) (cwV 1 hts gX6_set_X3_add rfl rfl rfl (by decide +kernel) ⟨Nat.le_of_ble_eq_true rfl, Nat.le_of_ble_eq_true rfl⟩) (nt_pVn hT hS (fun q h => h.elim (cRg_A hAA (by decide) q) (cRg_A hAA (by decide) q)) ⟨hPp, hPh⟩ (cPa.recv hK.1 hPp)) rfl rfl hl.1 rfl (lv_room (Nat.le_of_ble_eq_true rfl)) dX6_set_17 ⟨Nat.le_of_ble_eq_true rfl, Nat.le_of_ble_eq_true rfl⟩) hS (fun q h => h.elim (cRg_A hAA (by decide) q) (cRg_A hAA (by decide) q)) (fun H locs hP1 hK1 hS => ?_)
  obtain ⟨hPp, hPh⟩ := hP1
  have hPo := cOn_Ob.keepU hI hK1 hPo (by decide)
  have hPs := cOn_Sv.keepU hI hK1 hPs (by decide)
  have hPw := cOn_Wk.keepU hI hK1 hPw (by decide)
  have hPt := cOn_Tx.keepU hI hK1 hPt (by decide)
  have hPi := cOn_In.keepU hI hK1 hPi (by decide)
  refine lv_aload_n hx hb dX6_set_20 rfl (lv_at hl 0 rfl) ?_
  refine va_get (D := D) (ci := 8) (v := .ref ((cAd AD 1) 0)) (C := RX6) (T := TX6) (N := 11) hx hb hts in_X6 hown hK.1 hPo 0 rfl rfl 0 (by decide) fl_10 (fun _ h9 => h9) rfl dX6_set_21 ?_
  refine lv_iload_n hx hb dX6_set_24 rfl (lv_at hl 1 rfl) ?_
  refine lv_iload_n hx hb dX6_set_25 rfl (lv_at hl 2 rfl) ?_
  have hG2 : gWf (b + 1) (va_up G (56 + dk) zk) := by
    have h9 := vWf_vSet (G := G) (d := nI dk) (t := t) hG h25 hbb
    rw [hV] at h9; exact h9
  have hGm := gWf_mono hG (Nat.le_succ b) hbb
  refine nv_kG (va_runV (As := [.int (nI dk), .int t]) (rest := []) ⟨hx, hb, hml, hown, hts⟩ (c_X1_putOn l hR hGm hk (fun _ => cD_of hI (cAt_hw 1) (by decide)) dk zk ((t)) htz (by omega) hG2) (cwV 2 hts gX6_set_X1_putOn rfl rfl rfl (by decide +kernel) ⟨Nat.le_of_ble_eq_true rfl, Nat.le_of_ble_eq_true rfl⟩) (nt_pVn hT hS (cRg_A hAA (by decide)) hPh (va_recv hK.1 hPh (ci := 3) (q0 := 0) rfl rfl)) rfl rfl hl.1 rfl (lv_room (Nat.le_of_ble_eq_true rfl)) dX6_set_26 ⟨Nat.le_of_ble_eq_true rfl, Nat.le_of_ble_eq_true rfl⟩) hS (cRg_A hAA (by decide)) (fun H locs hP1 hK1 hS => ?_)
  obtain ⟨u, hR, hk, hPh⟩ := hP1
  have hPo := cOn_Ob.keep hI hK1 hPo (Or.inl (by decide)) (by decide) (by decide)
  have hPs := cOn_Sv.keep hI hK1 hPs (Or.inr (by decide)) (by decide) (by decide)
  have hPp := cOn_Pa.keep hI hK1 hPp (Or.inr (by decide)) (by decide) (by decide)
  have hPw := cOn_Wk.keep hI hK1 hPw (Or.inr (by decide)) (by decide) (by decide)
  have hPt := cOn_Tx.keep hI hK1 hPt (Or.inr (by decide)) (by decide) (by decide)
  have hPi := cOn_In.keep hI hK1 hPi (Or.inr (by decide)) (by decide) (by decide)
  exact nv_retGX hq hx hb hr hlocks (Nat.le_of_ble_eq_true rfl) (Nat.le_of_ble_eq_true rfl) (nar_i _) (hv0) (by rw [hV]; rfl) hS (cWv_ok hV ⟨u, hR, hk, hPh⟩ hPo hPi hPs hPp hPw hPt) dX6_set_29

set_option maxHeartbeats 1000000 in
set_option maxRecDepth 100000 in
theorem c_X6_tellEnding (l : Launch) (hl9 : l.stackTraces = false) {D : va_G} {cI cC cD cR : ClassId} {sa : sA} {A : Nat → Prop} {AD : Nat → Nat} {G Sv Hi In Le : Nat → Nat} {b hs ch ty wy ln : Nat} {ea ra wd : Int32} (hG : gWf b G) (hI : cInj AD) (hAA : ∀ i, i < 165 → A (AD i)) (hch : ch ≤ 8) (hHw : ∀ j, j < ch → hAt Hi j 0 ≤ 8 ∧ hAt Hi j 1 ≤ 6 ∧ hAt Hi j 2 ≤ 5) (h25 : 25 ≤ b) (hbb : b + 1 < 2 ^ 20) (a c : Int32) (z : Nat) (x : Int32) (hz : z ≤ 1) : vx_Met l yX6_tellEnding wsX6_tellEnding ({ frames := 7, cells := 1, slots := 6, locals := 132 }) (va_Pc [.ref (AD 0), .int a, .int c, .int (nI z), .int x] (tPre D [(cI, .int), (cC, .char), (cD, .object "DoorDialect$Door"), (cR, .object "DoorDialect$House")] nN sa A (cW D cI cC cD cR AD G Sv Hi In Le hs ch ty wy ln ea ra wd))) (gQX ((vTell G a c z x).1) ((vTell G a c z x).2.2.2.1) (cWv D cI cC cD cR AD G Sv Hi In Le hs ch ty wy ln ea ra wd (vTell G a c z x)) A) (xQ (nsF [1, 3]) ((vTell G a c z x).1) (cWv D cI cC cD cR AD G Sv Hi In Le hs ch ty wy ln ea ra wd (vTell G a c z x)) A) 1 6 A := by
  refine nv_metX (cc := cX6_tellEnding) (maxL := 5) (ret := (some .int)) (by decide) rfl (Nat.le_of_ble_eq_true rfl) ?_
  intro p0 e0 s m0 args below meth c0 Q hq hargs hnA hout hpre ls hl
  obtain ⟨hx, hb, hr, hts, hown, hlocks, hml⟩ := hnA
  obtain ⟨hP, hT⟩ := hpre
  have hK := hT.1
  have hown : s.vm.findClass RX6 = some m0.cls := hown
  obtain ⟨hPo, ⟨u, hR, hk, hPh⟩, hPi, hPs, hPp, hPw, hPt⟩ := hP
  have hPo : va_P D vwCl (cOb AD (hs) (wy) (wd) (ea) (ra)) s.heap := hPo
  have hPh : va_P D vwCl (hw cI cD (cAd AD 1) u) s.heap := hPh
  have hl : lv_has ls 5 [(0, .ref (AD 0)), (1, .int a), (2, .int c), (3, .int (nI z)), (4, .int x)] := hl
  have hS : va_S A s.heap s.heap [] := va_S.rf
  have in_X6 : ∀ w ∈ wsX60, w ∈ wsX6_tellEnding := by decide +kernel
  have fl_10 := hts (.fieldLink RX6 10 "DoorDialect" "house" "LDoorDialect$House;") (by decide +kernel)
  have fl_22 := hts (.fieldLink RX6 22 "DoorDialect" "past" "LDoorDialect$Past;") (by decide +kernel)
  obtain ⟨g_b, g_k, g_0, g_1, g_2, g_e, g_d, g_t, g_y, g_s, g_h⟩ := id hG
  refine lv_aload_n hx hb dX6_tellEnding_0 rfl (lv_at hl 0 rfl) ?_
  refine lv_iload_n hx hb dX6_tellEnding_1 rfl (lv_at hl 1 rfl) ?_
  refine lv_iload_n hx hb dX6_tellEnding_2 rfl (lv_at hl 2 rfl) ?_
  refine lv_iload_n hx hb dX6_tellEnding_3 rfl (lv_at hl 3 rfl) ?_
  refine nv_kS (va_runS (As := [.int (nI z)]) (rest := [.int c, .int a, .ref (AD 0)]) ⟨hx, hb, hml, hown, hts⟩ (c_X6_numberOf l z (by first | omega | exact bI_le _)) (va_cwS 1 hts gX6_tellEnding_X6_numberOf rfl rfl rfl (by decide +kernel) ⟨Nat.le_of_ble_eq_true rfl, Nat.le_of_ble_eq_true rfl⟩) (nt_pS hT hS trivial) rfl rfl hl.1 rfl (lv_room (Nat.le_of_ble_eq_true rfl)) dX6_tellEnding_4 ⟨Nat.le_of_ble_eq_true rfl, Nat.le_of_ble_eq_true rfl⟩) ?_
  refine lv_iload hx hb dX6_tellEnding_7 (lv_at hl 4 rfl) ?_
  refine nv_kG (va_runV (As := [.int a, .int c, .int (nI z), .int x]) (rest := []) ⟨hx, hb, hml, hown, hts⟩ (c_X6_faultOfEnding l (A := cRg AD 0 165) (J := cJ9 D cI cC cD cR AD Sv Hi In Le hs ch ty ln) hR hG hI cRg_self cOn_J9 ((a)) ((c)) z ((x)) (by omega)) (cwV 4 hts gX6_tellEnding_X6_faultOfEnding rfl rfl rfl (by decide +kernel) ⟨Nat.le_of_ble_eq_true rfl, Nat.le_of_ble_eq_true rfl⟩) (nt_pVn hT hS (cRg_A hAA (by decide)) ⟨hPo, hPh, hPi, hPs, hPp, hPw, hPt⟩ (va_recv hK.1 hPo (ci := 8) (q0 := 0) rfl rfl)) rfl rfl hl.1 rfl (lv_room (Nat.le_of_ble_eq_true rfl)) dX6_tellEnding_9 ⟨Nat.le_of_ble_eq_true rfl, Nat.le_of_ble_eq_true rfl⟩) hS (cRg_A hAA (by decide)) (fun H locs hP1 hK1 hS => ?_)
  obtain ⟨hPo, hPh, hPi, hPs, hPp, hPw, hPt⟩ := hP1
  have hPo : va_P D vwCl (cOb AD (hs) (vWy (vTell G ((a)) ((c)) z ((x))) (wy)) (vWd (vTell G ((a)) ((c)) z ((x))) (wd)) (ea) (ra)) H := hPo
  have hfc := fC_ok (n := (vTell G ((a)) ((c)) z ((x))).1) fOk_13 (vTell_n2 _ _ _ _ _)
  refine nv_kGXv (vx_runS (As := [.int (nI (fC [1, 3] (vTell G ((a)) ((c)) z ((x))).1))]) (rest := []) ⟨hx, hb, hml, hown, hts⟩ (c_X6_throwFault l hl9 (A := fun _ => False) (J := cJ D cI cC cD cR AD u Sv Hi In Le hs ch ty (vWy (vTell G ((a)) ((c)) z ((x))) (wy)) ln ea ra (vWd (vTell G ((a)) ((c)) z ((x))) (wd))) (fun _ _ h9 h8 => h8.grow h9) (fC [1, 3] (vTell G ((a)) ((c)) z ((x))).1) hfc.1) (va_cwS 1 hts gX6_tellEnding_X6_throwFault rfl rfl rfl (by decide +kernel) ⟨Nat.le_of_ble_eq_true rfl, Nat.le_of_ble_eq_true rfl⟩) (nt_pSn hT hS (fun _ h9 => h9.elim) ⟨hPo, hPh, hPi, hPs, hPp, hPw, hPt⟩) rfl rfl hl.1 rfl (lv_room (Nat.le_of_ble_eq_true rfl)) dX6_tellEnding_12 ⟨Nat.le_of_ble_eq_true rfl, Nat.le_of_ble_eq_true rfl⟩) hS (fun _ h9 => h9.elim) hq hout hlocks (Nat.le_of_ble_eq_true rfl) (Nat.le_of_ble_eq_true rfl) (fun H h0 hP1 hK1 => ?_) (fun H locs h0 hP1 hK1 hS => ?_)
  · have hn9 : ¬ (vTell G ((a)) ((c)) z ((x))).1 = 0 := fun q => h0 (hfc.2.1.mpr q)
    exact ⟨hn9, hfc.2.2 hn9, cWv_no hn9 (vTell_G hn9).1 hR hk hP1⟩
  obtain ⟨hPo, hPh, hPi, hPs, hPp, hPw, hPt⟩ := hP1
  have hv0 : (vTell G ((a)) ((c)) z ((x))).1 = 0 := hfc.2.1.mp h0
  obtain ⟨ak, ck, xk, h_a, h_c, h_x, rfl, rfl, rfl, _, hV⟩ := vTell_ok hv0
  have hPo : va_P D vwCl (cOb AD (hs) (vWy (vTell G (((nI ak))) (((nI ck))) z (((nI xk)))) (wy)) (vWd (vTell G (((nI ak))) (((nI ck))) z (((nI xk)))) (wd)) (ea) (ra)) H := hPo
  refine lv_aload_n hx hb dX6_tellEnding_15 rfl (lv_at hl 0 rfl) ?_
  refine va_get (D := D) (ci := 8) (v := .ref ((cAd AD 29) 0)) (C := RX6) (T := TX6) (N := 11) hx hb hts in_X6 hown hK.1 hPo 0 rfl rfl 2 (by decide) fl_22 (fun _ h9 => h9) rfl dX6_tellEnding_16 ?_
  refine lv_aload_n hx hb dX6_tellEnding_19 rfl (lv_at hl 0 rfl) ?_
  refine va_get (D := D) (ci := 8) (v := .ref ((cAd AD 1) 0)) (C := RX6) (T := TX6) (N := 11) hx hb hts in_X6 hown hK.1 hPo 0 rfl rfl 0 (by decide) fl_10 (fun _ h9 => h9) rfl dX6_tellEnding_20 ?_
  refine nv_kGv (va_runV (As := [.ref ((cAd AD 1) 0)]) (rest := []) ⟨hx, hb, hml, hown, hts⟩ (c_X3_add l (A := fun q => cRg AD 1 15 q ∨ cRg AD 29 157 q) (fun _ h => h) hI hch hHw ⟨by omega, by omega, by omega⟩ hR hk) (cwV 1 hts gX6_tellEnding_X3_add rfl rfl rfl (by decide +kernel) ⟨Nat.le_of_ble_eq_true rfl, Nat.le_of_ble_eq_true rfl⟩) (nt_pVn hT hS (fun q h => h.elim (cRg_A hAA (by decide) q) (cRg_A hAA (by decide) q)) ⟨hPp, hPh⟩ (cPa.recv hK.1 hPp)) rfl rfl hl.1 rfl (lv_room (Nat.le_of_ble_eq_true rfl)) dX6_tellEnding_23 ⟨Nat.le_of_ble_eq_true rfl, Nat.le_of_ble_eq_true rfl⟩) hS (fun q h => h.elim (cRg_A hAA (by decide) q) (cRg_A hAA (by decide) q)) (fun H locs hP1 hK1 hS => ?_)
  obtain ⟨hPp, hPh⟩ := hP1
  have hPo := cOn_Ob.keepU hI hK1 hPo (by decide)
  have hPs := cOn_Sv.keepU hI hK1 hPs (by decide)
  have hPw := cOn_Wk.keepU hI hK1 hPw (by decide)
  have hPt := cOn_Tx.keepU hI hK1 hPt (by decide)
  have hPi := cOn_In.keepU hI hK1 hPi (by decide)
  refine lv_aload_n hx hb dX6_tellEnding_26 rfl (lv_at hl 0 rfl) ?_
  refine va_get (D := D) (ci := 8) (v := .ref ((cAd AD 1) 0)) (C := RX6) (T := TX6) (N := 11) hx hb hts in_X6 hown hK.1 hPo 0 rfl rfl 0 (by decide) fl_10 (fun _ h9 => h9) rfl dX6_tellEnding_27 ?_
  refine lv_iload_n hx hb dX6_tellEnding_30 rfl (lv_at hl 1 rfl) ?_
  refine lv_iload_n hx hb dX6_tellEnding_31 rfl (lv_at hl 2 rfl) ?_
  refine lv_iload_n hx hb dX6_tellEnding_32 rfl (lv_at hl 3 rfl) ?_
  refine nv_kS (va_runS (As := [.int (nI z)]) (rest := [.int (nI ck), .int (nI ak), .ref ((cAd AD 1) 0)]) ⟨hx, hb, hml, hown, hts⟩ (c_X6_numberOf l z (by first | omega | exact bI_le _)) (va_cwS 1 hts gX6_tellEnding_X6_numberOf rfl rfl rfl (by decide +kernel) ⟨Nat.le_of_ble_eq_true rfl, Nat.le_of_ble_eq_true rfl⟩) (nt_pS hT hS trivial) rfl rfl hl.1 rfl (lv_room (Nat.le_of_ble_eq_true rfl)) dX6_tellEnding_33 ⟨Nat.le_of_ble_eq_true rfl, Nat.le_of_ble_eq_true rfl⟩) ?_
  refine lv_iload hx hb dX6_tellEnding_36 (lv_at hl 4 rfl) ?_
  refine nv_kG (va_runV (As := [.int (nI ak), .int (nI ck), .int (nI z), .int (nI xk)]) (rest := []) ⟨hx, hb, hml, hown, hts⟩ (c_X1_changeLetter l hR hG hk (fun _ => cD_of hI (cAt_hw 1) (by decide)) ak ck z xk (by omega) (by omega) (by omega)) (cwV 4 hts gX6_tellEnding_X1_changeLetter rfl rfl rfl (by decide +kernel) ⟨Nat.le_of_ble_eq_true rfl, Nat.le_of_ble_eq_true rfl⟩) (nt_pVn hT hS (cRg_A hAA (by decide)) hPh (va_recv hK.1 hPh (ci := 3) (q0 := 0) rfl rfl)) rfl rfl hl.1 rfl (lv_room (Nat.le_of_ble_eq_true rfl)) dX6_tellEnding_38 ⟨Nat.le_of_ble_eq_true rfl, Nat.le_of_ble_eq_true rfl⟩) hS (cRg_A hAA (by decide)) (fun H locs hP1 hK1 hS => ?_)
  obtain ⟨u, hR, hk, hPh⟩ := hP1
  have hPo := cOn_Ob.keep hI hK1 hPo (Or.inl (by decide)) (by decide) (by decide)
  have hPs := cOn_Sv.keep hI hK1 hPs (Or.inr (by decide)) (by decide) (by decide)
  have hPp := cOn_Pa.keep hI hK1 hPp (Or.inr (by decide)) (by decide) (by decide)
  have hPw := cOn_Wk.keep hI hK1 hPw (Or.inr (by decide)) (by decide) (by decide)
  have hPt := cOn_Tx.keep hI hK1 hPt (Or.inr (by decide)) (by decide) (by decide)
  have hPi := cOn_In.keep hI hK1 hPi (Or.inr (by decide)) (by decide) (by decide)
  exact nv_retGX hq hx hb hr hlocks (Nat.le_of_ble_eq_true rfl) (Nat.le_of_ble_eq_true rfl) (nar_i _) (hv0) (by rw [hV]; rfl) hS (cWv_ok hV ⟨u, hR, hk, hPh⟩ hPo hPi hPs hPp hPw hPt) dX6_tellEnding_41

set_option maxHeartbeats 1000000 in
set_option maxRecDepth 100000 in
theorem c_X6_key (l : Launch) (hl9 : l.stackTraces = false) {D : va_G} {cI cC cD cR : ClassId} {sa : sA} {A : Nat → Prop} {AD : Nat → Nat} {G Sv Hi In Le : Nat → Nat} {b hs ch ty wy ln : Nat} {ea ra wd : Int32} (hG : gWf b G) (hI : cInj AD) (hAA : ∀ i, i < 165 → A (AD i)) (hch : ch ≤ 8) (hHw : ∀ j, j < ch → hAt Hi j 0 ≤ 8 ∧ hAt Hi j 1 ≤ 6 ∧ hAt Hi j 2 ≤ 5) (h25 : 25 ≤ b) (hbb : b + 1 < 2 ^ 20) (a g : Int32) : vx_Met l yX6_key wsX6_key ({ frames := 7, cells := 1, slots := 6, locals := 132 }) (va_Pc [.ref (AD 0), .int a, .int g] (tPre D [(cI, .int), (cC, .char), (cD, .object "DoorDialect$Door"), (cR, .object "DoorDialect$House")] nN sa A (cW D cI cC cD cR AD G Sv Hi In Le hs ch ty wy ln ea ra wd))) (gQX ((vKey G a g).1) ((vKey G a g).2.2.2.1) (cWv D cI cC cD cR AD G Sv Hi In Le hs ch ty wy ln ea ra wd (vKey G a g)) A) (xQ (nsF [1, 3]) ((vKey G a g).1) (cWv D cI cC cD cR AD G Sv Hi In Le hs ch ty wy ln ea ra wd (vKey G a g)) A) 1 6 A := by
  refine nv_metX (cc := cX6_key) (maxL := 3) (ret := (some .int)) (by decide) rfl (Nat.le_of_ble_eq_true rfl) ?_
  intro p0 e0 s m0 args below meth c0 Q hq hargs hnA hout hpre ls hl
  obtain ⟨hx, hb, hr, hts, hown, hlocks, hml⟩ := hnA
  obtain ⟨hP, hT⟩ := hpre
  have hK := hT.1
  have hown : s.vm.findClass RX6 = some m0.cls := hown
  obtain ⟨hPo, ⟨u, hR, hk, hPh⟩, hPi, hPs, hPp, hPw, hPt⟩ := hP
  have hPo : va_P D vwCl (cOb AD (hs) (wy) (wd) (ea) (ra)) s.heap := hPo
  have hPh : va_P D vwCl (hw cI cD (cAd AD 1) u) s.heap := hPh
  have hl : lv_has ls 3 [(0, .ref (AD 0)), (1, .int a), (2, .int g)] := hl
  have hS : va_S A s.heap s.heap [] := va_S.rf
  have in_X6 : ∀ w ∈ wsX60, w ∈ wsX6_key := by decide +kernel
  have fl_10 := hts (.fieldLink RX6 10 "DoorDialect" "house" "LDoorDialect$House;") (by decide +kernel)
  have fl_22 := hts (.fieldLink RX6 22 "DoorDialect" "past" "LDoorDialect$Past;") (by decide +kernel)
  obtain ⟨g_b, g_k, g_0, g_1, g_2, g_e, g_d, g_t, g_y, g_s, g_h⟩ := id hG
  refine lv_aload_n hx hb dX6_key_0 rfl (lv_at hl 0 rfl) ?_
  refine lv_iload_n hx hb dX6_key_1 rfl (lv_at hl 1 rfl) ?_
  refine lv_iload_n hx hb dX6_key_2 rfl (lv_at hl 2 rfl) ?_
  refine nv_kG (va_runV (As := [.int a, .int g]) (rest := []) ⟨hx, hb, hml, hown, hts⟩ (c_X6_faultOfKey l (A := cRg AD 0 165) (J := cJ9 D cI cC cD cR AD Sv Hi In Le hs ch ty ln) hR hG hI cRg_self cOn_J9 ((a)) ((g))) (cwV 2 hts gX6_key_X6_faultOfKey rfl rfl rfl (by decide +kernel) ⟨Nat.le_of_ble_eq_true rfl, Nat.le_of_ble_eq_true rfl⟩) (nt_pVn hT hS (cRg_A hAA (by decide)) ⟨hPo, hPh, hPi, hPs, hPp, hPw, hPt⟩ (va_recv hK.1 hPo (ci := 8) (q0 := 0) rfl rfl)) rfl rfl hl.1 rfl (lv_room (Nat.le_of_ble_eq_true rfl)) dX6_key_3 ⟨Nat.le_of_ble_eq_true rfl, Nat.le_of_ble_eq_true rfl⟩) hS (cRg_A hAA (by decide)) (fun H locs hP1 hK1 hS => ?_)
  obtain ⟨hPo, hPh, hPi, hPs, hPp, hPw, hPt⟩ := hP1
  have hPo : va_P D vwCl (cOb AD (hs) (vWy (vKey G ((a)) ((g))) (wy)) (vWd (vKey G ((a)) ((g))) (wd)) (ea) (ra)) H := hPo
  have hfc := fC_ok (n := (vKey G ((a)) ((g))).1) fOk_13 (vKey_n2 _ _ _)
  refine nv_kGXv (vx_runS (As := [.int (nI (fC [1, 3] (vKey G ((a)) ((g))).1))]) (rest := []) ⟨hx, hb, hml, hown, hts⟩ (c_X6_throwFault l hl9 (A := fun _ => False) (J := cJ D cI cC cD cR AD u Sv Hi In Le hs ch ty (vWy (vKey G ((a)) ((g))) (wy)) ln ea ra (vWd (vKey G ((a)) ((g))) (wd))) (fun _ _ h9 h8 => h8.grow h9) (fC [1, 3] (vKey G ((a)) ((g))).1) hfc.1) (va_cwS 1 hts gX6_key_X6_throwFault rfl rfl rfl (by decide +kernel) ⟨Nat.le_of_ble_eq_true rfl, Nat.le_of_ble_eq_true rfl⟩) (nt_pSn hT hS (fun _ h9 => h9.elim) ⟨hPo, hPh, hPi, hPs, hPp, hPw, hPt⟩) rfl rfl hl.1 rfl (lv_room (Nat.le_of_ble_eq_true rfl)) dX6_key_6 ⟨Nat.le_of_ble_eq_true rfl, Nat.le_of_ble_eq_true rfl⟩) hS (fun _ h9 => h9.elim) hq hout hlocks (Nat.le_of_ble_eq_true rfl) (Nat.le_of_ble_eq_true rfl) (fun H h0 hP1 hK1 => ?_) (fun H locs h0 hP1 hK1 hS => ?_)
  · have hn9 : ¬ (vKey G ((a)) ((g))).1 = 0 := fun q => h0 (hfc.2.1.mpr q)
    exact ⟨hn9, hfc.2.2 hn9, cWv_no hn9 (vKey_G hn9).1 hR hk hP1⟩
  obtain ⟨hPo, hPh, hPi, hPs, hPp, hPw, hPt⟩ := hP1
  have hv0 : (vKey G ((a)) ((g))).1 = 0 := hfc.2.1.mp h0
  obtain ⟨ak, gk, h_a, h_g, rfl, rfl, h8, hV⟩ := vKey_ok hv0
  have hPo : va_P D vwCl (cOb AD (hs) (vWy (vKey G (((nI ak))) (((nI gk)))) (wy)) (vWd (vKey G (((nI ak))) (((nI gk)))) (wd)) (ea) (ra)) H := hPo
  refine lv_aload_n hx hb dX6_key_9 rfl (lv_at hl 0 rfl) ?_
  refine va_get (D := D) (ci := 8) (v := .ref ((cAd AD 29) 0)) (C := RX6) (T := TX6) (N := 11) hx hb hts in_X6 hown hK.1 hPo 0 rfl rfl 2 (by decide) fl_22 (fun _ h9 => h9) rfl dX6_key_10 ?_
  refine lv_aload_n hx hb dX6_key_13 rfl (lv_at hl 0 rfl) ?_
  refine va_get (D := D) (ci := 8) (v := .ref ((cAd AD 1) 0)) (C := RX6) (T := TX6) (N := 11) hx hb hts in_X6 hown hK.1 hPo 0 rfl rfl 0 (by decide) fl_10 (fun _ h9 => h9) rfl dX6_key_14 ?_
  refine nv_kGv (va_runV (As := [.ref ((cAd AD 1) 0)]) (rest := []) ⟨hx, hb, hml, hown, hts⟩ (c_X3_add l (A := fun q => cRg AD 1 15 q ∨ cRg AD 29 157 q) (fun _ h => h) hI hch hHw ⟨by omega, by omega, by omega⟩ hR hk) (cwV 1 hts gX6_key_X3_add rfl rfl rfl (by decide +kernel) ⟨Nat.le_of_ble_eq_true rfl, Nat.le_of_ble_eq_true rfl⟩) (nt_pVn hT hS (fun q h => h.elim (cRg_A hAA (by decide) q) (cRg_A hAA (by decide) q)) ⟨hPp, hPh⟩ (cPa.recv hK.1 hPp)) rfl rfl hl.1 rfl (lv_room (Nat.le_of_ble_eq_true rfl)) dX6_key_17 ⟨Nat.le_of_ble_eq_true rfl, Nat.le_of_ble_eq_true rfl⟩) hS (fun q h => h.elim (cRg_A hAA (by decide) q) (cRg_A hAA (by decide) q)) (fun H locs hP1 hK1 hS => ?_)
  obtain ⟨hPp, hPh⟩ := hP1
  have hPo := cOn_Ob.keepU hI hK1 hPo (by decide)
  have hPs := cOn_Sv.keepU hI hK1 hPs (by decide)
  have hPw := cOn_Wk.keepU hI hK1 hPw (by decide)
  have hPt := cOn_Tx.keepU hI hK1 hPt (by decide)
  have hPi := cOn_In.keepU hI hK1 hPi (by decide)
  refine lv_aload_n hx hb dX6_key_20 rfl (lv_at hl 0 rfl) ?_
  refine va_get (D := D) (ci := 8) (v := .ref ((cAd AD 1) 0)) (C := RX6) (T := TX6) (N := 11) hx hb hts in_X6 hown hK.1 hPo 0 rfl rfl 0 (by decide) fl_10 (fun _ h9 => h9) rfl dX6_key_21 ?_
  refine lv_iload_n hx hb dX6_key_24 rfl (lv_at hl 1 rfl) ?_
  refine lv_iload_n hx hb dX6_key_25 rfl (lv_at hl 2 rfl) ?_
  refine nv_kG (va_runV (As := [.int (nI ak), .int (nI gk)]) (rest := []) ⟨hx, hb, hml, hown, hts⟩ (c_X1_addKey l hR hG hk (fun _ => cD_of hI (cAt_hw 1) (by decide)) ak gk (by omega)) (cwV 2 hts gX6_key_X1_addKey rfl rfl rfl (by decide +kernel) ⟨Nat.le_of_ble_eq_true rfl, Nat.le_of_ble_eq_true rfl⟩) (nt_pVn hT hS (cRg_A hAA (by decide)) hPh (va_recv hK.1 hPh (ci := 3) (q0 := 0) rfl rfl)) rfl rfl hl.1 rfl (lv_room (Nat.le_of_ble_eq_true rfl)) dX6_key_26 ⟨Nat.le_of_ble_eq_true rfl, Nat.le_of_ble_eq_true rfl⟩) hS (cRg_A hAA (by decide)) (fun H locs hP1 hK1 hS => ?_)
  obtain ⟨u, hR, hk, hPh⟩ := hP1
  have hPo := cOn_Ob.keep hI hK1 hPo (Or.inl (by decide)) (by decide) (by decide)
  have hPs := cOn_Sv.keep hI hK1 hPs (Or.inr (by decide)) (by decide) (by decide)
  have hPp := cOn_Pa.keep hI hK1 hPp (Or.inr (by decide)) (by decide) (by decide)
  have hPw := cOn_Wk.keep hI hK1 hPw (Or.inr (by decide)) (by decide) (by decide)
  have hPt := cOn_Tx.keep hI hK1 hPt (Or.inr (by decide)) (by decide) (by decide)
  have hPi := cOn_In.keep hI hK1 hPi (Or.inr (by decide)) (by decide) (by decide)
  exact nv_retGX hq hx hb hr hlocks (Nat.le_of_ble_eq_true rfl) (Nat.le_of_ble_eq_true rfl) (nar_i _) (hv0) (by rw [hV]; rfl) hS (cWv_ok hV ⟨u, hR, hk, hPh⟩ hPo hPi hPs hPp hPw hPt) dX6_key_29

set_option maxHeartbeats 1000000 in
set_option maxRecDepth 100000 in
theorem c_X6_knock (l : Launch) (hl9 : l.stackTraces = false) {D : va_G} {cI cC cD cR : ClassId} {sa : sA} {A : Nat → Prop} {AD : Nat → Nat} {G Sv Hi In Le : Nat → Nat} {b hs ch ty wy ln : Nat} {ea ra wd : Int32} (hG : gWf b G) (hI : cInj AD) (hAA : ∀ i, i < 165 → A (AD i)) (hch : ch ≤ 8) (hHw : ∀ j, j < ch → hAt Hi j 0 ≤ 8 ∧ hAt Hi j 1 ≤ 6 ∧ hAt Hi j 2 ≤ 5) (h25 : 25 ≤ b) (hbb : b + 1 < 2 ^ 20) (d g : Int32) (z : Nat) (c : Int32) (hz : z ≤ 1) : vx_Met l yX6_knock wsX6_knock ({ frames := 7, cells := 1, slots := 6, locals := 132 }) (va_Pc [.ref (AD 0), .int d, .int g, .int (nI z), .int c] (tPre D [(cI, .int), (cC, .char), (cD, .object "DoorDialect$Door"), (cR, .object "DoorDialect$House")] nN sa A (cW D cI cC cD cR AD G Sv Hi In Le hs ch ty wy ln ea ra wd))) (gQX ((vKnock G d g z c).1) ((vKnock G d g z c).2.2.2.1) (cWv D cI cC cD cR AD G Sv Hi In Le hs ch ty wy ln ea ra wd (vKnock G d g z c)) A) (xQ (nsF [2, 1, 3]) ((vKnock G d g z c).1) (cWv D cI cC cD cR AD G Sv Hi In Le hs ch ty wy ln ea ra wd (vKnock G d g z c)) A) 1 6 A := by
  refine nv_metX (cc := cX6_knock) (maxL := 5) (ret := (some .int)) (by decide) rfl (Nat.le_of_ble_eq_true rfl) ?_
  intro p0 e0 s m0 args below meth c0 Q hq hargs hnA hout hpre ls hl
  obtain ⟨hx, hb, hr, hts, hown, hlocks, hml⟩ := hnA
  obtain ⟨hP, hT⟩ := hpre
  have hK := hT.1
  have hown : s.vm.findClass RX6 = some m0.cls := hown
  obtain ⟨hPo, ⟨u, hR, hk, hPh⟩, hPi, hPs, hPp, hPw, hPt⟩ := hP
  have hPo : va_P D vwCl (cOb AD (hs) (wy) (wd) (ea) (ra)) s.heap := hPo
  have hPh : va_P D vwCl (hw cI cD (cAd AD 1) u) s.heap := hPh
  have hl : lv_has ls 5 [(0, .ref (AD 0)), (1, .int d), (2, .int g), (3, .int (nI z)), (4, .int c)] := hl
  have hS : va_S A s.heap s.heap [] := va_S.rf
  have in_X6 : ∀ w ∈ wsX60, w ∈ wsX6_knock := by decide +kernel
  have fl_10 := hts (.fieldLink RX6 10 "DoorDialect" "house" "LDoorDialect$House;") (by decide +kernel)
  have fl_22 := hts (.fieldLink RX6 22 "DoorDialect" "past" "LDoorDialect$Past;") (by decide +kernel)
  obtain ⟨g_b, g_k, g_0, g_1, g_2, g_e, g_d, g_t, g_y, g_s, g_h⟩ := id hG
  refine lv_aload_n hx hb dX6_knock_0 rfl (lv_at hl 0 rfl) ?_
  refine lv_iload_n hx hb dX6_knock_1 rfl (lv_at hl 1 rfl) ?_
  refine lv_iload_n hx hb dX6_knock_2 rfl (lv_at hl 2 rfl) ?_
  refine lv_iload hx hb dX6_knock_3 (lv_at hl 4 rfl) ?_
  refine nv_kG (va_runV (As := [.int d, .int g, .int c]) (rest := []) ⟨hx, hb, hml, hown, hts⟩ (c_X6_faultOfKnock l (A := cRg AD 0 165) (J := cJ9 D cI cC cD cR AD Sv Hi In Le hs ch ty ln) hR hG hI cRg_self cOn_J9 ((d)) ((g)) z ((c))) (cwV 3 hts gX6_knock_X6_faultOfKnock rfl rfl rfl (by decide +kernel) ⟨Nat.le_of_ble_eq_true rfl, Nat.le_of_ble_eq_true rfl⟩) (nt_pVn hT hS (cRg_A hAA (by decide)) ⟨hPo, hPh, hPi, hPs, hPp, hPw, hPt⟩ (va_recv hK.1 hPo (ci := 8) (q0 := 0) rfl rfl)) rfl rfl hl.1 rfl (lv_room (Nat.le_of_ble_eq_true rfl)) dX6_knock_5 ⟨Nat.le_of_ble_eq_true rfl, Nat.le_of_ble_eq_true rfl⟩) hS (cRg_A hAA (by decide)) (fun H locs hP1 hK1 hS => ?_)
  obtain ⟨hPo, hPh, hPi, hPs, hPp, hPw, hPt⟩ := hP1
  have hPo : va_P D vwCl (cOb AD (hs) (vWy (vKnock G ((d)) ((g)) z ((c))) (wy)) (vWd (vKnock G ((d)) ((g)) z ((c))) (wd)) (ea) (ra)) H := hPo
  have hfc := fC_ok (n := (vKnock G ((d)) ((g)) z ((c))).1) fOk_213 (vKnock_n _ _ _ _ _)
  refine nv_kGXv (vx_runS (As := [.int (nI (fC [2, 1, 3] (vKnock G ((d)) ((g)) z ((c))).1))]) (rest := []) ⟨hx, hb, hml, hown, hts⟩ (c_X6_throwFault l hl9 (A := fun _ => False) (J := cJ D cI cC cD cR AD u Sv Hi In Le hs ch ty (vWy (vKnock G ((d)) ((g)) z ((c))) (wy)) ln ea ra (vWd (vKnock G ((d)) ((g)) z ((c))) (wd))) (fun _ _ h9 h8 => h8.grow h9) (fC [2, 1, 3] (vKnock G ((d)) ((g)) z ((c))).1) hfc.1) (va_cwS 1 hts gX6_knock_X6_throwFault rfl rfl rfl (by decide +kernel) ⟨Nat.le_of_ble_eq_true rfl, Nat.le_of_ble_eq_true rfl⟩) (nt_pSn hT hS (fun _ h9 => h9.elim) ⟨hPo, hPh, hPi, hPs, hPp, hPw, hPt⟩) rfl rfl hl.1 rfl (lv_room (Nat.le_of_ble_eq_true rfl)) dX6_knock_8 ⟨Nat.le_of_ble_eq_true rfl, Nat.le_of_ble_eq_true rfl⟩) hS (fun _ h9 => h9.elim) hq hout hlocks (Nat.le_of_ble_eq_true rfl) (Nat.le_of_ble_eq_true rfl) (fun H h0 hP1 hK1 => ?_) (fun H locs h0 hP1 hK1 hS => ?_)
  · have hn9 : ¬ (vKnock G ((d)) ((g)) z ((c))).1 = 0 := fun q => h0 (hfc.2.1.mpr q)
    exact ⟨hn9, hfc.2.2 hn9, cWv_no hn9 (vKnock_G hn9).1 hR hk hP1⟩
  obtain ⟨hPo, hPh, hPi, hPs, hPp, hPw, hPt⟩ := hP1
  have hv0 : (vKnock G ((d)) ((g)) z ((c))).1 = 0 := hfc.2.1.mp h0
  obtain ⟨dk, gk, ck, h_d, h_g, h_c, rfl, rfl, rfl, _, hV⟩ := vKnock_ok hv0 (by omega)
  have hPo : va_P D vwCl (cOb AD (hs) (vWy (vKnock G (((nI dk))) (((nI gk))) z (((nI ck)))) (wy)) (vWd (vKnock G (((nI dk))) (((nI gk))) z (((nI ck)))) (wd)) (ea) (ra)) H := hPo
  refine lv_aload_n hx hb dX6_knock_11 rfl (lv_at hl 0 rfl) ?_
  refine va_get (D := D) (ci := 8) (v := .ref ((cAd AD 29) 0)) (C := RX6) (T := TX6) (N := 11) hx hb hts in_X6 hown hK.1 hPo 0 rfl rfl 2 (by decide) fl_22 (fun _ h9 => h9) rfl dX6_knock_12 ?_
  refine lv_aload_n hx hb dX6_knock_15 rfl (lv_at hl 0 rfl) ?_
  refine va_get (D := D) (ci := 8) (v := .ref ((cAd AD 1) 0)) (C := RX6) (T := TX6) (N := 11) hx hb hts in_X6 hown hK.1 hPo 0 rfl rfl 0 (by decide) fl_10 (fun _ h9 => h9) rfl dX6_knock_16 ?_
  refine nv_kGv (va_runV (As := [.ref ((cAd AD 1) 0)]) (rest := []) ⟨hx, hb, hml, hown, hts⟩ (c_X3_add l (A := fun q => cRg AD 1 15 q ∨ cRg AD 29 157 q) (fun _ h => h) hI hch hHw ⟨by omega, by omega, by omega⟩ hR hk) (cwV 1 hts gX6_knock_X3_add rfl rfl rfl (by decide +kernel) ⟨Nat.le_of_ble_eq_true rfl, Nat.le_of_ble_eq_true rfl⟩) (nt_pVn hT hS (fun q h => h.elim (cRg_A hAA (by decide) q) (cRg_A hAA (by decide) q)) ⟨hPp, hPh⟩ (cPa.recv hK.1 hPp)) rfl rfl hl.1 rfl (lv_room (Nat.le_of_ble_eq_true rfl)) dX6_knock_19 ⟨Nat.le_of_ble_eq_true rfl, Nat.le_of_ble_eq_true rfl⟩) hS (fun q h => h.elim (cRg_A hAA (by decide) q) (cRg_A hAA (by decide) q)) (fun H locs hP1 hK1 hS => ?_)
  obtain ⟨hPp, hPh⟩ := hP1
  have hPo := cOn_Ob.keepU hI hK1 hPo (by decide)
  have hPs := cOn_Sv.keepU hI hK1 hPs (by decide)
  have hPw := cOn_Wk.keepU hI hK1 hPw (by decide)
  have hPt := cOn_Tx.keepU hI hK1 hPt (by decide)
  have hPi := cOn_In.keepU hI hK1 hPi (by decide)
  refine lv_aload_n hx hb dX6_knock_22 rfl (lv_at hl 0 rfl) ?_
  refine va_get (D := D) (ci := 8) (v := .ref ((cAd AD 1) 0)) (C := RX6) (T := TX6) (N := 11) hx hb hts in_X6 hown hK.1 hPo 0 rfl rfl 0 (by decide) fl_10 (fun _ h9 => h9) rfl dX6_knock_23 ?_
  refine lv_iload_n hx hb dX6_knock_26 rfl (lv_at hl 1 rfl) ?_
  refine lv_iload_n hx hb dX6_knock_27 rfl (lv_at hl 2 rfl) ?_
  refine lv_iload_n hx hb dX6_knock_28 rfl (lv_at hl 3 rfl) ?_
  refine nv_kS (va_runS (As := [.int (nI z)]) (rest := [.int (nI gk), .int (nI dk), .ref ((cAd AD 1) 0)]) ⟨hx, hb, hml, hown, hts⟩ (c_X6_numberOf l z (by first | omega | exact bI_le _)) (va_cwS 1 hts gX6_knock_X6_numberOf rfl rfl rfl (by decide +kernel) ⟨Nat.le_of_ble_eq_true rfl, Nat.le_of_ble_eq_true rfl⟩) (nt_pS hT hS trivial) rfl rfl hl.1 rfl (lv_room (Nat.le_of_ble_eq_true rfl)) dX6_knock_29 ⟨Nat.le_of_ble_eq_true rfl, Nat.le_of_ble_eq_true rfl⟩) ?_
  refine lv_iload hx hb dX6_knock_32 (lv_at hl 4 rfl) ?_
  refine nv_kG (va_runV (As := [.int (nI dk), .int (nI gk), .int (nI z), .int (nI ck)]) (rest := []) ⟨hx, hb, hml, hown, hts⟩ (c_X1_hearKnock l hR hG hk (fun _ => cD_of hI (cAt_hw 1) (by decide)) dk gk z ck (by omega) (by omega) (by omega) (by omega)) (cwV 4 hts gX6_knock_X1_hearKnock rfl rfl rfl (by decide +kernel) ⟨Nat.le_of_ble_eq_true rfl, Nat.le_of_ble_eq_true rfl⟩) (nt_pVn hT hS (cRg_A hAA (by decide)) hPh (va_recv hK.1 hPh (ci := 3) (q0 := 0) rfl rfl)) rfl rfl hl.1 rfl (lv_room (Nat.le_of_ble_eq_true rfl)) dX6_knock_34 ⟨Nat.le_of_ble_eq_true rfl, Nat.le_of_ble_eq_true rfl⟩) hS (cRg_A hAA (by decide)) (fun H locs hP1 hK1 hS => ?_)
  obtain ⟨u, hR, hk, hPh⟩ := hP1
  have hPo := cOn_Ob.keep hI hK1 hPo (Or.inl (by decide)) (by decide) (by decide)
  have hPs := cOn_Sv.keep hI hK1 hPs (Or.inr (by decide)) (by decide) (by decide)
  have hPp := cOn_Pa.keep hI hK1 hPp (Or.inr (by decide)) (by decide) (by decide)
  have hPw := cOn_Wk.keep hI hK1 hPw (Or.inr (by decide)) (by decide) (by decide)
  have hPt := cOn_Tx.keep hI hK1 hPt (Or.inr (by decide)) (by decide) (by decide)
  have hPi := cOn_In.keep hI hK1 hPi (Or.inr (by decide)) (by decide) (by decide)
  exact nv_retGX hq hx hb hr hlocks (Nat.le_of_ble_eq_true rfl) (Nat.le_of_ble_eq_true rfl) (nar_i _) (hv0) (by rw [hV]; rfl) hS (cWv_ok hV ⟨u, hR, hk, hPh⟩ hPo hPi hPs hPp hPw hPt) dX6_knock_37

set_option maxHeartbeats 1000000 in
set_option maxRecDepth 100000 in
theorem c_X6_shut (l : Launch) (hl9 : l.stackTraces = false) {D : va_G} {cI cC cD cR : ClassId} {sa : sA} {A : Nat → Prop} {AD : Nat → Nat} {G Sv Hi In Le : Nat → Nat} {b hs ch ty wy ln : Nat} {ea ra wd : Int32} (hG : gWf b G) (hI : cInj AD) (hAA : ∀ i, i < 165 → A (AD i)) (hch : ch ≤ 8) (hHw : ∀ j, j < ch → hAt Hi j 0 ≤ 8 ∧ hAt Hi j 1 ≤ 6 ∧ hAt Hi j 2 ≤ 5) (h25 : 25 ≤ b) (hbb : b + 1 < 2 ^ 20) (d : Int32) : vx_Met l yX6_shut wsX6_shut ({ frames := 7, cells := 1, slots := 6, locals := 132 }) (va_Pc [.ref (AD 0), .int d] (tPre D [(cI, .int), (cC, .char), (cD, .object "DoorDialect$Door"), (cR, .object "DoorDialect$House")] nN sa A (cW D cI cC cD cR AD G Sv Hi In Le hs ch ty wy ln ea ra wd))) (gQX ((vShut G d).1) ((vShut G d).2.2.2.1) (cWv D cI cC cD cR AD G Sv Hi In Le hs ch ty wy ln ea ra wd (vShut G d)) A) (xQ (nsF [2, 3]) ((vShut G d).1) (cWv D cI cC cD cR AD G Sv Hi In Le hs ch ty wy ln ea ra wd (vShut G d)) A) 1 6 A := by
  refine nv_metX (cc := cX6_shut) (maxL := 2) (ret := (some .int)) (by decide) rfl (Nat.le_of_ble_eq_true rfl) ?_
  intro p0 e0 s m0 args below meth c0 Q hq hargs hnA hout hpre ls hl
  obtain ⟨hx, hb, hr, hts, hown, hlocks, hml⟩ := hnA
  obtain ⟨hP, hT⟩ := hpre
  have hK := hT.1
  have hown : s.vm.findClass RX6 = some m0.cls := hown
  obtain ⟨hPo, ⟨u, hR, hk, hPh⟩, hPi, hPs, hPp, hPw, hPt⟩ := hP
  have hPo : va_P D vwCl (cOb AD (hs) (wy) (wd) (ea) (ra)) s.heap := hPo
  have hPh : va_P D vwCl (hw cI cD (cAd AD 1) u) s.heap := hPh
  have hl : lv_has ls 2 [(0, .ref (AD 0)), (1, .int d)] := hl
  have hS : va_S A s.heap s.heap [] := va_S.rf
  have in_X6 : ∀ w ∈ wsX60, w ∈ wsX6_shut := by decide +kernel
  have fl_10 := hts (.fieldLink RX6 10 "DoorDialect" "house" "LDoorDialect$House;") (by decide +kernel)
  have fl_22 := hts (.fieldLink RX6 22 "DoorDialect" "past" "LDoorDialect$Past;") (by decide +kernel)
  obtain ⟨g_b, g_k, g_0, g_1, g_2, g_e, g_d, g_t, g_y, g_s, g_h⟩ := id hG
  refine lv_aload_n hx hb dX6_shut_0 rfl (lv_at hl 0 rfl) ?_
  refine lv_iload_n hx hb dX6_shut_1 rfl (lv_at hl 1 rfl) ?_
  refine nv_kG (va_runV (As := [.int d]) (rest := []) ⟨hx, hb, hml, hown, hts⟩ (c_X6_faultOfShut l (A := cRg AD 0 165) (J := cJ9 D cI cC cD cR AD Sv Hi In Le hs ch ty ln) hR hG hI cRg_self cOn_J9 ((d))) (cwV 1 hts gX6_shut_X6_faultOfShut rfl rfl rfl (by decide +kernel) ⟨Nat.le_of_ble_eq_true rfl, Nat.le_of_ble_eq_true rfl⟩) (nt_pVn hT hS (cRg_A hAA (by decide)) ⟨hPo, hPh, hPi, hPs, hPp, hPw, hPt⟩ (va_recv hK.1 hPo (ci := 8) (q0 := 0) rfl rfl)) rfl rfl hl.1 rfl (lv_room (Nat.le_of_ble_eq_true rfl)) dX6_shut_2 ⟨Nat.le_of_ble_eq_true rfl, Nat.le_of_ble_eq_true rfl⟩) hS (cRg_A hAA (by decide)) (fun H locs hP1 hK1 hS => ?_)
  obtain ⟨hPo, hPh, hPi, hPs, hPp, hPw, hPt⟩ := hP1
  have hPo : va_P D vwCl (cOb AD (hs) (vWy (vShut G ((d))) (wy)) (vWd (vShut G ((d))) (wd)) (ea) (ra)) H := hPo
  have hfc := fC_ok (n := (vShut G ((d))).1) fOk_23 (vShut_n2 _ _)
  refine nv_kGXv (vx_runS (As := [.int (nI (fC [2, 3] (vShut G ((d))).1))]) (rest := []) ⟨hx, hb, hml, hown, hts⟩ (c_X6_throwFault l hl9 (A := fun _ => False) (J := cJ D cI cC cD cR AD u Sv Hi In Le hs ch ty (vWy (vShut G ((d))) (wy)) ln ea ra (vWd (vShut G ((d))) (wd))) (fun _ _ h9 h8 => h8.grow h9) (fC [2, 3] (vShut G ((d))).1) hfc.1) (va_cwS 1 hts gX6_shut_X6_throwFault rfl rfl rfl (by decide +kernel) ⟨Nat.le_of_ble_eq_true rfl, Nat.le_of_ble_eq_true rfl⟩) (nt_pSn hT hS (fun _ h9 => h9.elim) ⟨hPo, hPh, hPi, hPs, hPp, hPw, hPt⟩) rfl rfl hl.1 rfl (lv_room (Nat.le_of_ble_eq_true rfl)) dX6_shut_5 ⟨Nat.le_of_ble_eq_true rfl, Nat.le_of_ble_eq_true rfl⟩) hS (fun _ h9 => h9.elim) hq hout hlocks (Nat.le_of_ble_eq_true rfl) (Nat.le_of_ble_eq_true rfl) (fun H h0 hP1 hK1 => ?_) (fun H locs h0 hP1 hK1 hS => ?_)
  · have hn9 : ¬ (vShut G ((d))).1 = 0 := fun q => h0 (hfc.2.1.mpr q)
    exact ⟨hn9, hfc.2.2 hn9, cWv_no hn9 (vShut_G hn9).1 hR hk hP1⟩
  obtain ⟨hPo, hPh, hPi, hPs, hPp, hPw, hPt⟩ := hP1
  have hv0 : (vShut G ((d))).1 = 0 := hfc.2.1.mp h0
  obtain ⟨dk, h_d, rfl, _, hV⟩ := vShut_ok hv0 (by omega)
  have hPo : va_P D vwCl (cOb AD (hs) (vWy (vShut G (((nI dk)))) (wy)) (vWd (vShut G (((nI dk)))) (wd)) (ea) (ra)) H := hPo
  refine lv_aload_n hx hb dX6_shut_8 rfl (lv_at hl 0 rfl) ?_
  refine va_get (D := D) (ci := 8) (v := .ref ((cAd AD 29) 0)) (C := RX6) (T := TX6) (N := 11) hx hb hts in_X6 hown hK.1 hPo 0 rfl rfl 2 (by decide) fl_22 (fun _ h9 => h9) rfl dX6_shut_9 ?_
  refine lv_aload_n hx hb dX6_shut_12 rfl (lv_at hl 0 rfl) ?_
  refine va_get (D := D) (ci := 8) (v := .ref ((cAd AD 1) 0)) (C := RX6) (T := TX6) (N := 11) hx hb hts in_X6 hown hK.1 hPo 0 rfl rfl 0 (by decide) fl_10 (fun _ h9 => h9) rfl dX6_shut_13 ?_
  refine nv_kGv (va_runV (As := [.ref ((cAd AD 1) 0)]) (rest := []) ⟨hx, hb, hml, hown, hts⟩ (c_X3_add l (A := fun q => cRg AD 1 15 q ∨ cRg AD 29 157 q) (fun _ h => h) hI hch hHw ⟨by omega, by omega, by omega⟩ hR hk) (cwV 1 hts gX6_shut_X3_add rfl rfl rfl (by decide +kernel) ⟨Nat.le_of_ble_eq_true rfl, Nat.le_of_ble_eq_true rfl⟩) (nt_pVn hT hS (fun q h => h.elim (cRg_A hAA (by decide) q) (cRg_A hAA (by decide) q)) ⟨hPp, hPh⟩ (cPa.recv hK.1 hPp)) rfl rfl hl.1 rfl (lv_room (Nat.le_of_ble_eq_true rfl)) dX6_shut_16 ⟨Nat.le_of_ble_eq_true rfl, Nat.le_of_ble_eq_true rfl⟩) hS (fun q h => h.elim (cRg_A hAA (by decide) q) (cRg_A hAA (by decide) q)) (fun H locs hP1 hK1 hS => ?_)
  obtain ⟨hPp, hPh⟩ := hP1
  have hPo := cOn_Ob.keepU hI hK1 hPo (by decide)
  have hPs := cOn_Sv.keepU hI hK1 hPs (by decide)
  have hPw := cOn_Wk.keepU hI hK1 hPw (by decide)
  have hPt := cOn_Tx.keepU hI hK1 hPt (by decide)
  have hPi := cOn_In.keepU hI hK1 hPi (by decide)
  refine lv_aload_n hx hb dX6_shut_19 rfl (lv_at hl 0 rfl) ?_
  refine va_get (D := D) (ci := 8) (v := .ref ((cAd AD 1) 0)) (C := RX6) (T := TX6) (N := 11) hx hb hts in_X6 hown hK.1 hPo 0 rfl rfl 0 (by decide) fl_10 (fun _ h9 => h9) rfl dX6_shut_20 ?_
  refine lv_iload_n hx hb dX6_shut_23 rfl (lv_at hl 1 rfl) ?_
  have hG2 : gWf (b + 1) (va_up G (80 + dk) 0) := by
    have h9 := vWf_vShut (G := G) (d := nI dk) hG h25 hbb
    rw [hV] at h9; exact h9
  have hGm := gWf_mono hG (Nat.le_succ b) hbb
  refine nv_kG (va_runV (As := [.int (nI dk)]) (rest := []) ⟨hx, hb, hml, hown, hts⟩ (c_X1_shutDoor l hR hGm hk (fun _ => cD_of hI (cAt_hw 1) (by decide)) dk (by omega) hG2) (cwV 1 hts gX6_shut_X1_shutDoor rfl rfl rfl (by decide +kernel) ⟨Nat.le_of_ble_eq_true rfl, Nat.le_of_ble_eq_true rfl⟩) (nt_pVn hT hS (cRg_A hAA (by decide)) hPh (va_recv hK.1 hPh (ci := 3) (q0 := 0) rfl rfl)) rfl rfl hl.1 rfl (lv_room (Nat.le_of_ble_eq_true rfl)) dX6_shut_24 ⟨Nat.le_of_ble_eq_true rfl, Nat.le_of_ble_eq_true rfl⟩) hS (cRg_A hAA (by decide)) (fun H locs hP1 hK1 hS => ?_)
  obtain ⟨u, hR, hk, hPh⟩ := hP1
  have hPo := cOn_Ob.keep hI hK1 hPo (Or.inl (by decide)) (by decide) (by decide)
  have hPs := cOn_Sv.keep hI hK1 hPs (Or.inr (by decide)) (by decide) (by decide)
  have hPp := cOn_Pa.keep hI hK1 hPp (Or.inr (by decide)) (by decide) (by decide)
  have hPw := cOn_Wk.keep hI hK1 hPw (Or.inr (by decide)) (by decide) (by decide)
  have hPt := cOn_Tx.keep hI hK1 hPt (Or.inr (by decide)) (by decide) (by decide)
  have hPi := cOn_In.keep hI hK1 hPi (Or.inr (by decide)) (by decide) (by decide)
  exact nv_retGX hq hx hb hr hlocks (Nat.le_of_ble_eq_true rfl) (Nat.le_of_ble_eq_true rfl) (nar_i _) (hv0) (by rw [hV]; rfl) hS (cWv_ok hV ⟨u, hR, hk, hPh⟩ hPo hPi hPs hPp hPw hPt) dX6_shut_27

set_option maxHeartbeats 1000000 in
set_option maxRecDepth 100000 in
theorem c_X6_free (l : Launch) (hl9 : l.stackTraces = false) {D : va_G} {cI cC cD cR : ClassId} {sa : sA} {A : Nat → Prop} {AD : Nat → Nat} {G Sv Hi In Le : Nat → Nat} {b hs ch ty wy ln : Nat} {ea ra wd : Int32} (hG : gWf b G) (hI : cInj AD) (hAA : ∀ i, i < 165 → A (AD i)) (hch : ch ≤ 8) (hHw : ∀ j, j < ch → hAt Hi j 0 ≤ 8 ∧ hAt Hi j 1 ≤ 6 ∧ hAt Hi j 2 ≤ 5) (h25 : 25 ≤ b) (hbb : b + 1 < 2 ^ 20) (k d : Int32) : vx_Met l yX6_free wsX6_free ({ frames := 7, cells := 1, slots := 6, locals := 132 }) (va_Pc [.ref (AD 0), .int k, .int d] (tPre D [(cI, .int), (cC, .char), (cD, .object "DoorDialect$Door"), (cR, .object "DoorDialect$House")] nN sa A (cW D cI cC cD cR AD G Sv Hi In Le hs ch ty wy ln ea ra wd))) (gQX ((vFree G k d).1) ((vFree G k d).2.2.2.1) (cWv D cI cC cD cR AD G Sv Hi In Le hs ch ty wy ln ea ra wd (vFree G k d)) A) (xQ (nsF [2, 3]) ((vFree G k d).1) (cWv D cI cC cD cR AD G Sv Hi In Le hs ch ty wy ln ea ra wd (vFree G k d)) A) 1 6 A := by
  refine nv_metX (cc := cX6_free) (maxL := 3) (ret := (some .int)) (by decide) rfl (Nat.le_of_ble_eq_true rfl) ?_
  intro p0 e0 s m0 args below meth c0 Q hq hargs hnA hout hpre ls hl
  obtain ⟨hx, hb, hr, hts, hown, hlocks, hml⟩ := hnA
  obtain ⟨hP, hT⟩ := hpre
  have hK := hT.1
  have hown : s.vm.findClass RX6 = some m0.cls := hown
  obtain ⟨hPo, ⟨u, hR, hk, hPh⟩, hPi, hPs, hPp, hPw, hPt⟩ := hP
  have hPo : va_P D vwCl (cOb AD (hs) (wy) (wd) (ea) (ra)) s.heap := hPo
  have hPh : va_P D vwCl (hw cI cD (cAd AD 1) u) s.heap := hPh
  have hl : lv_has ls 3 [(0, .ref (AD 0)), (1, .int k), (2, .int d)] := hl
  have hS : va_S A s.heap s.heap [] := va_S.rf
  have in_X6 : ∀ w ∈ wsX60, w ∈ wsX6_free := by decide +kernel
  have fl_10 := hts (.fieldLink RX6 10 "DoorDialect" "house" "LDoorDialect$House;") (by decide +kernel)
  have fl_22 := hts (.fieldLink RX6 22 "DoorDialect" "past" "LDoorDialect$Past;") (by decide +kernel)
  obtain ⟨g_b, g_k, g_0, g_1, g_2, g_e, g_d, g_t, g_y, g_s, g_h⟩ := id hG
  refine lv_aload_n hx hb dX6_free_0 rfl (lv_at hl 0 rfl) ?_
  refine lv_iload_n hx hb dX6_free_1 rfl (lv_at hl 1 rfl) ?_
  refine lv_iload_n hx hb dX6_free_2 rfl (lv_at hl 2 rfl) ?_
  refine nv_kG (va_runV (As := [.int k, .int d]) (rest := []) ⟨hx, hb, hml, hown, hts⟩ (c_X6_faultOfFree l (A := cRg AD 0 165) (J := cJ9 D cI cC cD cR AD Sv Hi In Le hs ch ty ln) hR hG hI cRg_self cOn_J9 ((k)) ((d))) (cwV 2 hts gX6_free_X6_faultOfFree rfl rfl rfl (by decide +kernel) ⟨Nat.le_of_ble_eq_true rfl, Nat.le_of_ble_eq_true rfl⟩) (nt_pVn hT hS (cRg_A hAA (by decide)) ⟨hPo, hPh, hPi, hPs, hPp, hPw, hPt⟩ (va_recv hK.1 hPo (ci := 8) (q0 := 0) rfl rfl)) rfl rfl hl.1 rfl (lv_room (Nat.le_of_ble_eq_true rfl)) dX6_free_3 ⟨Nat.le_of_ble_eq_true rfl, Nat.le_of_ble_eq_true rfl⟩) hS (cRg_A hAA (by decide)) (fun H locs hP1 hK1 hS => ?_)
  obtain ⟨hPo, hPh, hPi, hPs, hPp, hPw, hPt⟩ := hP1
  have hPo : va_P D vwCl (cOb AD (hs) (vWy (vFree G ((k)) ((d))) (wy)) (vWd (vFree G ((k)) ((d))) (wd)) (ea) (ra)) H := hPo
  have hfc := fC_ok (n := (vFree G ((k)) ((d))).1) fOk_23 (vFree_n2 _ _ _)
  refine nv_kGXv (vx_runS (As := [.int (nI (fC [2, 3] (vFree G ((k)) ((d))).1))]) (rest := []) ⟨hx, hb, hml, hown, hts⟩ (c_X6_throwFault l hl9 (A := fun _ => False) (J := cJ D cI cC cD cR AD u Sv Hi In Le hs ch ty (vWy (vFree G ((k)) ((d))) (wy)) ln ea ra (vWd (vFree G ((k)) ((d))) (wd))) (fun _ _ h9 h8 => h8.grow h9) (fC [2, 3] (vFree G ((k)) ((d))).1) hfc.1) (va_cwS 1 hts gX6_free_X6_throwFault rfl rfl rfl (by decide +kernel) ⟨Nat.le_of_ble_eq_true rfl, Nat.le_of_ble_eq_true rfl⟩) (nt_pSn hT hS (fun _ h9 => h9.elim) ⟨hPo, hPh, hPi, hPs, hPp, hPw, hPt⟩) rfl rfl hl.1 rfl (lv_room (Nat.le_of_ble_eq_true rfl)) dX6_free_6 ⟨Nat.le_of_ble_eq_true rfl, Nat.le_of_ble_eq_true rfl⟩) hS (fun _ h9 => h9.elim) hq hout hlocks (Nat.le_of_ble_eq_true rfl) (Nat.le_of_ble_eq_true rfl) (fun H h0 hP1 hK1 => ?_) (fun H locs h0 hP1 hK1 hS => ?_)
  · have hn9 : ¬ (vFree G ((k)) ((d))).1 = 0 := fun q => h0 (hfc.2.1.mpr q)
    exact ⟨hn9, hfc.2.2 hn9, cWv_no hn9 (vFree_G hn9).1 hR hk hP1⟩
  obtain ⟨hPo, hPh, hPi, hPs, hPp, hPw, hPt⟩ := hP1
  have hv0 : (vFree G ((k)) ((d))).1 = 0 := hfc.2.1.mp h0
  obtain ⟨kk, dk, h_k, h_d, rfl, rfl, _, hV⟩ := vFree_ok hv0 (by omega) (by omega)
  have hPo : va_P D vwCl (cOb AD (hs) (vWy (vFree G (((nI kk))) (((nI dk)))) (wy)) (vWd (vFree G (((nI kk))) (((nI dk)))) (wd)) (ea) (ra)) H := hPo
  refine lv_aload_n hx hb dX6_free_9 rfl (lv_at hl 0 rfl) ?_
  refine va_get (D := D) (ci := 8) (v := .ref ((cAd AD 29) 0)) (C := RX6) (T := TX6) (N := 11) hx hb hts in_X6 hown hK.1 hPo 0 rfl rfl 2 (by decide) fl_22 (fun _ h9 => h9) rfl dX6_free_10 ?_
  refine lv_aload_n hx hb dX6_free_13 rfl (lv_at hl 0 rfl) ?_
  refine va_get (D := D) (ci := 8) (v := .ref ((cAd AD 1) 0)) (C := RX6) (T := TX6) (N := 11) hx hb hts in_X6 hown hK.1 hPo 0 rfl rfl 0 (by decide) fl_10 (fun _ h9 => h9) rfl dX6_free_14 ?_
  refine nv_kGv (va_runV (As := [.ref ((cAd AD 1) 0)]) (rest := []) ⟨hx, hb, hml, hown, hts⟩ (c_X3_add l (A := fun q => cRg AD 1 15 q ∨ cRg AD 29 157 q) (fun _ h => h) hI hch hHw ⟨by omega, by omega, by omega⟩ hR hk) (cwV 1 hts gX6_free_X3_add rfl rfl rfl (by decide +kernel) ⟨Nat.le_of_ble_eq_true rfl, Nat.le_of_ble_eq_true rfl⟩) (nt_pVn hT hS (fun q h => h.elim (cRg_A hAA (by decide) q) (cRg_A hAA (by decide) q)) ⟨hPp, hPh⟩ (cPa.recv hK.1 hPp)) rfl rfl hl.1 rfl (lv_room (Nat.le_of_ble_eq_true rfl)) dX6_free_17 ⟨Nat.le_of_ble_eq_true rfl, Nat.le_of_ble_eq_true rfl⟩) hS (fun q h => h.elim (cRg_A hAA (by decide) q) (cRg_A hAA (by decide) q)) (fun H locs hP1 hK1 hS => ?_)
  obtain ⟨hPp, hPh⟩ := hP1
  have hPo := cOn_Ob.keepU hI hK1 hPo (by decide)
  have hPs := cOn_Sv.keepU hI hK1 hPs (by decide)
  have hPw := cOn_Wk.keepU hI hK1 hPw (by decide)
  have hPt := cOn_Tx.keepU hI hK1 hPt (by decide)
  have hPi := cOn_In.keepU hI hK1 hPi (by decide)
  refine lv_aload_n hx hb dX6_free_20 rfl (lv_at hl 0 rfl) ?_
  refine va_get (D := D) (ci := 8) (v := .ref ((cAd AD 1) 0)) (C := RX6) (T := TX6) (N := 11) hx hb hts in_X6 hown hK.1 hPo 0 rfl rfl 0 (by decide) fl_10 (fun _ h9 => h9) rfl dX6_free_21 ?_
  refine lv_iload_n hx hb dX6_free_24 rfl (lv_at hl 2 rfl) ?_
  have hG2 : gWf (b + 1) (gFree G dk) := by
    have h9 := vWf_vFree (G := G) (k := nI kk) (d := nI dk) hG h25 hbb
    rw [hV] at h9; exact h9
  have hGm := gWf_mono hG (Nat.le_succ b) hbb
  refine nv_kG (va_runV (As := [.int (nI dk)]) (rest := []) ⟨hx, hb, hml, hown, hts⟩ (c_X1_freeDoor l hR hGm hk (fun _ => cD_of hI (cAt_hw 1) (by decide)) dk (by omega) hG2) (cwV 1 hts gX6_free_X1_freeDoor rfl rfl rfl (by decide +kernel) ⟨Nat.le_of_ble_eq_true rfl, Nat.le_of_ble_eq_true rfl⟩) (nt_pVn hT hS (cRg_A hAA (by decide)) hPh (va_recv hK.1 hPh (ci := 3) (q0 := 0) rfl rfl)) rfl rfl hl.1 rfl (lv_room (Nat.le_of_ble_eq_true rfl)) dX6_free_25 ⟨Nat.le_of_ble_eq_true rfl, Nat.le_of_ble_eq_true rfl⟩) hS (cRg_A hAA (by decide)) (fun H locs hP1 hK1 hS => ?_)
  obtain ⟨u, hR, hk, hPh⟩ := hP1
  have hPo := cOn_Ob.keep hI hK1 hPo (Or.inl (by decide)) (by decide) (by decide)
  have hPs := cOn_Sv.keep hI hK1 hPs (Or.inr (by decide)) (by decide) (by decide)
  have hPp := cOn_Pa.keep hI hK1 hPp (Or.inr (by decide)) (by decide) (by decide)
  have hPw := cOn_Wk.keep hI hK1 hPw (Or.inr (by decide)) (by decide) (by decide)
  have hPt := cOn_Tx.keep hI hK1 hPt (Or.inr (by decide)) (by decide) (by decide)
  have hPi := cOn_In.keep hI hK1 hPi (Or.inr (by decide)) (by decide) (by decide)
  exact nv_retGX hq hx hb hr hlocks (Nat.le_of_ble_eq_true rfl) (Nat.le_of_ble_eq_true rfl) (nar_i _) (hv0) (by rw [hV]; rfl) hS (cWv_ok hV ⟨u, hR, hk, hPh⟩ hPo hPi hPs hPp hPw hPt) dX6_free_28
