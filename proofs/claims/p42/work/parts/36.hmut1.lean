set_option maxHeartbeats 1000000 in
set_option maxRecDepth 100000 in
theorem c_X1_addDoor (l : Launch) {D : va_G} {cI cC cD cR : ClassId} {sa : sA} {A : Nat → Prop} {ad : Nat → Nat} {u : hS} {G : Nat → Nat} {b : Nat} (hR : hRel u G) (hG : gWf b G) (hk : hOk u) (hD : ∀ v : hS, va_D A (hw cI cD ad v)) (a g n x y : Nat) (h8 : G 0 < 8) : Met l yX1_addDoor wsX1_addDoor ({ frames := 1, cells := 0, slots := 0, locals := 25 }) (va_Pc [.ref (ad 0), .int (nI a), .int (nI g), .int (nI n), .int (nI x), .int (nI y)] (tPre D [(cI, .int), (cC, .char), (cD, .object "DoorDialect$Door"), (cR, .object "DoorDialect$House")] nN sa A (fun H => va_P D vwCl (hw cI cD ad u) H))) (gQ (nI (G 0)) ((hO D cI cD ad (gDoor G a g n x y))) A) 0 0 A := by
  refine nv_met (cc := cX1_addDoor) (maxL := 6) (ret := (some .int)) (by decide) rfl (Nat.le_of_ble_eq_true rfl) ?_
  intro p0 e0 s m0 args below meth c0 Q hq hargs hnA hpre ls hl
  obtain ⟨hx, hb, hr, hts, hown, hlocks, hml⟩ := hnA
  obtain ⟨hP, hT⟩ := hpre
  have hK := hT.1
  have hown : s.vm.findClass RX1 = some m0.cls := hown
  have hP : va_P D vwCl (hw cI cD ad u) s.heap := hP
  have hl : lv_has ls 6 [(0, .ref (ad 0)), (1, .int (nI a)), (2, .int (nI g)), (3, .int (nI n)), (4, .int (nI x)), (5, .int (nI y))] := hl
  have hS : va_S A s.heap s.heap [] := va_S.rf
  have in_X1 : ∀ w ∈ wsX10, w ∈ wsX1_addDoor := by decide +kernel
  have fl_11 := hts (.fieldLink RX1 11 "DoorDialect$House" "doors" "[LDoorDialect$Door;") (by decide +kernel)
  have fl_34 := hts (.fieldLink RX1 34 "DoorDialect$House" "doorCount" "I") (by decide +kernel)
  obtain ⟨g_b, g_k, g_0, g_1, g_2, g_e, g_d, g_t, g_y, g_s, g_h⟩ := id hG
  refine lv_aload_n hx hb dX1_addDoor_0 rfl (lv_at hl 0 rfl) ?_
  refine va_get (D := D) (ci := 3) (v := .ref (ad 1)) (C := RX1) (T := TX1) (N := 12) hx hb hts in_X1 hown hK.1 hP 0 rfl rfl 0 (by decide) fl_11 (fun _ h9 => h9) rfl dX1_addDoor_1 ?_
  refine lv_aload_n hx hb dX1_addDoor_4 rfl (lv_at hl 0 rfl) ?_
  refine va_get (D := D) (ci := 3) (v := .int (nI (hs_c u 0))) (C := RX1) (T := TX1) (N := 12) hx hb hts in_X1 hown hK.1 hP 0 rfl rfl 5 (by decide) fl_34 (fun _ h9 => h9) rfl dX1_addDoor_5 ?_
  refine nv_to (G 0) (congrArg nI hR.c0) ?_
  refine nv_aldq (i := G 0) hx hb hK.1 hP 1 2 rfl rfl (by omega) (by decide) dX1_addDoor_8 ?_
  refine lv_iload_n hx hb dX1_addDoor_9 rfl (lv_at hl 1 rfl) ?_
  refine lv_iload_n hx hb dX1_addDoor_10 rfl (lv_at hl 2 rfl) ?_
  refine lv_iload_n hx hb dX1_addDoor_11 rfl (lv_at hl 3 rfl) ?_
  refine lv_iload hx hb dX1_addDoor_12 (lv_at hl 4 rfl) ?_
  refine lv_iload hx hb dX1_addDoor_14 (lv_at hl 5 rfl) ?_
  refine nv_kGv (va_runV (As := [.int (nI a), .int (nI g), .int (nI n), .int (nI x), .int (nI y)]) (rest := []) ⟨hx, hb, hml, hown, hts⟩ (c_X0_makeNew l hD (G 0) a g n x y (by omega)) (cwV 5 hts gX1_addDoor_X0_makeNew rfl rfl rfl (by decide +kernel) ⟨Nat.le_of_ble_eq_true rfl, Nat.le_of_ble_eq_true rfl⟩) (nt_pV hT hS hP (va_recv hK.1 hP (ci := 2) (q0 := 6 + ((G 0))) rfl (hw_at ((G 0)) (by omega)))) rfl rfl hl.1 rfl (lv_room (Nat.le_of_ble_eq_true rfl)) dX1_addDoor_16 ⟨Nat.zero_le _, Nat.zero_le _⟩) hS (fun _ h9 => h9) (fun H locs hP1 hK1 hS => ?_)
  have hP : va_P D vwCl (hw cI cD ad (hu_d u (G 0) (va_up (va_up (va_up (va_up (va_up (va_up (va_up (va_up (va_up (va_up (hs_d u (G 0)) 0 a) 1 g) 2 n) 3 x) 4 y) 5 0) 6 0) 7 0) 8 0) 9 0))) H := hP1
  refine lv_aload_n hx hb dX1_addDoor_19 rfl (lv_at hl 0 rfl) ?_
  refine lv_dup hx hb dX1_addDoor_20 rfl ?_
  refine va_get (D := D) (ci := 3) (v := .int (nI (hs_c (hu_d u (G 0) (va_up (va_up (va_up (va_up (va_up (va_up (va_up (va_up (va_up (va_up (hs_d u (G 0)) 0 a) 1 g) 2 n) 3 x) 4 y) 5 0) 6 0) 7 0) 8 0) 9 0)) 0))) (C := RX1) (T := TX1) (N := 12) hx hb hts in_X1 hown hK.1 hP 0 rfl rfl 5 (by decide) fl_34 (fun _ h9 => h9) rfl dX1_addDoor_21 ?_
  refine nv_to (G 0) (congrArg nI hR.c0) ?_
  refine lv_iconst (v := nI 1) hx hb dX1_addDoor_24 (by decide) ?_
  refine nv_iadd hx hb dX1_addDoor_25 ?_
  refine va_put (D := D) (ci := 3) (v := .int (nI (G 0 + 1))) (ty := .int) (C := RX1) (T := TX1) (N := 12) hx hb hts in_X1 tyX1 tyX1_ok nmX1 hown hK.1 hP (hD _) hS 0 rfl rfl 5 (by decide) fl_34 (fun _ h9 => h9) rfl (by decide +kernel) rfl rfl (Nat.le_of_ble_eq_true rfl) dX1_addDoor_26 (fun H locs hP _ hS => ?_)
  have hP : va_P D vwCl (hw cI cD ad (hu_c (hu_d u (G 0) (va_up (va_up (va_up (va_up (va_up (va_up (va_up (va_up (va_up (va_up (hs_d u (G 0)) 0 a) 1 g) 2 n) 3 x) 4 y) 5 0) 6 0) 7 0) 8 0) 9 0)) 0 (G 0 + 1))) H := hP
  refine lv_aload_n hx hb dX1_addDoor_29 rfl (lv_at hl 0 rfl) ?_
  refine va_get (D := D) (ci := 3) (v := .int (nI (hs_c (hu_c (hu_d u (G 0) (va_up (va_up (va_up (va_up (va_up (va_up (va_up (va_up (va_up (va_up (hs_d u (G 0)) 0 a) 1 g) 2 n) 3 x) 4 y) 5 0) 6 0) 7 0) 8 0) 9 0)) 0 (G 0 + 1)) 0))) (C := RX1) (T := TX1) (N := 12) hx hb hts in_X1 hown hK.1 hP 0 rfl rfl 5 (by decide) fl_34 (fun _ h9 => h9) rfl dX1_addDoor_30 ?_
  refine nv_to (G 0 + 1) rfl ?_
  refine lv_iconst (v := nI 1) hx hb dX1_addDoor_33 (by decide) ?_
  refine nv_isub hx hb dX1_addDoor_34 (by omega) ?_
  exact nv_retG hq hx hb hr hlocks (nar_i _) (rfl) hS (⟨(hu_c (hu_d u (G 0) (va_up (va_up (va_up (va_up (va_up (va_up (va_up (va_up (va_up (va_up (hs_d u (G 0)) 0 a) 1 g) 2 n) 3 x) 4 y) 5 0) 6 0) 7 0) 8 0) 9 0)) 0 (G 0 + 1)), hR_door hR hG h8 rfl rfl rfl rfl rfl, (show hOk (hu_d u (G 0) (va_up (va_up (va_up (va_up (va_up (va_up (va_up (va_up (va_up (va_up (hs_d u (G 0)) 0 a) 1 g) 2 n) 3 x) 4 y) 5 0) 6 0) 7 0) 8 0) 9 0)) from hOk_f hk (Nat.zero_le _) (Nat.zero_le _)), hP⟩) dX1_addDoor_35

set_option maxHeartbeats 1000000 in
set_option maxRecDepth 100000 in
theorem c_X1_addThreshold (l : Launch) {D : va_G} {cI cC cD cR : ClassId} {sa : sA} {A : Nat → Prop} {ad : Nat → Nat} {u : hS} {G : Nat → Nat} {b : Nat} (hR : hRel u G) (hG : gWf b G) (hk : hOk u) (hD : ∀ v : hS, va_D A (hw cI cD ad v)) (z : Nat) (h6 : G 1 < 6) : Met l yX1_addThreshold wsX1_addThreshold ({ frames := 0, cells := 0, slots := 0, locals := 0 }) (va_Pc [.ref (ad 0), .int (nI z)] (tPre D [(cI, .int), (cC, .char), (cD, .object "DoorDialect$Door"), (cR, .object "DoorDialect$House")] nN sa A (fun H => va_P D vwCl (hw cI cD ad u) H))) (gQ (nI (G 1)) ((hO D cI cD ad (gSill G z))) A) 0 0 A := by
  refine nv_met (cc := cX1_addThreshold) (maxL := 2) (ret := (some .int)) (by decide) rfl (Nat.le_of_ble_eq_true rfl) ?_
  intro p0 e0 s m0 args below meth c0 Q hq hargs hnA hpre ls hl
  obtain ⟨hx, hb, hr, hts, hown, hlocks, hml⟩ := hnA
  obtain ⟨hP, hT⟩ := hpre
  have hK := hT.1
  have hown : s.vm.findClass RX1 = some m0.cls := hown
  have hP : va_P D vwCl (hw cI cD ad u) s.heap := hP
  have hl : lv_has ls 2 [(0, .ref (ad 0)), (1, .int (nI z))] := hl
  have hS : va_S A s.heap s.heap [] := va_S.rf
  have in_X1 : ∀ w ∈ wsX10, w ∈ wsX1_addThreshold := by decide +kernel
  have fl_17 := hts (.fieldLink RX1 17 "DoorDialect$House" "governed" "[I") (by decide +kernel)
  have fl_38 := hts (.fieldLink RX1 38 "DoorDialect$House" "thresholdCount" "I") (by decide +kernel)
  obtain ⟨g_b, g_k, g_0, g_1, g_2, g_e, g_d, g_t, g_y, g_s, g_h⟩ := id hG
  refine lv_aload_n hx hb dX1_addThreshold_0 rfl (lv_at hl 0 rfl) ?_
  refine va_get (D := D) (ci := 3) (v := .ref (ad 2)) (C := RX1) (T := TX1) (N := 12) hx hb hts in_X1 hown hK.1 hP 0 rfl rfl 1 (by decide) fl_17 (fun _ h9 => h9) rfl dX1_addThreshold_1 ?_
  refine lv_aload_n hx hb dX1_addThreshold_4 rfl (lv_at hl 0 rfl) ?_
  refine va_get (D := D) (ci := 3) (v := .int (nI (hs_c u 1))) (C := RX1) (T := TX1) (N := 12) hx hb hts in_X1 hown hK.1 hP 0 rfl rfl 6 (by decide) fl_38 (fun _ h9 => h9) rfl dX1_addThreshold_5 ?_
  refine nv_to (G 1) (congrArg nI hR.c1) ?_
  refine lv_iload_n hx hb dX1_addThreshold_8 rfl (lv_at hl 1 rfl) ?_
  refine nv_gast (i := G 1) (v := z) hx hb hK.1 hP (hD _) hS 2 0 rfl rfl (by omega) (by decide) dX1_addThreshold_9 (fun H locs hP hS => ?_)
  have hP : va_P D vwCl (hw cI cD ad (hu_g u (G 1) z)) H := hP
  refine lv_aload_n hx hb dX1_addThreshold_10 rfl (lv_at hl 0 rfl) ?_
  refine lv_dup hx hb dX1_addThreshold_11 rfl ?_
  refine va_get (D := D) (ci := 3) (v := .int (nI (hs_c (hu_g u (G 1) z) 1))) (C := RX1) (T := TX1) (N := 12) hx hb hts in_X1 hown hK.1 hP 0 rfl rfl 6 (by decide) fl_38 (fun _ h9 => h9) rfl dX1_addThreshold_12 ?_
  refine nv_to (G 1) (congrArg nI hR.c1) ?_
  refine lv_iconst (v := nI 1) hx hb dX1_addThreshold_15 (by decide) ?_
  refine nv_iadd hx hb dX1_addThreshold_16 ?_
  refine va_put (D := D) (ci := 3) (v := .int (nI (G 1 + 1))) (ty := .int) (C := RX1) (T := TX1) (N := 12) hx hb hts in_X1 tyX1 tyX1_ok nmX1 hown hK.1 hP (hD _) hS 0 rfl rfl 6 (by decide) fl_38 (fun _ h9 => h9) rfl (by decide +kernel) rfl rfl (Nat.le_of_ble_eq_true rfl) dX1_addThreshold_17 (fun H locs hP _ hS => ?_)
  have hP : va_P D vwCl (hw cI cD ad (hu_c (hu_g u (G 1) z) 1 (G 1 + 1))) H := hP
  refine lv_aload_n hx hb dX1_addThreshold_20 rfl (lv_at hl 0 rfl) ?_
  refine va_get (D := D) (ci := 3) (v := .int (nI (hs_c (hu_c (hu_g u (G 1) z) 1 (G 1 + 1)) 1))) (C := RX1) (T := TX1) (N := 12) hx hb hts in_X1 hown hK.1 hP 0 rfl rfl 6 (by decide) fl_38 (fun _ h9 => h9) rfl dX1_addThreshold_21 ?_
  refine nv_to (G 1 + 1) rfl ?_
  refine lv_iconst (v := nI 1) hx hb dX1_addThreshold_24 (by decide) ?_
  refine nv_isub hx hb dX1_addThreshold_25 (by omega) ?_
  exact nv_retG hq hx hb hr hlocks (nar_i _) (rfl) hS (⟨_, hR_sill hR (by omega) h6, hk, hP⟩) dX1_addThreshold_26

set_option maxHeartbeats 1000000 in
set_option maxRecDepth 100000 in
theorem c_X1_addKey (l : Launch) {D : va_G} {cI cC cD cR : ClassId} {sa : sA} {A : Nat → Prop} {ad : Nat → Nat} {u : hS} {G : Nat → Nat} {b : Nat} (hR : hRel u G) (hG : gWf b G) (hk : hOk u) (hD : ∀ v : hS, va_D A (hw cI cD ad v)) (a g : Nat) (h5 : G 2 < 5) : Met l yX1_addKey wsX1_addKey ({ frames := 0, cells := 0, slots := 0, locals := 0 }) (va_Pc [.ref (ad 0), .int (nI a), .int (nI g)] (tPre D [(cI, .int), (cC, .char), (cD, .object "DoorDialect$Door"), (cR, .object "DoorDialect$House")] nN sa A (fun H => va_P D vwCl (hw cI cD ad u) H))) (gQ (nI (G 2)) ((hO D cI cD ad (gKey G a g))) A) 0 0 A := by
  refine nv_met (cc := cX1_addKey) (maxL := 3) (ret := (some .int)) (by decide) rfl (Nat.le_of_ble_eq_true rfl) ?_
  intro p0 e0 s m0 args below meth c0 Q hq hargs hnA hpre ls hl
  obtain ⟨hx, hb, hr, hts, hown, hlocks, hml⟩ := hnA
  obtain ⟨hP, hT⟩ := hpre
  have hK := hT.1
  have hown : s.vm.findClass RX1 = some m0.cls := hown
  have hP : va_P D vwCl (hw cI cD ad u) s.heap := hP
  have hl : lv_has ls 3 [(0, .ref (ad 0)), (1, .int (nI a)), (2, .int (nI g))] := hl
  have hS : va_S A s.heap s.heap [] := va_S.rf
  have in_X1 : ∀ w ∈ wsX10, w ∈ wsX1_addKey := by decide +kernel
  have fl_21 := hts (.fieldLink RX1 21 "DoorDialect$House" "keyDeclensions" "[I") (by decide +kernel)
  have fl_24 := hts (.fieldLink RX1 24 "DoorDialect$House" "keyGenders" "[I") (by decide +kernel)
  have fl_41 := hts (.fieldLink RX1 41 "DoorDialect$House" "keyCount" "I") (by decide +kernel)
  obtain ⟨g_b, g_k, g_0, g_1, g_2, g_e, g_d, g_t, g_y, g_s, g_h⟩ := id hG
  refine lv_aload_n hx hb dX1_addKey_0 rfl (lv_at hl 0 rfl) ?_
  refine va_get (D := D) (ci := 3) (v := .ref (ad 3)) (C := RX1) (T := TX1) (N := 12) hx hb hts in_X1 hown hK.1 hP 0 rfl rfl 2 (by decide) fl_21 (fun _ h9 => h9) rfl dX1_addKey_1 ?_
  refine lv_aload_n hx hb dX1_addKey_4 rfl (lv_at hl 0 rfl) ?_
  refine va_get (D := D) (ci := 3) (v := .int (nI (hs_c u 2))) (C := RX1) (T := TX1) (N := 12) hx hb hts in_X1 hown hK.1 hP 0 rfl rfl 7 (by decide) fl_41 (fun _ h9 => h9) rfl dX1_addKey_5 ?_
  refine nv_to (G 2) (congrArg nI hR.c2) ?_
  refine lv_iload_n hx hb dX1_addKey_8 rfl (lv_at hl 1 rfl) ?_
  refine nv_gast (i := G 2) (v := a) hx hb hK.1 hP (hD _) hS 3 0 rfl rfl (by omega) (by decide) dX1_addKey_9 (fun H locs hP hS => ?_)
  have hP : va_P D vwCl (hw cI cD ad (hu_kd u (G 2) a)) H := hP
  refine lv_aload_n hx hb dX1_addKey_10 rfl (lv_at hl 0 rfl) ?_
  refine va_get (D := D) (ci := 3) (v := .ref (ad 4)) (C := RX1) (T := TX1) (N := 12) hx hb hts in_X1 hown hK.1 hP 0 rfl rfl 3 (by decide) fl_24 (fun _ h9 => h9) rfl dX1_addKey_11 ?_
  refine lv_aload_n hx hb dX1_addKey_14 rfl (lv_at hl 0 rfl) ?_
  refine va_get (D := D) (ci := 3) (v := .int (nI (hs_c (hu_kd u (G 2) a) 2))) (C := RX1) (T := TX1) (N := 12) hx hb hts in_X1 hown hK.1 hP 0 rfl rfl 7 (by decide) fl_41 (fun _ h9 => h9) rfl dX1_addKey_15 ?_
  refine nv_to (G 2) (congrArg nI hR.c2) ?_
  refine lv_iload_n hx hb dX1_addKey_18 rfl (lv_at hl 2 rfl) ?_
  refine nv_gast (i := G 2) (v := g) hx hb hK.1 hP (hD _) hS 4 0 rfl rfl (by omega) (by decide) dX1_addKey_19 (fun H locs hP hS => ?_)
  have hP : va_P D vwCl (hw cI cD ad (hu_kg (hu_kd u (G 2) a) (G 2) g)) H := hP
  refine lv_aload_n hx hb dX1_addKey_20 rfl (lv_at hl 0 rfl) ?_
  refine lv_dup hx hb dX1_addKey_21 rfl ?_
  refine va_get (D := D) (ci := 3) (v := .int (nI (hs_c (hu_kg (hu_kd u (G 2) a) (G 2) g) 2))) (C := RX1) (T := TX1) (N := 12) hx hb hts in_X1 hown hK.1 hP 0 rfl rfl 7 (by decide) fl_41 (fun _ h9 => h9) rfl dX1_addKey_22 ?_
  refine nv_to (G 2) (congrArg nI hR.c2) ?_
  refine lv_iconst (v := nI 1) hx hb dX1_addKey_25 (by decide) ?_
  refine nv_iadd hx hb dX1_addKey_26 ?_
  refine va_put (D := D) (ci := 3) (v := .int (nI (G 2 + 1))) (ty := .int) (C := RX1) (T := TX1) (N := 12) hx hb hts in_X1 tyX1 tyX1_ok nmX1 hown hK.1 hP (hD _) hS 0 rfl rfl 7 (by decide) fl_41 (fun _ h9 => h9) rfl (by decide +kernel) rfl rfl (Nat.le_of_ble_eq_true rfl) dX1_addKey_27 (fun H locs hP _ hS => ?_)
  have hP : va_P D vwCl (hw cI cD ad (hu_c (hu_kg (hu_kd u (G 2) a) (G 2) g) 2 (G 2 + 1))) H := hP
  refine lv_aload_n hx hb dX1_addKey_30 rfl (lv_at hl 0 rfl) ?_
  refine va_get (D := D) (ci := 3) (v := .int (nI (hs_c (hu_c (hu_kg (hu_kd u (G 2) a) (G 2) g) 2 (G 2 + 1)) 2))) (C := RX1) (T := TX1) (N := 12) hx hb hts in_X1 hown hK.1 hP 0 rfl rfl 7 (by decide) fl_41 (fun _ h9 => h9) rfl dX1_addKey_31 ?_
  refine nv_to (G 2 + 1) rfl ?_
  refine lv_iconst (v := nI 1) hx hb dX1_addKey_34 (by decide) ?_
  refine nv_isub hx hb dX1_addKey_35 (by omega) ?_
  exact nv_retG hq hx hb hr hlocks (nar_i _) (rfl) hS (⟨_, hR_key hR (by omega) (by omega) h5, hk, hP⟩) dX1_addKey_36

set_option maxHeartbeats 1000000 in
set_option maxRecDepth 100000 in
theorem c_X1_changeGoverned (l : Launch) {D : va_G} {cI cC cD cR : ClassId} {sa : sA} {A : Nat → Prop} {ad : Nat → Nat} {u : hS} {G : Nat → Nat} {b : Nat} (hR : hRel u G) (hG : gWf b G) (hk : hOk u) (hD : ∀ v : hS, va_D A (hw cI cD ad v)) (t z : Nat) (ht : t < G 1) : Met l yX1_changeGoverned wsX1_changeGoverned ({ frames := 0, cells := 0, slots := 0, locals := 0 }) (va_Pc [.ref (ad 0), .int (nI t), .int (nI z)] (tPre D [(cI, .int), (cC, .char), (cD, .object "DoorDialect$Door"), (cR, .object "DoorDialect$House")] nN sa A (fun H => va_P D vwCl (hw cI cD ad u) H))) (gQ (nI (G (112 + t))) ((hO D cI cD ad (va_up G (112 + t) z))) A) 0 0 A := by
  refine nv_met (cc := cX1_changeGoverned) (maxL := 4) (ret := (some .int)) (by decide) rfl (Nat.le_of_ble_eq_true rfl) ?_
  intro p0 e0 s m0 args below meth c0 Q hq hargs hnA hpre ls hl
  obtain ⟨hx, hb, hr, hts, hown, hlocks, hml⟩ := hnA
  obtain ⟨hP, hT⟩ := hpre
  have hK := hT.1
  have hown : s.vm.findClass RX1 = some m0.cls := hown
  have hP : va_P D vwCl (hw cI cD ad u) s.heap := hP
  have hl : lv_has ls 4 [(0, .ref (ad 0)), (1, .int (nI t)), (2, .int (nI z))] := hl
  have hS : va_S A s.heap s.heap [] := va_S.rf
  have in_X1 : ∀ w ∈ wsX10, w ∈ wsX1_changeGoverned := by decide +kernel
  have fl_17 := hts (.fieldLink RX1 17 "DoorDialect$House" "governed" "[I") (by decide +kernel)
  obtain ⟨g_b, g_k, g_0, g_1, g_2, g_e, g_d, g_t, g_y, g_s, g_h⟩ := id hG
  have zq0 : G 0 = G 0 := rfl
  have zq1 : G 1 = G 1 := rfl
  have zq2 : G 2 = G 2 := rfl
  refine lv_aload_n hx hb dX1_changeGoverned_0 rfl (lv_at hl 0 rfl) ?_
  refine va_get (D := D) (ci := 3) (v := .ref (ad 2)) (C := RX1) (T := TX1) (N := 12) hx hb hts in_X1 hown hK.1 hP 0 rfl rfl 1 (by decide) fl_17 (fun _ h9 => h9) rfl dX1_changeGoverned_1 ?_
  refine lv_iload_n hx hb dX1_changeGoverned_4 rfl (lv_at hl 1 rfl) ?_
  refine nv_gald (i := t) hx hb hK.1 hP 2 0 rfl rfl (by omega) (by decide) dX1_changeGoverned_5 ?_
  refine nv_to (G (112 + t)) (congrArg nI ((hR.g (t := t) (by omega)))) ?_
  refine lv_istore_n (lv' := [(3, .int (nI (G (112 + t)))), (0, .ref (ad 0)), (1, .int (nI t)), (2, .int (nI z))]) hx hb dX1_changeGoverned_6 rfl hl (by decide) rfl (fun ls hl => ?_)
  refine lv_aload_n hx hb dX1_changeGoverned_7 rfl (lv_at hl 1 rfl) ?_
  refine va_get (D := D) (ci := 3) (v := .ref (ad 2)) (C := RX1) (T := TX1) (N := 12) hx hb hts in_X1 hown hK.1 hP 0 rfl rfl 1 (by decide) fl_17 (fun _ h9 => h9) rfl dX1_changeGoverned_8 ?_
  refine lv_iload_n hx hb dX1_changeGoverned_11 rfl (lv_at hl 2 rfl) ?_
  refine lv_iload_n hx hb dX1_changeGoverned_12 rfl (lv_at hl 3 rfl) ?_
  refine nv_gast (i := t) (v := z) hx hb hK.1 hP (hD _) hS 2 0 rfl rfl (by omega) (by decide) dX1_changeGoverned_13 (fun H locs hP hS => ?_)
  obtain ⟨u, hR, hk, hP⟩ : ∃ w, hRel w (va_up G (112 + t) (z)) ∧ hOk w ∧ va_P D vwCl (hw cI cD ad w) H := ⟨_, hR_g hR (t := t) (by omega) (by rw [zq0]; omega) (by rw [zq1]; omega), hk, hP⟩
  have zq0 : (va_up G (112 + t) (z)) 0 = G 0 := by rw [up_ne (by omega)]
  have zq1 : (va_up G (112 + t) (z)) 1 = G 1 := by rw [up_ne (by omega)]
  have zq2 : (va_up G (112 + t) (z)) 2 = G 2 := by rw [up_ne (by omega)]
  refine lv_iload_n hx hb dX1_changeGoverned_14 rfl (lv_at hl 0 rfl) ?_
  exact nv_retG hq hx hb hr hlocks (nar_i _) (rfl) hS (⟨_, hR, hk, hP⟩) dX1_changeGoverned_15

set_option maxHeartbeats 1000000 in
set_option maxRecDepth 100000 in
theorem c_X1_putOn (l : Launch) {D : va_G} {cI cC cD cR : ClassId} {sa : sA} {A : Nat → Prop} {ad : Nat → Nat} {u : hS} {G : Nat → Nat} {b : Nat} (hR : hRel u G) (hG : gWf b G) (hk : hOk u) (hD : ∀ v : hS, va_D A (hw cI cD ad v)) (d z : Nat) (x : Int32) (hx5 : x = nI z - nI 1) (hd : d < G 0) (hG2 : gWf b (va_up G (56 + d) z)) : Met l yX1_putOn wsX1_putOn ({ frames := 2, cells := 0, slots := 0, locals := 42 }) (va_Pc [.ref (ad 0), .int (nI d), .int x] (tPre D [(cI, .int), (cC, .char), (cD, .object "DoorDialect$Door"), (cR, .object "DoorDialect$House")] nN sa A (fun H => va_P D vwCl (hw cI cD ad u) H))) (gQ (nI (gCase (va_up G (56 + d) z) d)) ((hO D cI cD ad (va_up G (56 + d) z))) A) 0 0 A := by
  refine nv_met (cc := cX1_putOn) (maxL := 3) (ret := (some .int)) (by decide) rfl (Nat.le_of_ble_eq_true rfl) ?_
  intro p0 e0 s m0 args below meth c0 Q hq hargs hnA hpre ls hl
  obtain ⟨hx, hb, hr, hts, hown, hlocks, hml⟩ := hnA
  obtain ⟨hP, hT⟩ := hpre
  have hK := hT.1
  have hown : s.vm.findClass RX1 = some m0.cls := hown
  have hP : va_P D vwCl (hw cI cD ad u) s.heap := hP
  have hl : lv_has ls 3 [(0, .ref (ad 0)), (1, .int (nI d)), (2, .int x)] := hl
  have hS : va_S A s.heap s.heap [] := va_S.rf
  have in_X0 : ∀ w ∈ wsX00, w ∈ wsX1_putOn := by decide +kernel
  have in_X1 : ∀ w ∈ wsX10, w ∈ wsX1_putOn := by decide +kernel
  have fl_11 := hts (.fieldLink RX1 11 "DoorDialect$House" "doors" "[LDoorDialect$Door;") (by decide +kernel)
  have fl_85 := hts (.fieldLink RX1 85 "DoorDialect$Door" "threshold" "I") (by decide +kernel)
  obtain ⟨g_b, g_k, g_0, g_1, g_2, g_e, g_d, g_t, g_y, g_s, g_h⟩ := id hG
  have zq0 : G 0 = G 0 := rfl
  have zq1 : G 1 = G 1 := rfl
  have zq2 : G 2 = G 2 := rfl
  refine lv_aload_n hx hb dX1_putOn_0 rfl (lv_at hl 0 rfl) ?_
  refine va_get (D := D) (ci := 3) (v := .ref (ad 1)) (C := RX1) (T := TX1) (N := 12) hx hb hts in_X1 hown hK.1 hP 0 rfl rfl 0 (by decide) fl_11 (fun _ h9 => h9) rfl dX1_putOn_1 ?_
  refine lv_iload_n hx hb dX1_putOn_4 rfl (lv_at hl 1 rfl) ?_
  refine nv_aldq (i := d) hx hb hK.1 hP 1 2 rfl rfl (by omega) (by decide) dX1_putOn_5 ?_
  refine lv_iload_n hx hb dX1_putOn_6 rfl (lv_at hl 2 rfl) ?_
  refine iv9_to (nI (z) - nI 1) (hx5) ?_
  refine va_put (D := D) (ci := 2) (v := .int (nI (z) - nI 1)) (ty := .int) (C := RX0) (T := TX0) (N := 10) hx hb hts in_X0 tyX0 tyX0_ok nmX0 hown hK.1 hP (hD _) hS (6 + (d)) (hw_at (d) (by omega)) rfl 5 (by decide) fl_85 (fun _ h9 => h9) rfl (by decide +kernel) rfl rfl (Nat.le_of_ble_eq_true rfl) dX1_putOn_7 (fun H locs hP _ hS => ?_)
  obtain ⟨u, hR, hk, hP⟩ : ∃ w, hRel w (va_up G (56 + d) (z)) ∧ hOk w ∧ va_P D vwCl (hw cI cD ad w) H := ⟨_, hR_d hR (d := d) 5 (by omega) (by rw [zq0]; omega) (by rw [zq1]; omega) (by rw [zq2]; omega) (by decide), hOk_d hk (by omega), hw_put (d) (by omega) hP⟩
  have zq0 : (va_up G (56 + d) (z)) 0 = G 0 := by rw [up_ne (by omega)]
  have zq1 : (va_up G (56 + d) (z)) 1 = G 1 := by rw [up_ne (by omega)]
  have zq2 : (va_up G (56 + d) (z)) 2 = G 2 := by rw [up_ne (by omega)]
  refine lv_aload_n hx hb dX1_putOn_10 rfl (lv_at hl 0 rfl) ?_
  refine lv_aload_n hx hb dX1_putOn_11 rfl (lv_at hl 0 rfl) ?_
  refine va_get (D := D) (ci := 3) (v := .ref (ad 1)) (C := RX1) (T := TX1) (N := 12) hx hb hts in_X1 hown hK.1 hP 0 rfl rfl 0 (by decide) fl_11 (fun _ h9 => h9) rfl dX1_putOn_12 ?_
  refine lv_iload_n hx hb dX1_putOn_15 rfl (lv_at hl 1 rfl) ?_
  refine nv_aldq (i := d) hx hb hK.1 hP 1 2 rfl rfl (by omega) (by decide) dX1_putOn_16 ?_
  refine nv_kS (va_runV (As := [.ref (ad (6 + d))]) (rest := []) ⟨hx, hb, hml, hown, hts⟩ (c_X1_caseOf l hR hG2 d (by omega)) (cwV 1 hts gX1_putOn_X1_caseOf rfl rfl rfl (by decide +kernel) ⟨Nat.le_of_ble_eq_true rfl, Nat.le_of_ble_eq_true rfl⟩) (nt_pV hT hS hP (va_recv hK.1 hP (ci := 3) (q0 := 0) rfl rfl)) rfl rfl hl.1 rfl (lv_room (Nat.le_of_ble_eq_true rfl)) dX1_putOn_17 ⟨Nat.zero_le _, Nat.zero_le _⟩) ?_
  exact nv_retG hq hx hb hr hlocks (nar_i _) (rfl) hS (⟨_, hR, hk, hP⟩) dX1_putOn_20

set_option maxHeartbeats 1000000 in
set_option maxRecDepth 100000 in
theorem c_X1_changeLetter (l : Launch) {D : va_G} {cI cC cD cR : ClassId} {sa : sA} {A : Nat → Prop} {ad : Nat → Nat} {u : hS} {G : Nat → Nat} {b : Nat} (hR : hRel u G) (hG : gWf b G) (hk : hOk u) (hD : ∀ v : hS, va_D A (hw cI cD ad v)) (a c n z : Nat) (ha : a < 3) (hc : c < 4) (hn : n ≤ 1) : Met l yX1_changeLetter wsX1_changeLetter ({ frames := 2, cells := 0, slots := 0, locals := 45 }) (va_Pc [.ref (ad 0), .int (nI a), .int (nI c), .int (nI n), .int (nI z)] (tPre D [(cI, .int), (cC, .char), (cD, .object "DoorDialect$Door"), (cR, .object "DoorDialect$House")] nN sa A (fun H => va_P D vwCl (hw cI cD ad u) H))) (gQ (nI (G (gEndAt a c n))) ((hO D cI cD ad (va_up G (gEndAt a c n) z))) A) 0 0 A := by
  refine nv_met (cc := cX1_changeLetter) (maxL := 6) (ret := (some .int)) (by decide) rfl (Nat.le_of_ble_eq_true rfl) ?_
  intro p0 e0 s m0 args below meth c0 Q hq hargs hnA hpre ls hl
  obtain ⟨hx, hb, hr, hts, hown, hlocks, hml⟩ := hnA
  obtain ⟨hP, hT⟩ := hpre
  have hK := hT.1
  have hown : s.vm.findClass RX1 = some m0.cls := hown
  have hP : va_P D vwCl (hw cI cD ad u) s.heap := hP
  have hl : lv_has ls 6 [(0, .ref (ad 0)), (1, .int (nI a)), (2, .int (nI c)), (3, .int (nI n)), (4, .int (nI z))] := hl
  have hS : va_S A s.heap s.heap [] := va_S.rf
  have in_X1 : ∀ w ∈ wsX10, w ∈ wsX1_changeLetter := by decide +kernel
  have fl_27 := hts (.fieldLink RX1 27 "DoorDialect$House" "letters" "[I") (by decide +kernel)
  obtain ⟨g_b, g_k, g_0, g_1, g_2, g_e, g_d, g_t, g_y, g_s, g_h⟩ := id hG
  have zq0 : G 0 = G 0 := rfl
  have zq1 : G 1 = G 1 := rfl
  have zq2 : G 2 = G 2 := rfl
  refine lv_aload_n hx hb dX1_changeLetter_0 rfl (lv_at hl 0 rfl) ?_
  refine lv_iload_n hx hb dX1_changeLetter_1 rfl (lv_at hl 1 rfl) ?_
  refine lv_iload_n hx hb dX1_changeLetter_2 rfl (lv_at hl 2 rfl) ?_
  refine lv_iload_n hx hb dX1_changeLetter_3 rfl (lv_at hl 3 rfl) ?_
  refine nv_kS (va_runV (As := [.int (nI a), .int (nI c), .int (nI n)]) (rest := []) ⟨hx, hb, hml, hown, hts⟩ (c_X1_letterAt l hR hG a c n (by omega) (by omega) (by omega)) (cwV 3 hts gX1_changeLetter_X1_letterAt rfl rfl rfl (by decide +kernel) ⟨Nat.le_of_ble_eq_true rfl, Nat.le_of_ble_eq_true rfl⟩) (nt_pV hT hS hP (va_recv hK.1 hP (ci := 3) (q0 := 0) rfl rfl)) rfl rfl hl.1 rfl (lv_room (Nat.le_of_ble_eq_true rfl)) dX1_changeLetter_4 ⟨Nat.zero_le _, Nat.zero_le _⟩) ?_
  refine lv_istore (lv' := [(5, .int (nI (G (gEndAt a c n)))), (0, .ref (ad 0)), (1, .int (nI a)), (2, .int (nI c)), (3, .int (nI n)), (4, .int (nI z))]) hx hb dX1_changeLetter_7 hl (by decide) rfl (fun ls hl => ?_)
  refine lv_aload_n hx hb dX1_changeLetter_9 rfl (lv_at hl 1 rfl) ?_
  refine va_get (D := D) (ci := 3) (v := .ref (ad 5)) (C := RX1) (T := TX1) (N := 12) hx hb hts in_X1 hown hK.1 hP 0 rfl rfl 4 (by decide) fl_27 (fun _ h9 => h9) rfl dX1_changeLetter_10 ?_
  refine lv_iload_n hx hb dX1_changeLetter_13 rfl (lv_at hl 2 rfl) ?_
  refine lv_iload_n hx hb dX1_changeLetter_14 rfl (lv_at hl 3 rfl) ?_
  refine lv_iload_n hx hb dX1_changeLetter_15 rfl (lv_at hl 4 rfl) ?_
  refine nv_kS (va_runS (As := [.int (nI a), .int (nI c), .int (nI n)]) (rest := [.ref (ad 5)]) ⟨hx, hb, hml, hown, hts⟩ (c_X1_letterPlace l a c n) (va_cwS 3 hts gX1_changeLetter_X1_letterPlace rfl rfl rfl (by decide +kernel) ⟨Nat.le_of_ble_eq_true rfl, Nat.le_of_ble_eq_true rfl⟩) (nt_pS hT hS trivial) rfl rfl hl.1 rfl (lv_room (Nat.le_of_ble_eq_true rfl)) dX1_changeLetter_16 ⟨Nat.zero_le _, Nat.zero_le _⟩) ?_
  refine lv_iload hx hb dX1_changeLetter_19 (lv_at hl 5 rfl) ?_
  refine nv_gast (i := (a * 4 + c) * 2 + n) (v := z) hx hb hK.1 hP (hD _) hS 5 0 rfl rfl (by omega) (by decide) dX1_changeLetter_21 (fun H locs hP hS => ?_)
  obtain ⟨u, hR, hk, hP⟩ : ∃ w, hRel w (va_up G (8 + ((a * 4 + c) * 2 + n)) (z)) ∧ hOk w ∧ va_P D vwCl (hw cI cD ad w) H := ⟨_, hR_e hR (p := (a * 4 + c) * 2 + n) (by omega) (by rw [zq0]; omega), hk, hP⟩
  have zq0 : (va_up G (8 + ((a * 4 + c) * 2 + n)) (z)) 0 = G 0 := by rw [up_ne (by omega)]
  have zq1 : (va_up G (8 + ((a * 4 + c) * 2 + n)) (z)) 1 = G 1 := by rw [up_ne (by omega)]
  have zq2 : (va_up G (8 + ((a * 4 + c) * 2 + n)) (z)) 2 = G 2 := by rw [up_ne (by omega)]
  refine lv_iload hx hb dX1_changeLetter_22 (lv_at hl 0 rfl) ?_
  exact nv_retG hq hx hb hr hlocks (nar_i _) (rfl) hS (by rw [gEndAt_lp] at hR; exact ⟨_, hR, hk, hP⟩) dX1_changeLetter_24

set_option maxHeartbeats 1000000 in
set_option maxRecDepth 100000 in
theorem c_X1_shutDoor (l : Launch) {D : va_G} {cI cC cD cR : ClassId} {sa : sA} {A : Nat → Prop} {ad : Nat → Nat} {u : hS} {G : Nat → Nat} {b : Nat} (hR : hRel u G) (hG : gWf b G) (hk : hOk u) (hD : ∀ v : hS, va_D A (hw cI cD ad v)) (d : Nat) (hd : d < G 0) (hG2 : gWf b (va_up G (80 + d) 0)) : Met l yX1_shutDoor wsX1_shutDoor ({ frames := 1, cells := 0, slots := 0, locals := 22 }) (va_Pc [.ref (ad 0), .int (nI d)] (tPre D [(cI, .int), (cC, .char), (cD, .object "DoorDialect$Door"), (cR, .object "DoorDialect$House")] nN sa A (fun H => va_P D vwCl (hw cI cD ad u) H))) (gQ (nI (gMany (va_up G (80 + d) 0) 80)) ((hO D cI cD ad (va_up G (80 + d) 0))) A) 0 0 A := by
  refine nv_met (cc := cX1_shutDoor) (maxL := 2) (ret := (some .int)) (by decide) rfl (Nat.le_of_ble_eq_true rfl) ?_
  intro p0 e0 s m0 args below meth c0 Q hq hargs hnA hpre ls hl
  obtain ⟨hx, hb, hr, hts, hown, hlocks, hml⟩ := hnA
  obtain ⟨hP, hT⟩ := hpre
  have hK := hT.1
  have hown : s.vm.findClass RX1 = some m0.cls := hown
  have hP : va_P D vwCl (hw cI cD ad u) s.heap := hP
  have hl : lv_has ls 2 [(0, .ref (ad 0)), (1, .int (nI d))] := hl
  have hS : va_S A s.heap s.heap [] := va_S.rf
  have in_X0 : ∀ w ∈ wsX00, w ∈ wsX1_shutDoor := by decide +kernel
  have in_X1 : ∀ w ∈ wsX10, w ∈ wsX1_shutDoor := by decide +kernel
  have fl_11 := hts (.fieldLink RX1 11 "DoorDialect$House" "doors" "[LDoorDialect$Door;") (by decide +kernel)
  have fl_130 := hts (.fieldLink RX1 130 "DoorDialect$Door" "isOpen" "Z") (by decide +kernel)
  obtain ⟨g_b, g_k, g_0, g_1, g_2, g_e, g_d, g_t, g_y, g_s, g_h⟩ := id hG
  have zq0 : G 0 = G 0 := rfl
  have zq1 : G 1 = G 1 := rfl
  have zq2 : G 2 = G 2 := rfl
  refine lv_aload_n hx hb dX1_shutDoor_0 rfl (lv_at hl 0 rfl) ?_
  refine va_get (D := D) (ci := 3) (v := .ref (ad 1)) (C := RX1) (T := TX1) (N := 12) hx hb hts in_X1 hown hK.1 hP 0 rfl rfl 0 (by decide) fl_11 (fun _ h9 => h9) rfl dX1_shutDoor_1 ?_
  refine lv_iload_n hx hb dX1_shutDoor_4 rfl (lv_at hl 1 rfl) ?_
  refine nv_aldq (i := d) hx hb hK.1 hP 1 2 rfl rfl (by omega) (by decide) dX1_shutDoor_5 ?_
  refine lv_iconst (v := nI 0) hx hb dX1_shutDoor_6 (by decide) ?_
  refine va_put (D := D) (ci := 2) (v := .int (nI 0)) (ty := .boolean) (C := RX0) (T := TX0) (N := 10) hx hb hts in_X0 tyX0 tyX0_ok nmX0 hown hK.1 hP (hD _) hS (6 + (d)) (hw_at (d) (by omega)) rfl 9 (by decide) fl_130 (fun _ h9 => h9) rfl (by decide +kernel) (nar_z (by omega)) (fit_z (by omega)) (Nat.le_of_ble_eq_true rfl) dX1_shutDoor_7 (fun H locs hP _ hS => ?_)
  obtain ⟨u, hR, hk, hP⟩ : ∃ w, hRel w (va_up G (80 + d) (0)) ∧ hOk w ∧ va_P D vwCl (hw cI cD ad w) H := ⟨_, hR_d hR (d := d) 9 (by omega) (by rw [zq0]; omega) (by rw [zq1]; omega) (by rw [zq2]; omega) (by decide), hOk_d hk (by omega), hw_put (d) (by omega) hP⟩
  have zq0 : (va_up G (80 + d) (0)) 0 = G 0 := by rw [up_ne (by omega)]
  have zq1 : (va_up G (80 + d) (0)) 1 = G 1 := by rw [up_ne (by omega)]
  have zq2 : (va_up G (80 + d) (0)) 2 = G 2 := by rw [up_ne (by omega)]
  refine lv_aload_n hx hb dX1_shutDoor_10 rfl (lv_at hl 0 rfl) ?_
  refine nv_kS (va_runV (As := []) (rest := []) ⟨hx, hb, hml, hown, hts⟩ (c_X1_openDoors l hR hG2) (cwV 0 hts gX1_shutDoor_X1_openDoors rfl rfl rfl (by decide +kernel) ⟨Nat.le_of_ble_eq_true rfl, Nat.le_of_ble_eq_true rfl⟩) (nt_pV hT hS hP (va_recv hK.1 hP (ci := 3) (q0 := 0) rfl rfl)) rfl rfl hl.1 rfl (lv_room (Nat.le_of_ble_eq_true rfl)) dX1_shutDoor_11 ⟨Nat.zero_le _, Nat.zero_le _⟩) ?_
  exact nv_retG hq hx hb hr hlocks (nar_i _) (rfl) hS (⟨_, hR, hk, hP⟩) dX1_shutDoor_14

theorem gFree_eq {G : Nat → Nat} {d : Nat} (hd : d < 8) : gFree G d = va_up (va_up (va_up G (72 + d) 0) (64 + d) 0) 7 (G 7 + 1) := by
  show va_up _ 7 (va_up (va_up G (72 + d) 0) (64 + d) 0 7 + 1) = _
  rw [up_ne (by omega), up_ne (by omega)]
theorem gRight_eq {G : Nat → Nat} {d : Nat} (hd : d < 8) : gRight (gHeard G d) d = va_up (va_up (va_up (va_up (va_up G 3 (G 3 + 1)) (104 + d) (G (104 + d) + 1)) 4 (G 4 + 1)) (80 + d) 1) (64 + d) 0 := by
  have e1 : gHeard G d = va_up (va_up G 3 (G 3 + 1)) (104 + d) (G (104 + d) + 1) := by
    show va_up _ (104 + d) (va_up G 3 (G 3 + 1) (104 + d) + 1) = _
    rw [up_ne (by omega)]
  have e2 : gHeard G d 4 = G 4 := by rw [e1, up_ne (by omega), up_ne (by omega)]
  unfold gRight
  rw [e2, e1]
theorem gWrong_eq {G : Nat → Nat} {d : Nat} (hd : d < 8) : gWrong (gHeard G d) d = if G (64 + d) + 1 = 3 then va_up (va_up (va_up (va_up (va_up (va_up G 3 (G 3 + 1)) (104 + d) (G (104 + d) + 1)) 5 (G 5 + 1)) (64 + d) (G (64 + d) + 1)) (72 + d) 1) 6 (G 6 + 1)
    else va_up (va_up (va_up (va_up G 3 (G 3 + 1)) (104 + d) (G (104 + d) + 1)) 5 (G 5 + 1)) (64 + d) (G (64 + d) + 1) := by
  have e1 : gHeard G d = va_up (va_up G 3 (G 3 + 1)) (104 + d) (G (104 + d) + 1) := by
    show va_up _ (104 + d) (va_up G 3 (G 3 + 1) (104 + d) + 1) = _
    rw [up_ne (by omega)]
  have e2 : gHeard G d 5 = G 5 := by rw [e1, up_ne (by omega), up_ne (by omega)]
  have e3 : gWrong1 (gHeard G d) d = va_up (va_up (va_up (va_up G 3 (G 3 + 1)) (104 + d) (G (104 + d) + 1)) 5 (G 5 + 1)) (64 + d) (G (64 + d) + 1) := by
    show va_up (va_up (gHeard G d) 5 (gHeard G d 5 + 1)) (64 + d) (va_up (gHeard G d) 5 (gHeard G d 5 + 1) (64 + d) + 1) = _
    rw [e2, e1, up_ne (i := 5) (by omega), up_ne (by omega), up_ne (by omega)]
  unfold gWrong
  rw [e3, up_eq rfl]
  by_cases q : G (64 + d) + 1 = 3
  · rw [if_pos q, if_pos q]
    show va_up (va_up _ (72 + d) 1) 6 (va_up (va_up (va_up (va_up (va_up G 3 (G 3 + 1)) (104 + d) (G (104 + d) + 1)) 5 (G 5 + 1)) (64 + d) (G (64 + d) + 1)) (72 + d) 1 6 + 1) = _
    rw [up_ne (by omega), up_ne (by omega), up_ne (by omega), up_ne (by omega), up_ne (by omega)]
  · rw [if_neg q, if_neg q]

set_option maxHeartbeats 1000000 in
set_option maxRecDepth 100000 in
theorem c_X1_freeDoor (l : Launch) {D : va_G} {cI cC cD cR : ClassId} {sa : sA} {A : Nat → Prop} {ad : Nat → Nat} {u : hS} {G : Nat → Nat} {b : Nat} (hR : hRel u G) (hG : gWf b G) (hk : hOk u) (hD : ∀ v : hS, va_D A (hw cI cD ad v)) (d : Nat) (hd : d < G 0) (hG2 : gWf b (gFree G d)) : Met l yX1_freeDoor wsX1_freeDoor ({ frames := 1, cells := 0, slots := 0, locals := 22 }) (va_Pc [.ref (ad 0), .int (nI d)] (tPre D [(cI, .int), (cC, .char), (cD, .object "DoorDialect$Door"), (cR, .object "DoorDialect$House")] nN sa A (fun H => va_P D vwCl (hw cI cD ad u) H))) (gQ (nI (gMany (gFree G d) 72)) ((hO D cI cD ad (gFree G d))) A) 0 0 A := by
  refine nv_met (cc := cX1_freeDoor) (maxL := 2) (ret := (some .int)) (by decide) rfl (Nat.le_of_ble_eq_true rfl) ?_
  intro p0 e0 s m0 args below meth c0 Q hq hargs hnA hpre ls hl
  obtain ⟨hx, hb, hr, hts, hown, hlocks, hml⟩ := hnA
  obtain ⟨hP, hT⟩ := hpre
  have hK := hT.1
  have hown : s.vm.findClass RX1 = some m0.cls := hown
  have hP : va_P D vwCl (hw cI cD ad u) s.heap := hP
  have hl : lv_has ls 2 [(0, .ref (ad 0)), (1, .int (nI d))] := hl
  have hS : va_S A s.heap s.heap [] := va_S.rf
  have in_X0 : ∀ w ∈ wsX00, w ∈ wsX1_freeDoor := by decide +kernel
  have in_X1 : ∀ w ∈ wsX10, w ∈ wsX1_freeDoor := by decide +kernel
  have fl_11 := hts (.fieldLink RX1 11 "DoorDialect$House" "doors" "[LDoorDialect$Door;") (by decide +kernel)
  have fl_53 := hts (.fieldLink RX1 53 "DoorDialect$House" "freedDoors" "I") (by decide +kernel)
  have fl_134 := hts (.fieldLink RX1 134 "DoorDialect$Door" "wrongKnocks" "I") (by decide +kernel)
  have fl_135 := hts (.fieldLink RX1 135 "DoorDialect$Door" "isLatched" "Z") (by decide +kernel)
  obtain ⟨g_b, g_k, g_0, g_1, g_2, g_e, g_d, g_t, g_y, g_s, g_h⟩ := id hG
  rw [gFree_eq (by omega)] at hG2
  have zq0 : G 0 = G 0 := rfl
  have zq1 : G 1 = G 1 := rfl
  have zq2 : G 2 = G 2 := rfl
  refine lv_aload_n hx hb dX1_freeDoor_0 rfl (lv_at hl 0 rfl) ?_
  refine va_get (D := D) (ci := 3) (v := .ref (ad 1)) (C := RX1) (T := TX1) (N := 12) hx hb hts in_X1 hown hK.1 hP 0 rfl rfl 0 (by decide) fl_11 (fun _ h9 => h9) rfl dX1_freeDoor_1 ?_
  refine lv_iload_n hx hb dX1_freeDoor_4 rfl (lv_at hl 1 rfl) ?_
  refine nv_aldq (i := d) hx hb hK.1 hP 1 2 rfl rfl (by omega) (by decide) dX1_freeDoor_5 ?_
  refine lv_iconst (v := nI 0) hx hb dX1_freeDoor_6 (by decide) ?_
  refine va_put (D := D) (ci := 2) (v := .int (nI 0)) (ty := .boolean) (C := RX0) (T := TX0) (N := 10) hx hb hts in_X0 tyX0 tyX0_ok nmX0 hown hK.1 hP (hD _) hS (6 + (d)) (hw_at (d) (by omega)) rfl 8 (by decide) fl_135 (fun _ h9 => h9) rfl (by decide +kernel) (nar_z (by omega)) (fit_z (by omega)) (Nat.le_of_ble_eq_true rfl) dX1_freeDoor_7 (fun H locs hP _ hS => ?_)
  obtain ⟨u, hR, hk, hP⟩ : ∃ w, hRel w (va_up G (72 + d) (0)) ∧ hOk w ∧ va_P D vwCl (hw cI cD ad w) H := ⟨_, hR_d hR (d := d) 8 (by omega) (by rw [zq0]; omega) (by rw [zq1]; omega) (by rw [zq2]; omega) (by decide), hOk_d hk (by omega), hw_put (d) (by omega) hP⟩
  have zq0 : (va_up G (72 + d) (0)) 0 = G 0 := by rw [up_ne (by omega)]
  have zq1 : (va_up G (72 + d) (0)) 1 = G 1 := by rw [up_ne (by omega)]
  have zq2 : (va_up G (72 + d) (0)) 2 = G 2 := by rw [up_ne (by omega)]
  refine lv_aload_n hx hb dX1_freeDoor_10 rfl (lv_at hl 0 rfl) ?_
  refine va_get (D := D) (ci := 3) (v := .ref (ad 1)) (C := RX1) (T := TX1) (N := 12) hx hb hts in_X1 hown hK.1 hP 0 rfl rfl 0 (by decide) fl_11 (fun _ h9 => h9) rfl dX1_freeDoor_11 ?_
  refine lv_iload_n hx hb dX1_freeDoor_14 rfl (lv_at hl 1 rfl) ?_
  refine nv_aldq (i := d) hx hb hK.1 hP 1 2 rfl rfl (by omega) (by decide) dX1_freeDoor_15 ?_
  refine lv_iconst (v := nI 0) hx hb dX1_freeDoor_16 (by decide) ?_
  refine va_put (D := D) (ci := 2) (v := .int (nI 0)) (ty := .int) (C := RX0) (T := TX0) (N := 10) hx hb hts in_X0 tyX0 tyX0_ok nmX0 hown hK.1 hP (hD _) hS (6 + (d)) (hw_at (d) (by omega)) rfl 6 (by decide) fl_134 (fun _ h9 => h9) rfl (by decide +kernel) rfl rfl (Nat.le_of_ble_eq_true rfl) dX1_freeDoor_17 (fun H locs hP _ hS => ?_)
  obtain ⟨u, hR, hk, hP⟩ : ∃ w, hRel w (va_up (va_up G (72 + d) (0)) (64 + d) (0)) ∧ hOk w ∧ va_P D vwCl (hw cI cD ad w) H := ⟨_, hR_d hR (d := d) 6 (by omega) (by rw [zq0]; omega) (by rw [zq1]; omega) (by rw [zq2]; omega) (by decide), hOk_d hk (by omega), hw_put (d) (by omega) hP⟩
  have zq0 : (va_up (va_up G (72 + d) (0)) (64 + d) (0)) 0 = G 0 := by rw [up_ne (by omega), up_ne (by omega)]
  have zq1 : (va_up (va_up G (72 + d) (0)) (64 + d) (0)) 1 = G 1 := by rw [up_ne (by omega), up_ne (by omega)]
  have zq2 : (va_up (va_up G (72 + d) (0)) (64 + d) (0)) 2 = G 2 := by rw [up_ne (by omega), up_ne (by omega)]
  refine lv_aload_n hx hb dX1_freeDoor_20 rfl (lv_at hl 0 rfl) ?_
  refine lv_dup hx hb dX1_freeDoor_21 rfl ?_
  refine va_get (D := D) (ci := 3) (v := .int (nI (hs_c u 6))) (C := RX1) (T := TX1) (N := 12) hx hb hts in_X1 hown hK.1 hP 0 rfl rfl 11 (by decide) fl_53 (fun _ h9 => h9) rfl dX1_freeDoor_22 ?_
  refine nv_to (G 7) (congrArg nI ((hR.c6).trans (by rw [up_ne (by omega), up_ne (by omega)]))) ?_
  refine lv_iconst (v := nI 1) hx hb dX1_freeDoor_25 (by decide) ?_
  refine nv_iadd hx hb dX1_freeDoor_26 ?_
  refine va_put (D := D) (ci := 3) (v := .int (nI (G 7 + 1))) (ty := .int) (C := RX1) (T := TX1) (N := 12) hx hb hts in_X1 tyX1 tyX1_ok nmX1 hown hK.1 hP (hD _) hS 0 rfl rfl 11 (by decide) fl_53 (fun _ h9 => h9) rfl (by decide +kernel) rfl rfl (Nat.le_of_ble_eq_true rfl) dX1_freeDoor_27 (fun H locs hP _ hS => ?_)
  obtain ⟨u, hR, hk, hP⟩ : ∃ w, hRel w (va_up (va_up (va_up G (72 + d) (0)) (64 + d) (0)) (7) (G 7 + 1)) ∧ hOk w ∧ va_P D vwCl (hw cI cD ad w) H := ⟨_, hR_c hR 6 (by decide) (by decide), hk, hP⟩
  have zq0 : (va_up (va_up (va_up G (72 + d) (0)) (64 + d) (0)) (7) (G 7 + 1)) 0 = G 0 := by rw [up_ne (by omega), up_ne (by omega), up_ne (by omega)]
  have zq1 : (va_up (va_up (va_up G (72 + d) (0)) (64 + d) (0)) (7) (G 7 + 1)) 1 = G 1 := by rw [up_ne (by omega), up_ne (by omega), up_ne (by omega)]
  have zq2 : (va_up (va_up (va_up G (72 + d) (0)) (64 + d) (0)) (7) (G 7 + 1)) 2 = G 2 := by rw [up_ne (by omega), up_ne (by omega), up_ne (by omega)]
  refine lv_aload_n hx hb dX1_freeDoor_30 rfl (lv_at hl 0 rfl) ?_
  refine nv_kS (va_runV (As := []) (rest := []) ⟨hx, hb, hml, hown, hts⟩ (c_X1_latchesDown l hR hG2) (cwV 0 hts gX1_freeDoor_X1_latchesDown rfl rfl rfl (by decide +kernel) ⟨Nat.le_of_ble_eq_true rfl, Nat.le_of_ble_eq_true rfl⟩) (nt_pV hT hS hP (va_recv hK.1 hP (ci := 3) (q0 := 0) rfl rfl)) rfl rfl hl.1 rfl (lv_room (Nat.le_of_ble_eq_true rfl)) dX1_freeDoor_31 ⟨Nat.zero_le _, Nat.zero_le _⟩) ?_
  exact nv_retG hq hx hb hr hlocks (nar_i _) (by rw [gFree_eq (by omega)]) hS (by rw [gFree_eq (by omega)]; exact ⟨_, hR, hk, hP⟩) dX1_freeDoor_34

set_option maxHeartbeats 1000000 in
set_option maxRecDepth 100000 in
theorem c_X1_hearKnock (l : Launch) {D : va_G} {cI cC cD cR : ClassId} {sa : sA} {A : Nat → Prop} {ad : Nat → Nat} {u : hS} {G : Nat → Nat} {b : Nat} (hR : hRel u G) (hG : gWf b G) (hk : hOk u) (hD : ∀ v : hS, va_D A (hw cI cD ad v)) (d g n c : Nat) (hd : d < G 0) (hg : g < 2 ^ 31) (hn : n < 2 ^ 31) (hc : c < 2 ^ 31) : Met l yX1_hearKnock wsX1_hearKnock ({ frames := 3, cells := 0, slots := 0, locals := 67 }) (va_Pc [.ref (ad 0), .int (nI d), .int (nI g), .int (nI n), .int (nI c)] (tPre D [(cI, .int), (cC, .char), (cD, .object "DoorDialect$Door"), (cR, .object "DoorDialect$House")] nN sa A (fun H => va_P D vwCl (hw cI cD ad u) H))) (gQ (nI (gAgree G d g n c)) ((hO D cI cD ad (if gAgree G d g n c = 3 then gRight (gHeard G d) d else gWrong (gHeard G d) d))) A) 0 0 A := by
  refine nv_met (cc := cX1_hearKnock) (maxL := 7) (ret := (some .int)) (by decide) rfl (Nat.le_of_ble_eq_true rfl) ?_
  intro p0 e0 s m0 args below meth c0 Q hq hargs hnA hpre ls hl
  obtain ⟨hx, hb, hr, hts, hown, hlocks, hml⟩ := hnA
  obtain ⟨hP, hT⟩ := hpre
  have hK := hT.1
  have hown : s.vm.findClass RX1 = some m0.cls := hown
  have hP : va_P D vwCl (hw cI cD ad u) s.heap := hP
  have hl : lv_has ls 7 [(0, .ref (ad 0)), (1, .int (nI d)), (2, .int (nI g)), (3, .int (nI n)), (4, .int (nI c))] := hl
  have hS : va_S A s.heap s.heap [] := va_S.rf
  have in_X0 : ∀ w ∈ wsX00, w ∈ wsX1_hearKnock := by decide +kernel
  have in_X1 : ∀ w ∈ wsX10, w ∈ wsX1_hearKnock := by decide +kernel
  have fl_11 := hts (.fieldLink RX1 11 "DoorDialect$House" "doors" "[LDoorDialect$Door;") (by decide +kernel)
  have fl_44 := hts (.fieldLink RX1 44 "DoorDialect$House" "agreedKnocks" "I") (by decide +kernel)
  have fl_47 := hts (.fieldLink RX1 47 "DoorDialect$House" "wrongKnocks" "I") (by decide +kernel)
  have fl_50 := hts (.fieldLink RX1 50 "DoorDialect$House" "fallenLatches" "I") (by decide +kernel)
  have fl_127 := hts (.fieldLink RX1 127 "DoorDialect$Door" "knocks" "I") (by decide +kernel)
  have fl_130 := hts (.fieldLink RX1 130 "DoorDialect$Door" "isOpen" "Z") (by decide +kernel)
  have fl_134 := hts (.fieldLink RX1 134 "DoorDialect$Door" "wrongKnocks" "I") (by decide +kernel)
  have fl_135 := hts (.fieldLink RX1 135 "DoorDialect$Door" "isLatched" "Z") (by decide +kernel)
  obtain ⟨g_b, g_k, g_0, g_1, g_2, g_e, g_d, g_t, g_y, g_s, g_h⟩ := id hG
  obtain ⟨w_a, w_g, w_n, w_s, w_w, w_l, w_o, w_x, w_y, w_1, w_2, w_3, w_4⟩ := hG.door (d := d) (by omega)
  have hcc := gWf_case hG (d := d) (by omega)
  have zq0 : G 0 = G 0 := rfl
  have zq1 : G 1 = G 1 := rfl
  have zq2 : G 2 = G 2 := rfl
  refine lv_aload_n hx hb dX1_hearKnock_0 rfl (lv_at hl 0 rfl) ?_
  refine va_get (D := D) (ci := 3) (v := .ref (ad 1)) (C := RX1) (T := TX1) (N := 12) hx hb hts in_X1 hown hK.1 hP 0 rfl rfl 0 (by decide) fl_11 (fun _ h9 => h9) rfl dX1_hearKnock_1 ?_
  refine lv_iload_n hx hb dX1_hearKnock_4 rfl (lv_at hl 1 rfl) ?_
  refine nv_aldq (i := d) hx hb hK.1 hP 1 2 rfl rfl (by omega) (by decide) dX1_hearKnock_5 ?_
  refine lv_astore (lv' := [(5, .ref (ad (6 + d))), (0, .ref (ad 0)), (1, .int (nI d)), (2, .int (nI g)), (3, .int (nI n)), (4, .int (nI c))]) hx hb dX1_hearKnock_6 hl (by decide) rfl (fun ls hl => ?_)
  refine lv_aload_n hx hb dX1_hearKnock_8 rfl (lv_at hl 1 rfl) ?_
  refine lv_aload hx hb dX1_hearKnock_9 (lv_at hl 0 rfl) ?_
  refine lv_iload_n hx hb dX1_hearKnock_11 rfl (lv_at hl 3 rfl) ?_
  refine lv_iload_n hx hb dX1_hearKnock_12 rfl (lv_at hl 4 rfl) ?_
  refine lv_iload hx hb dX1_hearKnock_13 (lv_at hl 5 rfl) ?_
  refine nv_kS (va_runV (As := [.ref (ad (6 + d)), .int (nI g), .int (nI n), .int (nI c)]) (rest := []) ⟨hx, hb, hml, hown, hts⟩ (c_X1_agreement l hR hG d g n c (by omega) (by omega) (by omega) (by omega)) (cwV 4 hts gX1_hearKnock_X1_agreement rfl rfl rfl (by decide +kernel) ⟨Nat.le_of_ble_eq_true rfl, Nat.le_of_ble_eq_true rfl⟩) (nt_pV hT hS hP (va_recv hK.1 hP (ci := 3) (q0 := 0) rfl rfl)) rfl rfl hl.1 rfl (lv_room (Nat.le_of_ble_eq_true rfl)) dX1_hearKnock_15 ⟨Nat.zero_le _, Nat.zero_le _⟩) ?_
  have hR := hR_3 (v := G 3 + 1) hR
  have zq0 : (va_up G (3) (G 3 + 1)) 0 = G 0 := up_ne (by omega)
  have zq1 : (va_up G (3) (G 3 + 1)) 1 = G 1 := up_ne (by omega)
  have zq2 : (va_up G (3) (G 3 + 1)) 2 = G 2 := up_ne (by omega)
  have hag := gAgree_le G d g n c
  refine lv_istore (lv' := [(6, .int (nI (gAgree G d g n c))), (5, .ref (ad (6 + d))), (0, .ref (ad 0)), (1, .int (nI d)), (2, .int (nI g)), (3, .int (nI n)), (4, .int (nI c))]) hx hb dX1_hearKnock_18 hl (by decide) rfl (fun ls hl => ?_)
  refine lv_aload hx hb dX1_hearKnock_20 (lv_at hl 1 rfl) ?_
  refine lv_dup hx hb dX1_hearKnock_22 rfl ?_
  refine va_get (D := D) (ci := 2) (v := .int (nI (hs_d u (d) 7))) (C := RX0) (T := TX0) (N := 10) hx hb hts in_X0 hown hK.1 hP (6 + (d)) (hw_at (d) (by omega)) rfl 7 (by decide) fl_127 (fun _ h9 => h9) rfl dX1_hearKnock_23 ?_
  refine nv_to (G (104 + d)) (congrArg nI ((hR.d7 (d := d) (by rw [zq0]; omega)).trans (by rw [up_ne (by omega)]))) ?_
  refine lv_iconst (v := nI 1) hx hb dX1_hearKnock_26 (by decide) ?_
  refine nv_iadd hx hb dX1_hearKnock_27 ?_
  refine va_put (D := D) (ci := 2) (v := .int (nI (G (104 + d) + 1))) (ty := .int) (C := RX0) (T := TX0) (N := 10) hx hb hts in_X0 tyX0 tyX0_ok nmX0 hown hK.1 hP (hD _) hS (6 + (d)) (hw_at (d) (by omega)) rfl 7 (by decide) fl_127 (fun _ h9 => h9) rfl (by decide +kernel) rfl rfl (Nat.le_of_ble_eq_true rfl) dX1_hearKnock_28 (fun H locs hP _ hS => ?_)
  obtain ⟨u, hR, hk, hP⟩ : ∃ w, hRel w (va_up (va_up G (3) (G 3 + 1)) (104 + d) ((G (104 + d) + 1))) ∧ hOk w ∧ va_P D vwCl (hw cI cD ad w) H := ⟨_, hR_d hR (d := d) 7 (by omega) (by rw [zq0]; omega) (by rw [zq1]; omega) (by rw [zq2]; omega) (by decide), hOk_d hk (by omega), hw_put (d) (by omega) hP⟩
  have zq0 : (va_up (va_up G (3) (G 3 + 1)) (104 + d) ((G (104 + d) + 1))) 0 = G 0 := by rw [up_ne (by omega), up_ne (by omega)]
  have zq1 : (va_up (va_up G (3) (G 3 + 1)) (104 + d) ((G (104 + d) + 1))) 1 = G 1 := by rw [up_ne (by omega), up_ne (by omega)]
  have zq2 : (va_up (va_up G (3) (G 3 + 1)) (104 + d) ((G (104 + d) + 1))) 2 = G 2 := by rw [up_ne (by omega), up_ne (by omega)]
  refine lv_iload hx hb dX1_hearKnock_31 (lv_at hl 0 rfl) ?_
  refine lv_iconst (v := nI 3) hx hb dX1_hearKnock_33 (by decide) ?_
  refine nv_icmp_ne (tgt := 62) hx hb dX1_hearKnock_34 (by decide) (by omega) (by omega) (fun c1 => ?_) (fun c1 => ?_)
  · refine lv_aload_n hx hb dX1_hearKnock_62 rfl (lv_at hl 2 rfl) ?_
    refine lv_dup hx hb dX1_hearKnock_63 rfl ?_
    refine va_get (D := D) (ci := 3) (v := .int (nI (hs_c u 4))) (C := RX1) (T := TX1) (N := 12) hx hb hts in_X1 hown hK.1 hP 0 rfl rfl 9 (by decide) fl_47 (fun _ h9 => h9) rfl dX1_hearKnock_64 ?_
    refine nv_to (G 5) (congrArg nI ((hR.c4).trans (by rw [up_ne (by omega), up_ne (by omega)]))) ?_
    refine lv_iconst (v := nI 1) hx hb dX1_hearKnock_67 (by decide) ?_
    refine nv_iadd hx hb dX1_hearKnock_68 ?_
    refine va_put (D := D) (ci := 3) (v := .int (nI (G 5 + 1))) (ty := .int) (C := RX1) (T := TX1) (N := 12) hx hb hts in_X1 tyX1 tyX1_ok nmX1 hown hK.1 hP (hD _) hS 0 rfl rfl 9 (by decide) fl_47 (fun _ h9 => h9) rfl (by decide +kernel) rfl rfl (Nat.le_of_ble_eq_true rfl) dX1_hearKnock_69 (fun H locs hP _ hS => ?_)
    obtain ⟨u, hR, hk, hP⟩ : ∃ w, hRel w (va_up (va_up (va_up G (3) (G 3 + 1)) (104 + d) ((G (104 + d) + 1))) (5) (G 5 + 1)) ∧ hOk w ∧ va_P D vwCl (hw cI cD ad w) H := ⟨_, hR_c hR 4 (by decide) (by decide), hk, hP⟩
    have zq0 : (va_up (va_up (va_up G (3) (G 3 + 1)) (104 + d) ((G (104 + d) + 1))) (5) (G 5 + 1)) 0 = G 0 := by rw [up_ne (by omega), up_ne (by omega), up_ne (by omega)]
    have zq1 : (va_up (va_up (va_up G (3) (G 3 + 1)) (104 + d) ((G (104 + d) + 1))) (5) (G 5 + 1)) 1 = G 1 := by rw [up_ne (by omega), up_ne (by omega), up_ne (by omega)]
    have zq2 : (va_up (va_up (va_up G (3) (G 3 + 1)) (104 + d) ((G (104 + d) + 1))) (5) (G 5 + 1)) 2 = G 2 := by rw [up_ne (by omega), up_ne (by omega), up_ne (by omega)]
    refine lv_aload hx hb dX1_hearKnock_72 (lv_at hl 1 rfl) ?_
    refine lv_dup hx hb dX1_hearKnock_74 rfl ?_
    refine va_get (D := D) (ci := 2) (v := .int (nI (hs_d u (d) 6))) (C := RX0) (T := TX0) (N := 10) hx hb hts in_X0 hown hK.1 hP (6 + (d)) (hw_at (d) (by omega)) rfl 6 (by decide) fl_134 (fun _ h9 => h9) rfl dX1_hearKnock_75 ?_
    refine nv_to (G (64 + d)) (congrArg nI ((hR.d6 (d := d) (by rw [zq0]; omega)).trans (by rw [up_ne (by omega), up_ne (by omega), up_ne (by omega)]))) ?_
    refine lv_iconst (v := nI 1) hx hb dX1_hearKnock_78 (by decide) ?_
    refine nv_iadd hx hb dX1_hearKnock_79 ?_
    refine va_put (D := D) (ci := 2) (v := .int (nI (G (64 + d) + 1))) (ty := .int) (C := RX0) (T := TX0) (N := 10) hx hb hts in_X0 tyX0 tyX0_ok nmX0 hown hK.1 hP (hD _) hS (6 + (d)) (hw_at (d) (by omega)) rfl 6 (by decide) fl_134 (fun _ h9 => h9) rfl (by decide +kernel) rfl rfl (Nat.le_of_ble_eq_true rfl) dX1_hearKnock_80 (fun H locs hP _ hS => ?_)
    obtain ⟨u, hR, hk, hP⟩ : ∃ w, hRel w (va_up (va_up (va_up (va_up G (3) (G 3 + 1)) (104 + d) ((G (104 + d) + 1))) (5) (G 5 + 1)) (64 + d) ((G (64 + d) + 1))) ∧ hOk w ∧ va_P D vwCl (hw cI cD ad w) H := ⟨_, hR_d hR (d := d) 6 (by omega) (by rw [zq0]; omega) (by rw [zq1]; omega) (by rw [zq2]; omega) (by decide), hOk_d hk (by omega), hw_put (d) (by omega) hP⟩
    have zq0 : (va_up (va_up (va_up (va_up G (3) (G 3 + 1)) (104 + d) ((G (104 + d) + 1))) (5) (G 5 + 1)) (64 + d) ((G (64 + d) + 1))) 0 = G 0 := by rw [up_ne (by omega), up_ne (by omega), up_ne (by omega), up_ne (by omega)]
    have zq1 : (va_up (va_up (va_up (va_up G (3) (G 3 + 1)) (104 + d) ((G (104 + d) + 1))) (5) (G 5 + 1)) (64 + d) ((G (64 + d) + 1))) 1 = G 1 := by rw [up_ne (by omega), up_ne (by omega), up_ne (by omega), up_ne (by omega)]
    have zq2 : (va_up (va_up (va_up (va_up G (3) (G 3 + 1)) (104 + d) ((G (104 + d) + 1))) (5) (G 5 + 1)) (64 + d) ((G (64 + d) + 1))) 2 = G 2 := by rw [up_ne (by omega), up_ne (by omega), up_ne (by omega), up_ne (by omega)]
    refine lv_aload hx hb dX1_hearKnock_83 (lv_at hl 1 rfl) ?_
    refine va_get (D := D) (ci := 2) (v := .int (nI (hs_d u (d) 6))) (C := RX0) (T := TX0) (N := 10) hx hb hts in_X0 hown hK.1 hP (6 + (d)) (hw_at (d) (by omega)) rfl 6 (by decide) fl_134 (fun _ h9 => h9) rfl dX1_hearKnock_85 ?_
    refine nv_to ((G (64 + d) + 1)) (congrArg nI ((hR.d6 (d := d) (by rw [zq0]; omega)).trans (by rw [up_eq rfl]))) ?_
    refine lv_iconst (v := nI 3) hx hb dX1_hearKnock_88 (by decide) ?_
    refine nv_icmp_ne (tgt := 108) hx hb dX1_hearKnock_89 (by decide) (by omega) (by omega) (fun c2 => ?_) (fun c2 => ?_)
    · refine lv_iload hx hb dX1_hearKnock_108 (lv_at hl 0 rfl) ?_
      exact nv_retG hq hx hb hr hlocks (nar_i _) (rfl) hS (by rw [if_neg c1, gWrong_eq (by omega), if_neg c2]; exact ⟨_, hR, hk, hP⟩) dX1_hearKnock_110
    · refine lv_aload hx hb dX1_hearKnock_92 (lv_at hl 1 rfl) ?_
      refine lv_iconst (v := nI 1) hx hb dX1_hearKnock_94 (by decide) ?_
      refine va_put (D := D) (ci := 2) (v := .int (nI 1)) (ty := .boolean) (C := RX0) (T := TX0) (N := 10) hx hb hts in_X0 tyX0 tyX0_ok nmX0 hown hK.1 hP (hD _) hS (6 + (d)) (hw_at (d) (by omega)) rfl 8 (by decide) fl_135 (fun _ h9 => h9) rfl (by decide +kernel) (nar_z (by omega)) (fit_z (by omega)) (Nat.le_of_ble_eq_true rfl) dX1_hearKnock_95 (fun H locs hP _ hS => ?_)
      obtain ⟨u, hR, hk, hP⟩ : ∃ w, hRel w (va_up (va_up (va_up (va_up (va_up G (3) (G 3 + 1)) (104 + d) ((G (104 + d) + 1))) (5) (G 5 + 1)) (64 + d) ((G (64 + d) + 1))) (72 + d) (1)) ∧ hOk w ∧ va_P D vwCl (hw cI cD ad w) H := ⟨_, hR_d hR (d := d) 8 (by omega) (by rw [zq0]; omega) (by rw [zq1]; omega) (by rw [zq2]; omega) (by decide), hOk_d hk (by omega), hw_put (d) (by omega) hP⟩
      have zq0 : (va_up (va_up (va_up (va_up (va_up G (3) (G 3 + 1)) (104 + d) ((G (104 + d) + 1))) (5) (G 5 + 1)) (64 + d) ((G (64 + d) + 1))) (72 + d) (1)) 0 = G 0 := by rw [up_ne (by omega), up_ne (by omega), up_ne (by omega), up_ne (by omega), up_ne (by omega)]
      have zq1 : (va_up (va_up (va_up (va_up (va_up G (3) (G 3 + 1)) (104 + d) ((G (104 + d) + 1))) (5) (G 5 + 1)) (64 + d) ((G (64 + d) + 1))) (72 + d) (1)) 1 = G 1 := by rw [up_ne (by omega), up_ne (by omega), up_ne (by omega), up_ne (by omega), up_ne (by omega)]
      have zq2 : (va_up (va_up (va_up (va_up (va_up G (3) (G 3 + 1)) (104 + d) ((G (104 + d) + 1))) (5) (G 5 + 1)) (64 + d) ((G (64 + d) + 1))) (72 + d) (1)) 2 = G 2 := by rw [up_ne (by omega), up_ne (by omega), up_ne (by omega), up_ne (by omega), up_ne (by omega)]
      refine lv_aload_n hx hb dX1_hearKnock_98 rfl (lv_at hl 2 rfl) ?_
      refine lv_dup hx hb dX1_hearKnock_99 rfl ?_
      refine va_get (D := D) (ci := 3) (v := .int (nI (hs_c u 5))) (C := RX1) (T := TX1) (N := 12) hx hb hts in_X1 hown hK.1 hP 0 rfl rfl 10 (by decide) fl_50 (fun _ h9 => h9) rfl dX1_hearKnock_100 ?_
      refine nv_to (G 6) (congrArg nI ((hR.c5).trans (by rw [up_ne (by omega), up_ne (by omega), up_ne (by omega), up_ne (by omega), up_ne (by omega)]))) ?_
      refine lv_iconst (v := nI 1) hx hb dX1_hearKnock_103 (by decide) ?_
      refine nv_iadd hx hb dX1_hearKnock_104 ?_
      refine va_put (D := D) (ci := 3) (v := .int (nI (G 6 + 1))) (ty := .int) (C := RX1) (T := TX1) (N := 12) hx hb hts in_X1 tyX1 tyX1_ok nmX1 hown hK.1 hP (hD _) hS 0 rfl rfl 10 (by decide) fl_50 (fun _ h9 => h9) rfl (by decide +kernel) rfl rfl (Nat.le_of_ble_eq_true rfl) dX1_hearKnock_105 (fun H locs hP _ hS => ?_)
      obtain ⟨u, hR, hk, hP⟩ : ∃ w, hRel w (va_up (va_up (va_up (va_up (va_up (va_up G (3) (G 3 + 1)) (104 + d) ((G (104 + d) + 1))) (5) (G 5 + 1)) (64 + d) ((G (64 + d) + 1))) (72 + d) (1)) (6) (G 6 + 1)) ∧ hOk w ∧ va_P D vwCl (hw cI cD ad w) H := ⟨_, hR_c hR 5 (by decide) (by decide), hk, hP⟩
      have zq0 : (va_up (va_up (va_up (va_up (va_up (va_up G (3) (G 3 + 1)) (104 + d) ((G (104 + d) + 1))) (5) (G 5 + 1)) (64 + d) ((G (64 + d) + 1))) (72 + d) (1)) (6) (G 6 + 1)) 0 = G 0 := by rw [up_ne (by omega), up_ne (by omega), up_ne (by omega), up_ne (by omega), up_ne (by omega), up_ne (by omega)]
      have zq1 : (va_up (va_up (va_up (va_up (va_up (va_up G (3) (G 3 + 1)) (104 + d) ((G (104 + d) + 1))) (5) (G 5 + 1)) (64 + d) ((G (64 + d) + 1))) (72 + d) (1)) (6) (G 6 + 1)) 1 = G 1 := by rw [up_ne (by omega), up_ne (by omega), up_ne (by omega), up_ne (by omega), up_ne (by omega), up_ne (by omega)]
      have zq2 : (va_up (va_up (va_up (va_up (va_up (va_up G (3) (G 3 + 1)) (104 + d) ((G (104 + d) + 1))) (5) (G 5 + 1)) (64 + d) ((G (64 + d) + 1))) (72 + d) (1)) (6) (G 6 + 1)) 2 = G 2 := by rw [up_ne (by omega), up_ne (by omega), up_ne (by omega), up_ne (by omega), up_ne (by omega), up_ne (by omega)]
      refine lv_iload hx hb dX1_hearKnock_108 (lv_at hl 0 rfl) ?_
      exact nv_retG hq hx hb hr hlocks (nar_i _) (rfl) hS (by rw [if_neg c1, gWrong_eq (by omega), if_pos c2]; exact ⟨_, hR, hk, hP⟩) dX1_hearKnock_110
  · refine lv_aload_n hx hb dX1_hearKnock_37 rfl (lv_at hl 2 rfl) ?_
    refine lv_dup hx hb dX1_hearKnock_38 rfl ?_
    refine va_get (D := D) (ci := 3) (v := .int (nI (hs_c u 3))) (C := RX1) (T := TX1) (N := 12) hx hb hts in_X1 hown hK.1 hP 0 rfl rfl 8 (by decide) fl_44 (fun _ h9 => h9) rfl dX1_hearKnock_39 ?_
    refine nv_to (G 4) (congrArg nI ((hR.c3).trans (by rw [up_ne (by omega), up_ne (by omega)]))) ?_
    refine lv_iconst (v := nI 1) hx hb dX1_hearKnock_42 (by decide) ?_
    refine nv_iadd hx hb dX1_hearKnock_43 ?_
    refine va_put (D := D) (ci := 3) (v := .int (nI (G 4 + 1))) (ty := .int) (C := RX1) (T := TX1) (N := 12) hx hb hts in_X1 tyX1 tyX1_ok nmX1 hown hK.1 hP (hD _) hS 0 rfl rfl 8 (by decide) fl_44 (fun _ h9 => h9) rfl (by decide +kernel) rfl rfl (Nat.le_of_ble_eq_true rfl) dX1_hearKnock_44 (fun H locs hP _ hS => ?_)
    obtain ⟨u, hR, hk, hP⟩ : ∃ w, hRel w (va_up (va_up (va_up G (3) (G 3 + 1)) (104 + d) ((G (104 + d) + 1))) (4) (G 4 + 1)) ∧ hOk w ∧ va_P D vwCl (hw cI cD ad w) H := ⟨_, hR_c hR 3 (by decide) (by decide), hk, hP⟩
    have zq0 : (va_up (va_up (va_up G (3) (G 3 + 1)) (104 + d) ((G (104 + d) + 1))) (4) (G 4 + 1)) 0 = G 0 := by rw [up_ne (by omega), up_ne (by omega), up_ne (by omega)]
    have zq1 : (va_up (va_up (va_up G (3) (G 3 + 1)) (104 + d) ((G (104 + d) + 1))) (4) (G 4 + 1)) 1 = G 1 := by rw [up_ne (by omega), up_ne (by omega), up_ne (by omega)]
    have zq2 : (va_up (va_up (va_up G (3) (G 3 + 1)) (104 + d) ((G (104 + d) + 1))) (4) (G 4 + 1)) 2 = G 2 := by rw [up_ne (by omega), up_ne (by omega), up_ne (by omega)]
    refine lv_aload hx hb dX1_hearKnock_47 (lv_at hl 1 rfl) ?_
    refine lv_iconst (v := nI 1) hx hb dX1_hearKnock_49 (by decide) ?_
    refine va_put (D := D) (ci := 2) (v := .int (nI 1)) (ty := .boolean) (C := RX0) (T := TX0) (N := 10) hx hb hts in_X0 tyX0 tyX0_ok nmX0 hown hK.1 hP (hD _) hS (6 + (d)) (hw_at (d) (by omega)) rfl 9 (by decide) fl_130 (fun _ h9 => h9) rfl (by decide +kernel) (nar_z (by omega)) (fit_z (by omega)) (Nat.le_of_ble_eq_true rfl) dX1_hearKnock_50 (fun H locs hP _ hS => ?_)
    obtain ⟨u, hR, hk, hP⟩ : ∃ w, hRel w (va_up (va_up (va_up (va_up G (3) (G 3 + 1)) (104 + d) ((G (104 + d) + 1))) (4) (G 4 + 1)) (80 + d) (1)) ∧ hOk w ∧ va_P D vwCl (hw cI cD ad w) H := ⟨_, hR_d hR (d := d) 9 (by omega) (by rw [zq0]; omega) (by rw [zq1]; omega) (by rw [zq2]; omega) (by decide), hOk_d hk (by omega), hw_put (d) (by omega) hP⟩
    have zq0 : (va_up (va_up (va_up (va_up G (3) (G 3 + 1)) (104 + d) ((G (104 + d) + 1))) (4) (G 4 + 1)) (80 + d) (1)) 0 = G 0 := by rw [up_ne (by omega), up_ne (by omega), up_ne (by omega), up_ne (by omega)]
    have zq1 : (va_up (va_up (va_up (va_up G (3) (G 3 + 1)) (104 + d) ((G (104 + d) + 1))) (4) (G 4 + 1)) (80 + d) (1)) 1 = G 1 := by rw [up_ne (by omega), up_ne (by omega), up_ne (by omega), up_ne (by omega)]
    have zq2 : (va_up (va_up (va_up (va_up G (3) (G 3 + 1)) (104 + d) ((G (104 + d) + 1))) (4) (G 4 + 1)) (80 + d) (1)) 2 = G 2 := by rw [up_ne (by omega), up_ne (by omega), up_ne (by omega), up_ne (by omega)]
    refine lv_aload hx hb dX1_hearKnock_53 (lv_at hl 1 rfl) ?_
    refine lv_iconst (v := nI 0) hx hb dX1_hearKnock_55 (by decide) ?_
    refine va_put (D := D) (ci := 2) (v := .int (nI 0)) (ty := .int) (C := RX0) (T := TX0) (N := 10) hx hb hts in_X0 tyX0 tyX0_ok nmX0 hown hK.1 hP (hD _) hS (6 + (d)) (hw_at (d) (by omega)) rfl 6 (by decide) fl_134 (fun _ h9 => h9) rfl (by decide +kernel) rfl rfl (Nat.le_of_ble_eq_true rfl) dX1_hearKnock_56 (fun H locs hP _ hS => ?_)
    obtain ⟨u, hR, hk, hP⟩ : ∃ w, hRel w (va_up (va_up (va_up (va_up (va_up G (3) (G 3 + 1)) (104 + d) ((G (104 + d) + 1))) (4) (G 4 + 1)) (80 + d) (1)) (64 + d) (0)) ∧ hOk w ∧ va_P D vwCl (hw cI cD ad w) H := ⟨_, hR_d hR (d := d) 6 (by omega) (by rw [zq0]; omega) (by rw [zq1]; omega) (by rw [zq2]; omega) (by decide), hOk_d hk (by omega), hw_put (d) (by omega) hP⟩
    have zq0 : (va_up (va_up (va_up (va_up (va_up G (3) (G 3 + 1)) (104 + d) ((G (104 + d) + 1))) (4) (G 4 + 1)) (80 + d) (1)) (64 + d) (0)) 0 = G 0 := by rw [up_ne (by omega), up_ne (by omega), up_ne (by omega), up_ne (by omega), up_ne (by omega)]
    have zq1 : (va_up (va_up (va_up (va_up (va_up G (3) (G 3 + 1)) (104 + d) ((G (104 + d) + 1))) (4) (G 4 + 1)) (80 + d) (1)) (64 + d) (0)) 1 = G 1 := by rw [up_ne (by omega), up_ne (by omega), up_ne (by omega), up_ne (by omega), up_ne (by omega)]
    have zq2 : (va_up (va_up (va_up (va_up (va_up G (3) (G 3 + 1)) (104 + d) ((G (104 + d) + 1))) (4) (G 4 + 1)) (80 + d) (1)) (64 + d) (0)) 2 = G 2 := by rw [up_ne (by omega), up_ne (by omega), up_ne (by omega), up_ne (by omega), up_ne (by omega)]
    refine lv_iload hx hb dX1_hearKnock_59 (lv_at hl 0 rfl) ?_
    exact nv_retG hq hx hb hr hlocks (nar_i _) (rfl) hS (by rw [if_pos c1, gRight_eq (by omega)]; exact ⟨_, hR, hk, hP⟩) dX1_hearKnock_61
