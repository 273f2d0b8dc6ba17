set_option maxHeartbeats 1000000 in
set_option maxRecDepth 100000 in
theorem c_X6_isBelow (l : Launch) {D : va_G} {cI cC cD cR : ClassId} {sa : sA} {A : Nat → Prop} (x : Int32) (n : Nat) (hn : n < 2 ^ 31) : Met l yX6_isBelow wsX6_isBelow ({ frames := 0, cells := 0, slots := 0, locals := 0 }) (va_Pc [.int x, .int (nI n)] (tPre D [(cI, .int), (cC, .char), (cD, .object "DoorDialect$Door"), (cR, .object "DoorDialect$House")] nN sa A (fun _ => True))) (sQ (nI (bI (iR x n)))) 0 0 (fun _ => False) := by
  refine nv_met (cc := cX6_isBelow) (maxL := 2) (ret := (some .boolean)) (by decide) rfl (Nat.le_of_ble_eq_true rfl) ?_
  intro p0 e0 s m0 args below meth c0 Q hq hargs hnA hpre ls hl
  obtain ⟨hx, hb, hr, hts, hown, hlocks, hml⟩ := hnA
  obtain ⟨hP, hT⟩ := hpre
  have hK := hT.1
  have hown : s.vm.findClass RX6 = some m0.cls := hown
  have hl : lv_has ls 2 [(0, .int x), (1, .int (nI n))] := hl
  have hS : va_S A s.heap s.heap [] := va_S.rf
  refine lv_iload_n hx hb dX6_isBelow_0 rfl (lv_at hl 0 rfl) ?_
  refine lv_if_lt (tgt := 13) hx hb dX6_isBelow_1 (by decide) (fun c1 => ?_) (fun c1 => ?_)
  · refine lv_iconst (v := nI 0) hx hb dX6_isBelow_13 (by decide) ?_
    exact nv_retS hq hx hb hr hlocks (nar_z (by omega)) (nv_in0 (by unfold iR; simp only [Int32.lt_iff_toInt_lt, Int32.le_iff_toInt_le, nI_toInt hn, Int32.toInt_zero] at *; omega)) dX6_isBelow_14
  · refine lv_iload_n hx hb dX6_isBelow_4 rfl (lv_at hl 0 rfl) ?_
    refine lv_iload_n hx hb dX6_isBelow_5 rfl (lv_at hl 1 rfl) ?_
    refine lv_icmp_ge (tgt := 13) hx hb dX6_isBelow_6 (by decide) (fun c2 => ?_) (fun c2 => ?_)
    · refine lv_iconst (v := nI 0) hx hb dX6_isBelow_13 (by decide) ?_
      exact nv_retS hq hx hb hr hlocks (nar_z (by omega)) (nv_in0 (by unfold iR; simp only [Int32.lt_iff_toInt_lt, Int32.le_iff_toInt_le, nI_toInt hn, Int32.toInt_zero] at *; omega)) dX6_isBelow_14
    · refine lv_iconst (v := nI 1) hx hb dX6_isBelow_9 (by decide) ?_
      refine lv_goto (tgt := 14) hx hb dX6_isBelow_10 (by decide) ?_
      exact nv_retS hq hx hb hr hlocks (nar_z (by omega)) (nv_in1 (by unfold iR; simp only [Int32.lt_iff_toInt_lt, Int32.le_iff_toInt_le, nI_toInt hn, Int32.toInt_zero] at *; omega)) dX6_isBelow_14

set_option maxHeartbeats 1000000 in
set_option maxRecDepth 100000 in
theorem c_X6_numberOf (l : Launch) {D : va_G} {cI cC cD cR : ClassId} {sa : sA} {A : Nat → Prop} (z : Nat) (hz : z ≤ 1) : Met l yX6_numberOf wsX6_numberOf ({ frames := 0, cells := 0, slots := 0, locals := 0 }) (va_Pc [.int (nI z)] (tPre D [(cI, .int), (cC, .char), (cD, .object "DoorDialect$Door"), (cR, .object "DoorDialect$House")] nN sa A (fun _ => True))) (sQ (nI (z))) 0 0 (fun _ => False) := by
  refine nv_met (cc := cX6_numberOf) (maxL := 1) (ret := (some .int)) (by decide) rfl (Nat.le_of_ble_eq_true rfl) ?_
  intro p0 e0 s m0 args below meth c0 Q hq hargs hnA hpre ls hl
  obtain ⟨hx, hb, hr, hts, hown, hlocks, hml⟩ := hnA
  obtain ⟨hP, hT⟩ := hpre
  have hK := hT.1
  have hown : s.vm.findClass RX6 = some m0.cls := hown
  have hl : lv_has ls 1 [(0, .int (nI z))] := hl
  have hS : va_S A s.heap s.heap [] := va_S.rf
  refine lv_iload_n hx hb dX6_numberOf_0 rfl (lv_at hl 0 rfl) ?_
  refine nv_jn (α := Nat) (fun r => W p0 l e0 ({ frames := 0, cells := 0, slots := 0, locals := 0 }) s m0 args below meth c0 s.heap [] 0 0 Q (F0 m0 9 ls (.int (nI r) :: []))) ((if z = 0 then 0 else 1)) (fun r er => ?_) (fun hJ => ?_)
  · subst er
    exact nv_retS hq hx hb hr hlocks (nar_i _) (nv_z01 hz) dX6_numberOf_9
  · refine nv_if_eq (tgt := 8) hx hb dX6_numberOf_1 (by decide) (by omega) (fun c1 => ?_) (fun c1 => ?_)
    · refine lv_iconst (v := nI 0) hx hb dX6_numberOf_8 (by decide) ?_
      exact hJ _ (if_pos c1).symm
    · refine lv_iconst (v := nI 1) hx hb dX6_numberOf_4 (by decide) ?_
      refine lv_goto (tgt := 9) hx hb dX6_numberOf_5 (by decide) ?_
      exact hJ _ (if_neg c1).symm

set_option maxHeartbeats 1000000 in
set_option maxRecDepth 100000 in
theorem c_X1_letterPlace (l : Launch) {D : va_G} {cI cC cD cR : ClassId} {sa : sA} {A : Nat → Prop} (a c n : Nat) : Met l yX1_letterPlace wsX1_letterPlace ({ frames := 0, cells := 0, slots := 0, locals := 0 }) (va_Pc [.int (nI a), .int (nI c), .int (nI n)] (tPre D [(cI, .int), (cC, .char), (cD, .object "DoorDialect$Door"), (cR, .object "DoorDialect$House")] nN sa A (fun _ => True))) (sQ (nI ((a * 4 + c) * 2 + n))) 0 0 (fun _ => False) := by
  refine nv_met (cc := cX1_letterPlace) (maxL := 3) (ret := (some .int)) (by decide) rfl (Nat.le_of_ble_eq_true rfl) ?_
  intro p0 e0 s m0 args below meth c0 Q hq hargs hnA hpre ls hl
  obtain ⟨hx, hb, hr, hts, hown, hlocks, hml⟩ := hnA
  obtain ⟨hP, hT⟩ := hpre
  have hK := hT.1
  have hown : s.vm.findClass RX1 = some m0.cls := hown
  have hl : lv_has ls 3 [(0, .int (nI a)), (1, .int (nI c)), (2, .int (nI n))] := hl
  have hS : va_S A s.heap s.heap [] := va_S.rf
  refine lv_iload_n hx hb dX1_letterPlace_0 rfl (lv_at hl 0 rfl) ?_
  refine lv_iconst (v := nI 4) hx hb dX1_letterPlace_1 (by decide) ?_
  refine nv_imul hx hb dX1_letterPlace_2 ?_
  refine lv_iload_n hx hb dX1_letterPlace_3 rfl (lv_at hl 1 rfl) ?_
  refine nv_iadd hx hb dX1_letterPlace_4 ?_
  refine lv_iconst (v := nI 2) hx hb dX1_letterPlace_5 (by decide) ?_
  refine nv_imul hx hb dX1_letterPlace_6 ?_
  refine lv_iload_n hx hb dX1_letterPlace_7 rfl (lv_at hl 2 rfl) ?_
  refine nv_iadd hx hb dX1_letterPlace_8 ?_
  exact nv_retS hq hx hb hr hlocks (nar_i _) (rfl) dX1_letterPlace_9

set_option maxHeartbeats 1000000 in
set_option maxRecDepth 100000 in
theorem c_X1_isDoor (l : Launch) {D : va_G} {cI cC cD cR : ClassId} {sa : sA} {A : Nat → Prop} {ad : Nat → Nat} {u : hS} {G : Nat → Nat} {b : Nat} (hR : hRel u G) (hG : gWf b G) (x : Int32) : Met l yX1_isDoor wsX1_isDoor ({ frames := 1, cells := 0, slots := 0, locals := 21 }) (va_Pc [.ref (ad 0), .int x] (tPre D [(cI, .int), (cC, .char), (cD, .object "DoorDialect$Door"), (cR, .object "DoorDialect$House")] nN sa A (fun H => va_P D vwCl (hw cI cD ad u) H))) (sQ (nI (bI (iR x (G 0))))) 0 0 (fun _ => False) := by
  refine nv_met (cc := cX1_isDoor) (maxL := 2) (ret := (some .boolean)) (by decide) rfl (Nat.le_of_ble_eq_true rfl) ?_
  intro p0 e0 s m0 args below meth c0 Q hq hargs hnA hpre ls hl
  obtain ⟨hx, hb, hr, hts, hown, hlocks, hml⟩ := hnA
  obtain ⟨hP, hT⟩ := hpre
  have hK := hT.1
  have hown : s.vm.findClass RX1 = some m0.cls := hown
  have hP : va_P D vwCl (hw cI cD ad u) s.heap := hP
  have hl : lv_has ls 2 [(0, .ref (ad 0)), (1, .int x)] := hl
  have hS : va_S A s.heap s.heap [] := va_S.rf
  have in_X1 : ∀ w ∈ wsX10, w ∈ wsX1_isDoor := by decide +kernel
  have fl_34 := hts (.fieldLink RX1 34 "DoorDialect$House" "doorCount" "I") (by decide +kernel)
  obtain ⟨g_b, g_k, g_0, g_1, g_2, g_e, g_d, g_t, g_y, g_s, g_h⟩ := id hG
  refine lv_iload_n hx hb dX1_isDoor_0 rfl (lv_at hl 1 rfl) ?_
  refine lv_aload_n hx hb dX1_isDoor_1 rfl (lv_at hl 0 rfl) ?_
  refine va_get (D := D) (ci := 3) (v := .int (nI (hs_c u 0))) (C := RX1) (T := TX1) (N := 12) hx hb hts in_X1 hown hK.1 hP 0 rfl rfl 5 (by decide) fl_34 (fun _ h9 => h9) rfl dX1_isDoor_2 ?_
  refine nv_to (G 0) (congrArg nI (hR.c0)) ?_
  refine nv_kS (va_runSN (As := [.int x, .int (nI (G 0))]) (rest := []) ⟨hx, hb, hml, hown, hts⟩ (c_X6_isBelow l (x) (G 0) (by omega)) ⟨va_cnB 2 hts gX1_isDoor_X6_isBelow_n78 rfl rfl rfl (hK.2 (RX1, 78, yX6_isBelow, RX6) (List.mem_of_getElem? (i := 0) rfl)) (hts (.initialized RX6) (by decide +kernel)) (by decide +kernel) ⟨Nat.le_of_ble_eq_true rfl, Nat.le_of_ble_eq_true rfl⟩, (hts (.static yX6_isBelow) (by decide +kernel)), trivial⟩ (nt_pS hT hS trivial) rfl rfl hl.1 rfl (lv_room (Nat.le_of_ble_eq_true rfl)) dX1_isDoor_5 ⟨Nat.zero_le _, Nat.zero_le _⟩) ?_
  exact nv_retS hq hx hb hr hlocks (nar_zb _) (rfl) dX1_isDoor_8

theorem gEndAt_lp (a c n : Nat) : 8 + ((a * 4 + c) * 2 + n) = gEndAt a c n := by unfold gEndAt; omega

set_option maxHeartbeats 1000000 in
set_option maxRecDepth 100000 in
theorem c_X1_letterAt (l : Launch) {D : va_G} {cI cC cD cR : ClassId} {sa : sA} {A : Nat → Prop} {ad : Nat → Nat} {u : hS} {G : Nat → Nat} {b : Nat} (hR : hRel u G) (hG : gWf b G) (a c n : Nat) (ha : a < 3) (hc : c < 4) (hn : n ≤ 1) : Met l yX1_letterAt wsX1_letterAt ({ frames := 1, cells := 0, slots := 0, locals := 22 }) (va_Pc [.ref (ad 0), .int (nI a), .int (nI c), .int (nI n)] (tPre D [(cI, .int), (cC, .char), (cD, .object "DoorDialect$Door"), (cR, .object "DoorDialect$House")] nN sa A (fun H => va_P D vwCl (hw cI cD ad u) H))) (sQ (nI (G (gEndAt a c n)))) 0 0 (fun _ => False) := by
  refine nv_met (cc := cX1_letterAt) (maxL := 4) (ret := (some .int)) (by decide) rfl (Nat.le_of_ble_eq_true rfl) ?_
  intro p0 e0 s m0 args below meth c0 Q hq hargs hnA hpre ls hl
  obtain ⟨hx, hb, hr, hts, hown, hlocks, hml⟩ := hnA
  obtain ⟨hP, hT⟩ := hpre
  have hK := hT.1
  have hown : s.vm.findClass RX1 = some m0.cls := hown
  have hP : va_P D vwCl (hw cI cD ad u) s.heap := hP
  have hl : lv_has ls 4 [(0, .ref (ad 0)), (1, .int (nI a)), (2, .int (nI c)), (3, .int (nI n))] := hl
  have hS : va_S A s.heap s.heap [] := va_S.rf
  have in_X1 : ∀ w ∈ wsX10, w ∈ wsX1_letterAt := by decide +kernel
  have fl_27 := hts (.fieldLink RX1 27 "DoorDialect$House" "letters" "[I") (by decide +kernel)
  obtain ⟨g_b, g_k, g_0, g_1, g_2, g_e, g_d, g_t, g_y, g_s, g_h⟩ := id hG
  refine lv_aload_n hx hb dX1_letterAt_0 rfl (lv_at hl 0 rfl) ?_
  refine va_get (D := D) (ci := 3) (v := .ref (ad 5)) (C := RX1) (T := TX1) (N := 12) hx hb hts in_X1 hown hK.1 hP 0 rfl rfl 4 (by decide) fl_27 (fun _ h9 => h9) rfl dX1_letterAt_1 ?_
  refine lv_iload_n hx hb dX1_letterAt_4 rfl (lv_at hl 1 rfl) ?_
  refine lv_iload_n hx hb dX1_letterAt_5 rfl (lv_at hl 2 rfl) ?_
  refine lv_iload_n hx hb dX1_letterAt_6 rfl (lv_at hl 3 rfl) ?_
  refine nv_kS (va_runS (As := [.int (nI a), .int (nI c), .int (nI n)]) (rest := [.ref (ad 5)]) ⟨hx, hb, hml, hown, hts⟩ (c_X1_letterPlace l a c n) (va_cwS 3 hts gX1_letterAt_X1_letterPlace rfl rfl rfl (by decide +kernel) ⟨Nat.le_of_ble_eq_true rfl, Nat.le_of_ble_eq_true rfl⟩) (nt_pS hT hS trivial) rfl rfl hl.1 rfl (lv_room (Nat.le_of_ble_eq_true rfl)) dX1_letterAt_7 ⟨Nat.zero_le _, Nat.zero_le _⟩) ?_
  refine nv_gald (i := (a * 4 + c) * 2 + n) hx hb hK.1 hP 5 0 rfl rfl (by omega) (by decide) dX1_letterAt_10 ?_
  refine nv_to (G (8 + ((a * 4 + c) * 2 + n))) (congrArg nI (hR.e (k := (a * 4 + c) * 2 + n) (by omega))) ?_
  exact nv_retS hq hx hb hr hlocks (nar_i _) (congrArg (fun z => nI (G z)) (gEndAt_lp a c n)) dX1_letterAt_11

set_option maxHeartbeats 1000000 in
set_option maxRecDepth 100000 in
theorem c_X1_signAt (l : Launch) {D : va_G} {cI cC cD cR : ClassId} {sa : sA} {A : Nat → Prop} {ad : Nat → Nat} {u : hS} {G : Nat → Nat} {b : Nat} (hR : hRel u G) (hG : gWf b G) (a c n : Nat) (ha : a < 3) (hc : c < 4) (hn : n ≤ 1) : Met l yX1_signAt wsX1_signAt ({ frames := 2, cells := 0, slots := 0, locals := 45 }) (va_Pc [.ref (ad 0), .int (nI a), .int (nI c), .int (nI n)] (tPre D [(cI, .int), (cC, .char), (cD, .object "DoorDialect$Door"), (cR, .object "DoorDialect$House")] nN sa A (fun H => va_P D vwCl (hw cI cD ad u) H))) (sQ (nI (97 + G (gEndAt a c n)))) 0 0 (fun _ => False) := by
  refine nv_met (cc := cX1_signAt) (maxL := 4) (ret := (some .char)) (by decide) rfl (Nat.le_of_ble_eq_true rfl) ?_
  intro p0 e0 s m0 args below meth c0 Q hq hargs hnA hpre ls hl
  obtain ⟨hx, hb, hr, hts, hown, hlocks, hml⟩ := hnA
  obtain ⟨hP, hT⟩ := hpre
  have hK := hT.1
  have hown : s.vm.findClass RX1 = some m0.cls := hown
  have hP : va_P D vwCl (hw cI cD ad u) s.heap := hP
  have hl : lv_has ls 4 [(0, .ref (ad 0)), (1, .int (nI a)), (2, .int (nI c)), (3, .int (nI n))] := hl
  have hS : va_S A s.heap s.heap [] := va_S.rf
  obtain ⟨g_b, g_k, g_0, g_1, g_2, g_e, g_d, g_t, g_y, g_s, g_h⟩ := id hG
  have hen := gEnds_le hG ha hn c hc
  refine lv_bipush (v := nI 97) hx hb dX1_signAt_0 (by decide) ?_
  refine lv_aload_n hx hb dX1_signAt_2 rfl (lv_at hl 0 rfl) ?_
  refine lv_iload_n hx hb dX1_signAt_3 rfl (lv_at hl 1 rfl) ?_
  refine lv_iload_n hx hb dX1_signAt_4 rfl (lv_at hl 2 rfl) ?_
  refine lv_iload_n hx hb dX1_signAt_5 rfl (lv_at hl 3 rfl) ?_
  refine nv_kS (va_runV (As := [.int (nI a), .int (nI c), .int (nI n)]) (rest := [.int (nI 97)]) ⟨hx, hb, hml, hown, hts⟩ (c_X1_letterAt l hR hG a c n (by omega) (by omega) (by omega)) (cwV 3 hts gX1_signAt_X1_letterAt rfl rfl rfl (by decide +kernel) ⟨Nat.le_of_ble_eq_true rfl, Nat.le_of_ble_eq_true rfl⟩) (nt_pV hT hS hP (va_recv hK.1 hP (ci := 3) (q0 := 0) rfl rfl)) rfl rfl hl.1 rfl (lv_room (Nat.le_of_ble_eq_true rfl)) dX1_signAt_6 ⟨Nat.zero_le _, Nat.zero_le _⟩) ?_
  refine nv_iadd hx hb dX1_signAt_9 ?_
  refine lv_i2c (v := nI (97 + (G (gEndAt a c n)))) hx hb dX1_signAt_10 (nv_i2c (by omega)) ?_
  exact nv_retS hq hx hb hr hlocks (nar_c (by omega)) (rfl) dX1_signAt_11

set_option maxHeartbeats 1000000 in
set_option maxRecDepth 100000 in
theorem c_X1_placesWith (l : Launch) {D : va_G} {cI cC cD cR : ClassId} {sa : sA} {A : Nat → Prop} {ad : Nat → Nat} {u : hS} {G : Nat → Nat} {b : Nat} (hR : hRel u G) (hG : gWf b G) (x : Int32) : Met l yX1_placesWith wsX1_placesWith ({ frames := 0, cells := 0, slots := 0, locals := 0 }) (va_Pc [.ref (ad 0), .int x] (tPre D [(cI, .int), (cC, .char), (cD, .object "DoorDialect$Door"), (cR, .object "DoorDialect$House")] nN sa A (fun H => va_P D vwCl (hw cI cD ad u) H))) (sQ (nI (gOften G x))) 0 0 (fun _ => False) := by
  refine nv_met (cc := cX1_placesWith) (maxL := 4) (ret := (some .int)) (by decide) rfl (Nat.le_of_ble_eq_true rfl) ?_
  intro p0 e0 s m0 args below meth c0 Q hq hargs hnA hpre ls hl
  obtain ⟨hx, hb, hr, hts, hown, hlocks, hml⟩ := hnA
  obtain ⟨hP, hT⟩ := hpre
  have hK := hT.1
  have hown : s.vm.findClass RX1 = some m0.cls := hown
  have hP : va_P D vwCl (hw cI cD ad u) s.heap := hP
  have hl : lv_has ls 4 [(0, .ref (ad 0)), (1, .int x)] := hl
  have hS : va_S A s.heap s.heap [] := va_S.rf
  have in_X1 : ∀ w ∈ wsX10, w ∈ wsX1_placesWith := by decide +kernel
  have fl_27 := hts (.fieldLink RX1 27 "DoorDialect$House" "letters" "[I") (by decide +kernel)
  obtain ⟨g_b, g_k, g_0, g_1, g_2, g_e, g_d, g_t, g_y, g_s, g_h⟩ := id hG
  refine lv_iconst (v := nI 0) hx hb dX1_placesWith_0 (by decide) ?_
  refine lv_istore_n (lv' := [(2, .int (nI 0)), (0, .ref (ad 0)), (1, .int x)]) hx hb dX1_placesWith_1 rfl hl (by decide) rfl (fun ls hl => ?_)
  refine lv_iconst (v := nI 0) hx hb dX1_placesWith_2 (by decide) ?_
  refine lv_istore_n (lv' := [(3, .int (nI 0)), (2, .int (nI 0)), (0, .ref (ad 0)), (1, .int x)]) hx hb dX1_placesWith_3 rfl hl (by decide) rfl (fun ls hl => ?_)
  have hloop1 : ∀ (nn : Nat) (d : Nat) (t9 : Nat), (d ≤ 24) → (t9 = sm (fun d => bI (nI (G (8 + d)) = x)) d) → 24 - d < nn → ∀ (ls : Array Slot), lv_has ls 4 [(3, .int (nI d)), (2, .int (nI t9)), (0, .ref (ad 0)), (1, .int x)] → W p0 l e0 ({ frames := 0, cells := 0, slots := 0, locals := 0 }) s m0 args below meth c0 s.heap [] 0 0 Q (F0 m0 4 ls []) := by
    intro nn4
    induction nn4 with
    | zero => intro d t9 hd9 ht9 hn0  _ _; exact absurd hn0 (Nat.not_lt_zero _)
    | succ nn4 ih4 =>
      intro d t9 hd9 ht9 hn4  ls hl
      refine lv_iload_n hx hb dX1_placesWith_4 rfl (lv_at hl 0 rfl) ?_
      refine lv_aload_n hx hb dX1_placesWith_5 rfl (lv_at hl 2 rfl) ?_
      refine va_get (D := D) (ci := 3) (v := .ref (ad 5)) (C := RX1) (T := TX1) (N := 12) hx hb hts in_X1 hown hK.1 hP 0 rfl rfl 4 (by decide) fl_27 (fun _ h9 => h9) rfl dX1_placesWith_6 ?_
      refine va_alen (v := nI 24) hx hb hK.1 hP 5 0 (ty := .int) rfl rfl rfl dX1_placesWith_9 ?_
      refine nv_icmp_ge (tgt := 32) hx hb dX1_placesWith_10 (by decide) (by omega) (by omega) (fun c2 => ?_) (fun c2 => ?_)
      · refine lv_iload_n hx hb dX1_placesWith_32 rfl (lv_at hl 1 rfl) ?_
        exact nv_retS hq hx hb hr hlocks (nar_i _) (by rw [ht9, show d = 24 by omega] <;> rfl) dX1_placesWith_33
      · refine lv_aload_n hx hb dX1_placesWith_13 rfl (lv_at hl 2 rfl) ?_
        refine va_get (D := D) (ci := 3) (v := .ref (ad 5)) (C := RX1) (T := TX1) (N := 12) hx hb hts in_X1 hown hK.1 hP 0 rfl rfl 4 (by decide) fl_27 (fun _ h9 => h9) rfl dX1_placesWith_14 ?_
        refine lv_iload_n hx hb dX1_placesWith_17 rfl (lv_at hl 0 rfl) ?_
        refine nv_gald (i := d) hx hb hK.1 hP 5 0 rfl rfl (by omega) (by decide) dX1_placesWith_18 ?_
        refine nv_to (G (8 + d)) (congrArg nI (hR.e (k := d) (by omega))) ?_
        refine lv_iload_n hx hb dX1_placesWith_19 rfl (lv_at hl 3 rfl) ?_
        refine lv_icmp_ne (tgt := 26) hx hb dX1_placesWith_20 (by decide) (fun c3 => ?_) (fun c3 => ?_)
        · refine lv_iinc (v := nI (d + 1)) (lv' := [(3, .int (nI (d + 1))), (2, .int (nI t9)), (0, .ref (ad 0)), (1, .int x)]) hx hb dX1_placesWith_26 hl (k := 0) rfl (by show nI _ + Int32.ofInt 1 = _; exact nI_add _ 1) (by decide) rfl (fun ls hl => ?_)
          refine lv_goto (tgt := 4) hx hb dX1_placesWith_29 (by decide) ?_
          exact ih4  (d + 1) t9 ((by omega)) ((by rw [ht9]; show _ = sm (fun d => bI (nI (G (8 + d)) = x)) d + bI _; rw [bI_f c3] <;> rfl)) (by omega) ls (lv_sub hl [0, 1, 2, 3] rfl)
        · refine lv_iinc (v := nI (t9 + 1)) (lv' := [(2, .int (nI (t9 + 1))), (3, .int (nI d)), (0, .ref (ad 0)), (1, .int x)]) hx hb dX1_placesWith_23 hl (k := 1) rfl (by show nI _ + Int32.ofInt 1 = _; exact nI_add _ 1) (by decide) rfl (fun ls hl => ?_)
          refine lv_iinc (v := nI (d + 1)) (lv' := [(3, .int (nI (d + 1))), (2, .int (nI (t9 + 1))), (0, .ref (ad 0)), (1, .int x)]) hx hb dX1_placesWith_26 hl (k := 1) rfl (by show nI _ + Int32.ofInt 1 = _; exact nI_add _ 1) (by decide) rfl (fun ls hl => ?_)
          refine lv_goto (tgt := 4) hx hb dX1_placesWith_29 (by decide) ?_
          exact ih4  (d + 1) (t9 + 1) ((by omega)) ((by rw [ht9]; show _ = sm (fun d => bI (nI (G (8 + d)) = x)) d + bI _; rw [bI_t c3] <;> rfl)) (by omega) ls (lv_sub hl [0, 1, 2, 3] rfl)
  exact hloop1 _ 0 0 ((Nat.zero_le _)) (rfl) (Nat.lt_succ_self _) ls (lv_sub hl [0, 1, 2, 3] rfl)

set_option maxHeartbeats 1000000 in
set_option maxRecDepth 100000 in
theorem c_X1_unlikeEndings (l : Launch) {D : va_G} {cI cC cD cR : ClassId} {sa : sA} {A : Nat → Prop} {ad : Nat → Nat} {u : hS} {G : Nat → Nat} {b : Nat} (hR : hRel u G) (hG : gWf b G)  : Met l yX1_unlikeEndings wsX1_unlikeEndings ({ frames := 1, cells := 0, slots := 0, locals := 23 }) (va_Pc [.ref (ad 0)] (tPre D [(cI, .int), (cC, .char), (cD, .object "DoorDialect$Door"), (cR, .object "DoorDialect$House")] nN sa A (fun H => va_P D vwCl (hw cI cD ad u) H))) (sQ (nI (gUnlike G))) 0 0 (fun _ => False) := by
  refine nv_met (cc := cX1_unlikeEndings) (maxL := 3) (ret := (some .int)) (by decide) rfl (Nat.le_of_ble_eq_true rfl) ?_
  intro p0 e0 s m0 args below meth c0 Q hq hargs hnA hpre ls hl
  obtain ⟨hx, hb, hr, hts, hown, hlocks, hml⟩ := hnA
  obtain ⟨hP, hT⟩ := hpre
  have hK := hT.1
  have hown : s.vm.findClass RX1 = some m0.cls := hown
  have hP : va_P D vwCl (hw cI cD ad u) s.heap := hP
  have hl : lv_has ls 3 [(0, .ref (ad 0))] := hl
  have hS : va_S A s.heap s.heap [] := va_S.rf
  obtain ⟨g_b, g_k, g_0, g_1, g_2, g_e, g_d, g_t, g_y, g_s, g_h⟩ := id hG
  refine lv_iconst (v := nI 0) hx hb dX1_unlikeEndings_0 (by decide) ?_
  refine lv_istore_n (lv' := [(1, .int (nI 0)), (0, .ref (ad 0))]) hx hb dX1_unlikeEndings_1 rfl hl (by decide) rfl (fun ls hl => ?_)
  refine lv_iconst (v := nI 0) hx hb dX1_unlikeEndings_2 (by decide) ?_
  refine lv_istore_n (lv' := [(2, .int (nI 0)), (1, .int (nI 0)), (0, .ref (ad 0))]) hx hb dX1_unlikeEndings_3 rfl hl (by decide) rfl (fun ls hl => ?_)
  have hloop1 : ∀ (nn : Nat) (x : Nat) (t9 : Nat), (x ≤ 26) → (t9 = sm (fun x => bI (0 < gOften G (nI x))) x) → 26 - x < nn → ∀ (ls : Array Slot), lv_has ls 3 [(2, .int (nI x)), (1, .int (nI t9)), (0, .ref (ad 0))] → W p0 l e0 ({ frames := 1, cells := 0, slots := 0, locals := 23 }) s m0 args below meth c0 s.heap [] 0 0 Q (F0 m0 4 ls []) := by
    intro nn4
    induction nn4 with
    | zero => intro x t9 hd9 ht9 hn0  _ _; exact absurd hn0 (Nat.not_lt_zero _)
    | succ nn4 ih4 =>
      intro x t9 hd9 ht9 hn4  ls hl
      refine lv_iload_n hx hb dX1_unlikeEndings_4 rfl (lv_at hl 0 rfl) ?_
      refine lv_bipush (v := nI 26) hx hb dX1_unlikeEndings_5 (by decide) ?_
      refine nv_icmp_ge (tgt := 27) hx hb dX1_unlikeEndings_7 (by decide) (by omega) (by omega) (fun c2 => ?_) (fun c2 => ?_)
      · refine lv_iload_n hx hb dX1_unlikeEndings_27 rfl (lv_at hl 1 rfl) ?_
        exact nv_retS hq hx hb hr hlocks (nar_i _) (by rw [ht9, show x = 26 by omega] <;> rfl) dX1_unlikeEndings_28
      · refine lv_aload_n hx hb dX1_unlikeEndings_10 rfl (lv_at hl 2 rfl) ?_
        refine lv_iload_n hx hb dX1_unlikeEndings_11 rfl (lv_at hl 0 rfl) ?_
        refine nv_kS (va_runV (As := [.int (nI x)]) (rest := []) ⟨hx, hb, hml, hown, hts⟩ (c_X1_placesWith l hR hG (nI (x))) (cwV 1 hts gX1_unlikeEndings_X1_placesWith rfl rfl rfl (by decide +kernel) ⟨Nat.le_of_ble_eq_true rfl, Nat.le_of_ble_eq_true rfl⟩) (nt_pV hT hS hP (va_recv hK.1 hP (ci := 3) (q0 := 0) rfl rfl)) rfl rfl hl.1 rfl (lv_room (Nat.le_of_ble_eq_true rfl)) dX1_unlikeEndings_12 ⟨Nat.zero_le _, Nat.zero_le _⟩) ?_
        refine nv_if_le (tgt := 21) hx hb dX1_unlikeEndings_15 (by decide) (by exact gOften_lt G _) (fun c3 => ?_) (fun c3 => ?_)
        · refine lv_iinc (v := nI (x + 1)) (lv' := [(2, .int (nI (x + 1))), (1, .int (nI t9)), (0, .ref (ad 0))]) hx hb dX1_unlikeEndings_21 hl (k := 0) rfl (by show nI _ + Int32.ofInt 1 = _; exact nI_add _ 1) (by decide) rfl (fun ls hl => ?_)
          refine lv_goto (tgt := 4) hx hb dX1_unlikeEndings_24 (by decide) ?_
          exact ih4  (x + 1) t9 ((by omega)) ((by rw [ht9]; show _ = sm (fun x => bI (0 < gOften G (nI x))) x + bI _; rw [bI_f (Nat.not_lt.mpr (Nat.le_of_eq c3))] <;> rfl)) (by omega) ls (lv_sub hl [0, 1, 2] rfl)
        · refine lv_iinc (v := nI (t9 + 1)) (lv' := [(1, .int (nI (t9 + 1))), (2, .int (nI x)), (0, .ref (ad 0))]) hx hb dX1_unlikeEndings_18 hl (k := 1) rfl (by show nI _ + Int32.ofInt 1 = _; exact nI_add _ 1) (by decide) rfl (fun ls hl => ?_)
          refine lv_iinc (v := nI (x + 1)) (lv' := [(2, .int (nI (x + 1))), (1, .int (nI (t9 + 1))), (0, .ref (ad 0))]) hx hb dX1_unlikeEndings_21 hl (k := 1) rfl (by show nI _ + Int32.ofInt 1 = _; exact nI_add _ 1) (by decide) rfl (fun ls hl => ?_)
          refine lv_goto (tgt := 4) hx hb dX1_unlikeEndings_24 (by decide) ?_
          exact ih4  (x + 1) (t9 + 1) ((by omega)) ((by rw [ht9]; show _ = sm (fun x => bI (0 < gOften G (nI x))) x + bI _; rw [bI_t (Nat.pos_of_ne_zero c3)] <;> rfl)) (by omega) ls (lv_sub hl [0, 1, 2] rfl)
  exact hloop1 _ 0 0 ((Nat.zero_le _)) (rfl) (Nat.lt_succ_self _) ls (lv_sub hl [0, 1, 2] rfl)

set_option maxHeartbeats 1000000 in
set_option maxRecDepth 100000 in
theorem c_X1_caseOf (l : Launch) {D : va_G} {cI cC cD cR : ClassId} {sa : sA} {A : Nat → Prop} {ad : Nat → Nat} {u : hS} {G : Nat → Nat} {b : Nat} (hR : hRel u G) (hG : gWf b G) (d : Nat) (hd : d < G 0) : Met l yX1_caseOf wsX1_caseOf ({ frames := 1, cells := 0, slots := 0, locals := 21 }) (va_Pc [.ref (ad 0), .ref (ad (6 + d))] (tPre D [(cI, .int), (cC, .char), (cD, .object "DoorDialect$Door"), (cR, .object "DoorDialect$House")] nN sa A (fun H => va_P D vwCl (hw cI cD ad u) H))) (sQ (nI (gCase G d))) 0 0 (fun _ => False) := by
  refine nv_met (cc := cX1_caseOf) (maxL := 2) (ret := (some .int)) (by decide) rfl (Nat.le_of_ble_eq_true rfl) ?_
  intro p0 e0 s m0 args below meth c0 Q hq hargs hnA hpre ls hl
  obtain ⟨hx, hb, hr, hts, hown, hlocks, hml⟩ := hnA
  obtain ⟨hP, hT⟩ := hpre
  have hK := hT.1
  have hown : s.vm.findClass RX1 = some m0.cls := hown
  have hP : va_P D vwCl (hw cI cD ad u) s.heap := hP
  have hl : lv_has ls 2 [(0, .ref (ad 0)), (1, .ref (ad (6 + d)))] := hl
  have hS : va_S A s.heap s.heap [] := va_S.rf
  have in_X0 : ∀ w ∈ wsX00, w ∈ wsX1_caseOf := by decide +kernel
  have in_X1 : ∀ w ∈ wsX10, w ∈ wsX1_caseOf := by decide +kernel
  have fl_17 := hts (.fieldLink RX1 17 "DoorDialect$House" "governed" "[I") (by decide +kernel)
  have fl_38 := hts (.fieldLink RX1 38 "DoorDialect$House" "thresholdCount" "I") (by decide +kernel)
  have fl_85 := hts (.fieldLink RX1 85 "DoorDialect$Door" "threshold" "I") (by decide +kernel)
  obtain ⟨g_b, g_k, g_0, g_1, g_2, g_e, g_d, g_t, g_y, g_s, g_h⟩ := id hG
  obtain ⟨w_a, w_g, w_n, w_s, w_w, w_l, w_o, w_x, w_y, w_1, w_2, w_3, w_4⟩ := hG.door (d := d) (by omega)
  have hcc := gWf_case hG (d := d) (by omega)
  refine lv_aload_n hx hb dX1_caseOf_0 rfl (lv_at hl 1 rfl) ?_
  refine va_get (D := D) (ci := 2) (v := .int (nI (hs_d u (d) 5) - nI 1)) (C := RX0) (T := TX0) (N := 10) hx hb hts in_X0 hown hK.1 hP (6 + (d)) (hw_at (d) (by omega)) rfl 5 (by decide) fl_85 (fun _ h9 => h9) rfl dX1_caseOf_1 ?_
  refine iv_to (nI (G (56 + d)) - nI 1) (congrArg (fun z => nI z - nI 1) (hR.d5 (d := d) (by omega))) ?_
  refine lv_aload_n hx hb dX1_caseOf_4 rfl (lv_at hl 0 rfl) ?_
  refine va_get (D := D) (ci := 3) (v := .int (nI (hs_c u 1))) (C := RX1) (T := TX1) (N := 12) hx hb hts in_X1 hown hK.1 hP 0 rfl rfl 6 (by decide) fl_38 (fun _ h9 => h9) rfl dX1_caseOf_5 ?_
  refine nv_to (G 1) (congrArg nI (hR.c1)) ?_
  refine nv_kS (va_runSN (As := [.int (nI (G (56 + d)) - nI 1), .int (nI (G 1))]) (rest := []) ⟨hx, hb, hml, hown, hts⟩ (c_X6_isBelow l (nI (G (56 + d)) - nI 1) (G 1) (by omega)) ⟨va_cnB 2 hts gX1_caseOf_X6_isBelow_n78 rfl rfl rfl (hK.2 (RX1, 78, yX6_isBelow, RX6) (List.mem_of_getElem? (i := 0) rfl)) (hts (.initialized RX6) (by decide +kernel)) (by decide +kernel) ⟨Nat.le_of_ble_eq_true rfl, Nat.le_of_ble_eq_true rfl⟩, (hts (.static yX6_isBelow) (by decide +kernel)), trivial⟩ (nt_pS hT hS trivial) rfl rfl hl.1 rfl (lv_room (Nat.le_of_ble_eq_true rfl)) dX1_caseOf_8 ⟨Nat.zero_le _, Nat.zero_le _⟩) ?_
  refine nv_ifb_eq (tgt := 26) hx hb dX1_caseOf_11 (by decide) (fun c1 => ?_) (fun c1 => ?_)
  · have c1 := Decidable.not_not.mp (fun q => c1 ((iR_pred w_s (by omega)).mpr q))
    refine lv_iconst (v := nI 0) hx hb dX1_caseOf_26 (by decide) ?_
    exact nv_retS hq hx hb hr hlocks (nar_i _) (by rw [show gCase G d = 0 from if_pos c1]) dX1_caseOf_27
  · have c1 := (iR_pred w_s (by omega)).mp c1
    refine lv_aload_n hx hb dX1_caseOf_14 rfl (lv_at hl 0 rfl) ?_
    refine va_get (D := D) (ci := 3) (v := .ref (ad 2)) (C := RX1) (T := TX1) (N := 12) hx hb hts in_X1 hown hK.1 hP 0 rfl rfl 1 (by decide) fl_17 (fun _ h9 => h9) rfl dX1_caseOf_15 ?_
    refine lv_aload_n hx hb dX1_caseOf_18 rfl (lv_at hl 1 rfl) ?_
    refine va_get (D := D) (ci := 2) (v := .int (nI (hs_d u (d) 5) - nI 1)) (C := RX0) (T := TX0) (N := 10) hx hb hts in_X0 hown hK.1 hP (6 + (d)) (hw_at (d) (by omega)) rfl 5 (by decide) fl_85 (fun _ h9 => h9) rfl dX1_caseOf_19 ?_
    refine iv_to (nI (G (56 + d)) - nI 1) (congrArg (fun z => nI z - nI 1) (hR.d5 (d := d) (by omega))) ?_
    refine nv_to (G (56 + d) - 1) (pk_sub (by omega)) ?_
    refine nv_gald (i := G (56 + d) - 1) hx hb hK.1 hP 2 0 rfl rfl (by omega) (by decide) dX1_caseOf_22 ?_
    refine nv_to (G (112 + (G (56 + d) - 1))) (congrArg nI (hR.g (t := G (56 + d) - 1) (by omega))) ?_
    refine lv_goto (tgt := 27) hx hb dX1_caseOf_23 (by decide) ?_
    exact nv_retS hq hx hb hr hlocks (nar_i _) (by rw [show gCase G d = G (112 + G (56 + d) - 1) from if_neg c1]; exact congrArg (fun z => nI (G z)) (by omega)) dX1_caseOf_27

set_option maxHeartbeats 1000000 in
set_option maxRecDepth 100000 in
theorem c_X1_letterOf (l : Launch) {D : va_G} {cI cC cD cR : ClassId} {sa : sA} {A : Nat → Prop} {ad : Nat → Nat} {u : hS} {G : Nat → Nat} {b : Nat} (hR : hRel u G) (hG : gWf b G) (d : Nat) (hd : d < G 0) : Met l yX1_letterOf wsX1_letterOf ({ frames := 2, cells := 0, slots := 0, locals := 45 }) (va_Pc [.ref (ad 0), .ref (ad (6 + d))] (tPre D [(cI, .int), (cC, .char), (cD, .object "DoorDialect$Door"), (cR, .object "DoorDialect$House")] nN sa A (fun H => va_P D vwCl (hw cI cD ad u) H))) (sQ (nI (gEnd G d))) 0 0 (fun _ => False) := by
  refine nv_met (cc := cX1_letterOf) (maxL := 2) (ret := (some .int)) (by decide) rfl (Nat.le_of_ble_eq_true rfl) ?_
  intro p0 e0 s m0 args below meth c0 Q hq hargs hnA hpre ls hl
  obtain ⟨hx, hb, hr, hts, hown, hlocks, hml⟩ := hnA
  obtain ⟨hP, hT⟩ := hpre
  have hK := hT.1
  have hown : s.vm.findClass RX1 = some m0.cls := hown
  have hP : va_P D vwCl (hw cI cD ad u) s.heap := hP
  have hl : lv_has ls 2 [(0, .ref (ad 0)), (1, .ref (ad (6 + d)))] := hl
  have hS : va_S A s.heap s.heap [] := va_S.rf
  have in_X0 : ∀ w ∈ wsX00, w ∈ wsX1_letterOf := by decide +kernel
  have fl_99 := hts (.fieldLink RX1 99 "DoorDialect$Door" "declension" "I") (by decide +kernel)
  have fl_102 := hts (.fieldLink RX1 102 "DoorDialect$Door" "number" "I") (by decide +kernel)
  obtain ⟨g_b, g_k, g_0, g_1, g_2, g_e, g_d, g_t, g_y, g_s, g_h⟩ := id hG
  obtain ⟨w_a, w_g, w_n, w_s, w_w, w_l, w_o, w_x, w_y, w_1, w_2, w_3, w_4⟩ := hG.door (d := d) (by omega)
  have hcc := gWf_case hG (d := d) (by omega)
  refine lv_aload_n hx hb dX1_letterOf_0 rfl (lv_at hl 0 rfl) ?_
  refine lv_aload_n hx hb dX1_letterOf_1 rfl (lv_at hl 1 rfl) ?_
  refine va_get (D := D) (ci := 2) (v := .int (nI (hs_d u (d) 0))) (C := RX0) (T := TX0) (N := 10) hx hb hts in_X0 hown hK.1 hP (6 + (d)) (hw_at (d) (by omega)) rfl 0 (by decide) fl_99 (fun _ h9 => h9) rfl dX1_letterOf_2 ?_
  refine nv_to (G (32 + d)) (congrArg nI (hR.d0 (d := d) (by omega))) ?_
  refine lv_aload_n hx hb dX1_letterOf_5 rfl (lv_at hl 0 rfl) ?_
  refine lv_aload_n hx hb dX1_letterOf_6 rfl (lv_at hl 1 rfl) ?_
  refine nv_kS (va_runV (As := [.ref (ad (6 + d))]) (rest := [.int (nI (G (32 + d))), .ref (ad 0)]) ⟨hx, hb, hml, hown, hts⟩ (c_X1_caseOf l hR hG d (by omega)) (cwV 1 hts gX1_letterOf_X1_caseOf rfl rfl rfl (by decide +kernel) ⟨Nat.le_of_ble_eq_true rfl, Nat.le_of_ble_eq_true rfl⟩) (nt_pV hT hS hP (va_recv hK.1 hP (ci := 3) (q0 := 0) rfl rfl)) rfl rfl hl.1 rfl (lv_room (Nat.le_of_ble_eq_true rfl)) dX1_letterOf_7 ⟨Nat.zero_le _, Nat.zero_le _⟩) ?_
  refine lv_aload_n hx hb dX1_letterOf_10 rfl (lv_at hl 1 rfl) ?_
  refine va_get (D := D) (ci := 2) (v := .int (nI (hs_d u (d) 2))) (C := RX0) (T := TX0) (N := 10) hx hb hts in_X0 hown hK.1 hP (6 + (d)) (hw_at (d) (by omega)) rfl 2 (by decide) fl_102 (fun _ h9 => h9) rfl dX1_letterOf_11 ?_
  refine nv_to (G (48 + d)) (congrArg nI (hR.d2 (d := d) (by omega))) ?_
  refine nv_kS (va_runV (As := [.int (nI (G (32 + d))), .int (nI (gCase G d)), .int (nI (G (48 + d)))]) (rest := []) ⟨hx, hb, hml, hown, hts⟩ (c_X1_letterAt l hR hG (G (32 + d)) (gCase G d) (G (48 + d)) (by omega) (by omega) (by omega)) (cwV 3 hts gX1_letterOf_X1_letterAt rfl rfl rfl (by decide +kernel) ⟨Nat.le_of_ble_eq_true rfl, Nat.le_of_ble_eq_true rfl⟩) (nt_pV hT hS hP (va_recv hK.1 hP (ci := 3) (q0 := 0) rfl rfl)) rfl rfl hl.1 rfl (lv_room (Nat.le_of_ble_eq_true rfl)) dX1_letterOf_14 ⟨Nat.zero_le _, Nat.zero_le _⟩) ?_
  exact nv_retS hq hx hb hr hlocks (nar_i _) (rfl) dX1_letterOf_17

set_option maxHeartbeats 1000000 in
set_option maxRecDepth 100000 in
theorem c_X1_casesLikeOwn (l : Launch) {D : va_G} {cI cC cD cR : ClassId} {sa : sA} {A : Nat → Prop} {ad : Nat → Nat} {u : hS} {G : Nat → Nat} {b : Nat} (hR : hRel u G) (hG : gWf b G) (d : Nat) (hd : d < G 0) : Met l yX1_casesLikeOwn wsX1_casesLikeOwn ({ frames := 3, cells := 0, slots := 0, locals := 66 }) (va_Pc [.ref (ad 0), .ref (ad (6 + d))] (tPre D [(cI, .int), (cC, .char), (cD, .object "DoorDialect$Door"), (cR, .object "DoorDialect$House")] nN sa A (fun H => va_P D vwCl (hw cI cD ad u) H))) (sQ (nI (gCould G d))) 0 0 (fun _ => False) := by
  refine nv_met (cc := cX1_casesLikeOwn) (maxL := 4) (ret := (some .int)) (by decide) rfl (Nat.le_of_ble_eq_true rfl) ?_
  intro p0 e0 s m0 args below meth c0 Q hq hargs hnA hpre ls hl
  obtain ⟨hx, hb, hr, hts, hown, hlocks, hml⟩ := hnA
  obtain ⟨hP, hT⟩ := hpre
  have hK := hT.1
  have hown : s.vm.findClass RX1 = some m0.cls := hown
  have hP : va_P D vwCl (hw cI cD ad u) s.heap := hP
  have hl : lv_has ls 4 [(0, .ref (ad 0)), (1, .ref (ad (6 + d)))] := hl
  have hS : va_S A s.heap s.heap [] := va_S.rf
  have in_X0 : ∀ w ∈ wsX00, w ∈ wsX1_casesLikeOwn := by decide +kernel
  have fl_99 := hts (.fieldLink RX1 99 "DoorDialect$Door" "declension" "I") (by decide +kernel)
  have fl_102 := hts (.fieldLink RX1 102 "DoorDialect$Door" "number" "I") (by decide +kernel)
  obtain ⟨g_b, g_k, g_0, g_1, g_2, g_e, g_d, g_t, g_y, g_s, g_h⟩ := id hG
  obtain ⟨w_a, w_g, w_n, w_s, w_w, w_l, w_o, w_x, w_y, w_1, w_2, w_3, w_4⟩ := hG.door (d := d) (by omega)
  have hcc := gWf_case hG (d := d) (by omega)
  have hel := gEnd_lt hG (d := d) (by omega)
  refine lv_iconst (v := nI 0) hx hb dX1_casesLikeOwn_0 (by decide) ?_
  refine lv_istore_n (lv' := [(2, .int (nI 0)), (0, .ref (ad 0)), (1, .ref (ad (6 + d)))]) hx hb dX1_casesLikeOwn_1 rfl hl (by decide) rfl (fun ls hl => ?_)
  refine lv_iconst (v := nI 0) hx hb dX1_casesLikeOwn_2 (by decide) ?_
  refine lv_istore_n (lv' := [(3, .int (nI 0)), (2, .int (nI 0)), (0, .ref (ad 0)), (1, .ref (ad (6 + d)))]) hx hb dX1_casesLikeOwn_3 rfl hl (by decide) rfl (fun ls hl => ?_)
  have hloop1 : ∀ (nn : Nat) (c : Nat) (t : Int32), (c ≤ 4) → (t = nI (bs (fun c => G (gEndAt (G (32 + d)) c (G (48 + d))) = gEnd G d) c)) → 4 - c < nn → ∀ (ls : Array Slot), lv_has ls 4 [(3, .int (nI c)), (2, .int t), (0, .ref (ad 0)), (1, .ref (ad (6 + d)))] → W p0 l e0 ({ frames := 3, cells := 0, slots := 0, locals := 66 }) s m0 args below meth c0 s.heap [] 0 0 Q (F0 m0 4 ls []) := by
    intro nn4
    induction nn4 with
    | zero => intro c t hc ht hn0  _ _; exact absurd hn0 (Nat.not_lt_zero _)
    | succ nn4 ih4 =>
      intro c t hc ht hn4  ls hl
      refine lv_iload_n hx hb dX1_casesLikeOwn_4 rfl (lv_at hl 0 rfl) ?_
      refine lv_iconst (v := nI 4) hx hb dX1_casesLikeOwn_5 (by decide) ?_
      refine nv_icmp_ge (tgt := 42) hx hb dX1_casesLikeOwn_6 (by decide) (by omega) (by omega) (fun c2 => ?_) (fun c2 => ?_)
      · refine lv_iload_n hx hb dX1_casesLikeOwn_42 rfl (lv_at hl 1 rfl) ?_
        exact nv_retS hq hx hb hr hlocks (nar_i _) (by rw [ht, show c = 4 by omega] <;> rfl) dX1_casesLikeOwn_43
      · refine lv_aload_n hx hb dX1_casesLikeOwn_9 rfl (lv_at hl 2 rfl) ?_
        refine lv_aload_n hx hb dX1_casesLikeOwn_10 rfl (lv_at hl 3 rfl) ?_
        refine va_get (D := D) (ci := 2) (v := .int (nI (hs_d u (d) 0))) (C := RX0) (T := TX0) (N := 10) hx hb hts in_X0 hown hK.1 hP (6 + (d)) (hw_at (d) (by omega)) rfl 0 (by decide) fl_99 (fun _ h9 => h9) rfl dX1_casesLikeOwn_11 ?_
        refine nv_to (G (32 + d)) (congrArg nI (hR.d0 (d := d) (by omega))) ?_
        refine lv_iload_n hx hb dX1_casesLikeOwn_14 rfl (lv_at hl 0 rfl) ?_
        refine lv_aload_n hx hb dX1_casesLikeOwn_15 rfl (lv_at hl 3 rfl) ?_
        refine va_get (D := D) (ci := 2) (v := .int (nI (hs_d u (d) 2))) (C := RX0) (T := TX0) (N := 10) hx hb hts in_X0 hown hK.1 hP (6 + (d)) (hw_at (d) (by omega)) rfl 2 (by decide) fl_102 (fun _ h9 => h9) rfl dX1_casesLikeOwn_16 ?_
        refine nv_to (G (48 + d)) (congrArg nI (hR.d2 (d := d) (by omega))) ?_
        refine nv_kS (va_runV (As := [.int (nI (G (32 + d))), .int (nI c), .int (nI (G (48 + d)))]) (rest := []) ⟨hx, hb, hml, hown, hts⟩ (c_X1_letterAt l hR hG (G (32 + d)) c (G (48 + d)) (by omega) (by omega) (by omega)) (cwV 3 hts gX1_casesLikeOwn_X1_letterAt rfl rfl rfl (by decide +kernel) ⟨Nat.le_of_ble_eq_true rfl, Nat.le_of_ble_eq_true rfl⟩) (nt_pV hT hS hP (va_recv hK.1 hP (ci := 3) (q0 := 0) rfl rfl)) rfl rfl hl.1 rfl (lv_room (Nat.le_of_ble_eq_true rfl)) dX1_casesLikeOwn_19 ⟨Nat.zero_le _, Nat.zero_le _⟩) ?_
        refine lv_aload_n hx hb dX1_casesLikeOwn_22 rfl (lv_at hl 2 rfl) ?_
        refine lv_aload_n hx hb dX1_casesLikeOwn_23 rfl (lv_at hl 3 rfl) ?_
        refine nv_kS (va_runV (As := [.ref (ad (6 + d))]) (rest := [.int (nI (G (gEndAt (G (32 + d)) c (G (48 + d)))))]) ⟨hx, hb, hml, hown, hts⟩ (c_X1_letterOf l hR hG d (by omega)) (cwV 1 hts gX1_casesLikeOwn_X1_letterOf rfl rfl rfl (by decide +kernel) ⟨Nat.le_of_ble_eq_true rfl, Nat.le_of_ble_eq_true rfl⟩) (nt_pV hT hS hP (va_recv hK.1 hP (ci := 3) (q0 := 0) rfl rfl)) rfl rfl hl.1 rfl (lv_room (Nat.le_of_ble_eq_true rfl)) dX1_casesLikeOwn_24 ⟨Nat.zero_le _, Nat.zero_le _⟩) ?_
        refine nv_icmp_ne (tgt := 36) hx hb dX1_casesLikeOwn_27 (by decide) (by first | exact hel | (have := gEnds_le hG (a := G (32 + d)) (z := G (48 + d)) (by omega) (by omega) c (by omega); omega)) (by first | exact hel | (have := gEnds_le hG (a := G (32 + d)) (z := G (48 + d)) (by omega) (by omega) c (by omega); omega)) (fun c3 => ?_) (fun c3 => ?_)
        · refine lv_iinc (v := nI (c + 1)) (lv' := [(3, .int (nI (c + 1))), (2, .int t), (0, .ref (ad 0)), (1, .ref (ad (6 + d)))]) hx hb dX1_casesLikeOwn_36 hl (k := 0) rfl (by show nI _ + Int32.ofInt 1 = _; exact nI_add _ 1) (by decide) rfl (fun ls hl => ?_)
          refine lv_goto (tgt := 4) hx hb dX1_casesLikeOwn_39 (by decide) ?_
          exact ih4  (c + 1) t ((by omega)) ((by rw [ht]; skip; show _ = nI (bs (fun c => G (gEndAt (G (32 + d)) c (G (48 + d))) = gEnd G d) c ||| (if _ then 1 <<< c else 0)); rw [if_neg c3, Nat.or_zero])) (by omega) ls (lv_sub hl [0, 1, 2, 3] rfl)
        · refine lv_iload_n hx hb dX1_casesLikeOwn_30 rfl (lv_at hl 1 rfl) ?_
          refine lv_iconst (v := nI 1) hx hb dX1_casesLikeOwn_31 (by decide) ?_
          refine lv_iload_n hx hb dX1_casesLikeOwn_32 rfl (lv_at hl 0 rfl) ?_
          refine lv_ishl hx hb dX1_casesLikeOwn_33 ?_
          refine nv_to (1 <<< c) (nv_1shl (by omega)) ?_
          refine lv_ior hx hb dX1_casesLikeOwn_34 ?_
          refine iv_to (t ||| nI (1 <<< c)) (rfl) ?_
          refine lv_istore_n (lv' := [(2, .int (t ||| nI (1 <<< c))), (3, .int (nI c)), (0, .ref (ad 0)), (1, .ref (ad (6 + d)))]) hx hb dX1_casesLikeOwn_35 rfl hl (by decide) rfl (fun ls hl => ?_)
          refine lv_iinc (v := nI (c + 1)) (lv' := [(3, .int (nI (c + 1))), (2, .int (t ||| nI (1 <<< c))), (0, .ref (ad 0)), (1, .ref (ad (6 + d)))]) hx hb dX1_casesLikeOwn_36 hl (k := 1) rfl (by show nI _ + Int32.ofInt 1 = _; exact nI_add _ 1) (by decide) rfl (fun ls hl => ?_)
          refine lv_goto (tgt := 4) hx hb dX1_casesLikeOwn_39 (by decide) ?_
          exact ih4  (c + 1) (t ||| nI (1 <<< c)) ((by omega)) ((by rw [ht]; rw [nb_or]; show _ = nI (bs (fun c => G (gEndAt (G (32 + d)) c (G (48 + d))) = gEnd G d) c ||| (if _ then 1 <<< c else 0)); rw [if_pos c3])) (by omega) ls (lv_sub hl [0, 1, 2, 3] rfl)
  exact hloop1 _ 0 (nI 0) ((Nat.zero_le _)) (rfl) (Nat.lt_succ_self _) ls (lv_sub hl [0, 1, 2, 3] rfl)

set_option maxHeartbeats 1000000 in
set_option maxRecDepth 100000 in
theorem c_X1_areAlikeByNumbers (l : Launch) {D : va_G} {cI cC cD cR : ClassId} {sa : sA} {A : Nat → Prop} {ad : Nat → Nat} {u : hS} {G : Nat → Nat} {b : Nat} (hR : hRel u G) (hG : gWf b G) (a d : Nat) (ha : a < G 0) (hd : d < G 0) : Met l yX1_areAlikeByNumbers wsX1_areAlikeByNumbers ({ frames := 3, cells := 0, slots := 0, locals := 66 }) (va_Pc [.ref (ad 0), .int (nI a), .int (nI d)] (tPre D [(cI, .int), (cC, .char), (cD, .object "DoorDialect$Door"), (cR, .object "DoorDialect$House")] nN sa A (fun H => va_P D vwCl (hw cI cD ad u) H))) (sQ (nI (bI (gAlike G a d)))) 0 0 (fun _ => False) := by
  refine nv_met (cc := cX1_areAlikeByNumbers) (maxL := 3) (ret := (some .boolean)) (by decide) rfl (Nat.le_of_ble_eq_true rfl) ?_
  intro p0 e0 s m0 args below meth c0 Q hq hargs hnA hpre ls hl
  obtain ⟨hx, hb, hr, hts, hown, hlocks, hml⟩ := hnA
  obtain ⟨hP, hT⟩ := hpre
  have hK := hT.1
  have hown : s.vm.findClass RX1 = some m0.cls := hown
  have hP : va_P D vwCl (hw cI cD ad u) s.heap := hP
  have hl : lv_has ls 3 [(0, .ref (ad 0)), (1, .int (nI a)), (2, .int (nI d))] := hl
  have hS : va_S A s.heap s.heap [] := va_S.rf
  have in_X0 : ∀ w ∈ wsX00, w ∈ wsX1_areAlikeByNumbers := by decide +kernel
  have in_X1 : ∀ w ∈ wsX10, w ∈ wsX1_areAlikeByNumbers := by decide +kernel
  have fl_11 := hts (.fieldLink RX1 11 "DoorDialect$House" "doors" "[LDoorDialect$Door;") (by decide +kernel)
  have fl_102 := hts (.fieldLink RX1 102 "DoorDialect$Door" "number" "I") (by decide +kernel)
  have fl_110 := hts (.fieldLink RX1 110 "DoorDialect$Door" "gender" "I") (by decide +kernel)
  obtain ⟨g_b, g_k, g_0, g_1, g_2, g_e, g_d, g_t, g_y, g_s, g_h⟩ := id hG
  obtain ⟨w_a, w_g, w_n, w_s, w_w, w_l, w_o, w_x, w_y, w_1, w_2, w_3, w_4⟩ := hG.door (d := d) (by omega)
  have hcc := gWf_case hG (d := d) (by omega)
  obtain ⟨x_a, x_g, x_n, x_s, x_w, x_l, x_o, x_x, x_y, x_1, x_2, x_3, x_4⟩ := hG.door (d := a) (by omega)
  have hel := gEnd_lt hG (d := d) (by omega)
  have hea := gEnd_lt hG (d := a) (by omega)
  refine lv_aload_n hx hb dX1_areAlikeByNumbers_0 rfl (lv_at hl 0 rfl) ?_
  refine va_get (D := D) (ci := 3) (v := .ref (ad 1)) (C := RX1) (T := TX1) (N := 12) hx hb hts in_X1 hown hK.1 hP 0 rfl rfl 0 (by decide) fl_11 (fun _ h9 => h9) rfl dX1_areAlikeByNumbers_1 ?_
  refine lv_iload_n hx hb dX1_areAlikeByNumbers_4 rfl (lv_at hl 1 rfl) ?_
  refine nv_aldq (i := a) hx hb hK.1 hP 1 2 rfl rfl (by omega) (by decide) dX1_areAlikeByNumbers_5 ?_
  refine va_get (D := D) (ci := 2) (v := .int (nI (hs_d u (a) 1))) (C := RX0) (T := TX0) (N := 10) hx hb hts in_X0 hown hK.1 hP (6 + (a)) (hw_at (a) (by omega)) rfl 1 (by decide) fl_110 (fun _ h9 => h9) rfl dX1_areAlikeByNumbers_6 ?_
  refine nv_to (G (40 + a)) (congrArg nI (hR.d1 (d := a) (by omega))) ?_
  refine lv_aload_n hx hb dX1_areAlikeByNumbers_9 rfl (lv_at hl 0 rfl) ?_
  refine va_get (D := D) (ci := 3) (v := .ref (ad 1)) (C := RX1) (T := TX1) (N := 12) hx hb hts in_X1 hown hK.1 hP 0 rfl rfl 0 (by decide) fl_11 (fun _ h9 => h9) rfl dX1_areAlikeByNumbers_10 ?_
  refine lv_iload_n hx hb dX1_areAlikeByNumbers_13 rfl (lv_at hl 2 rfl) ?_
  refine nv_aldq (i := d) hx hb hK.1 hP 1 2 rfl rfl (by omega) (by decide) dX1_areAlikeByNumbers_14 ?_
  refine va_get (D := D) (ci := 2) (v := .int (nI (hs_d u (d) 1))) (C := RX0) (T := TX0) (N := 10) hx hb hts in_X0 hown hK.1 hP (6 + (d)) (hw_at (d) (by omega)) rfl 1 (by decide) fl_110 (fun _ h9 => h9) rfl dX1_areAlikeByNumbers_15 ?_
  refine nv_to (G (40 + d)) (congrArg nI (hR.d1 (d := d) (by omega))) ?_
  refine nv_icmp_ne (tgt := 69) hx hb dX1_areAlikeByNumbers_18 (by decide) (by omega) (by omega) (fun c1 => ?_) (fun c1 => ?_)
  · refine lv_iconst (v := nI 0) hx hb dX1_areAlikeByNumbers_69 (by decide) ?_
    exact nv_retS hq hx hb hr hlocks (nar_z (by omega)) (nv_in0 (fun q => c1 q.1)) dX1_areAlikeByNumbers_70
  · refine lv_aload_n hx hb dX1_areAlikeByNumbers_21 rfl (lv_at hl 0 rfl) ?_
    refine va_get (D := D) (ci := 3) (v := .ref (ad 1)) (C := RX1) (T := TX1) (N := 12) hx hb hts in_X1 hown hK.1 hP 0 rfl rfl 0 (by decide) fl_11 (fun _ h9 => h9) rfl dX1_areAlikeByNumbers_22 ?_
    refine lv_iload_n hx hb dX1_areAlikeByNumbers_25 rfl (lv_at hl 1 rfl) ?_
    refine nv_aldq (i := a) hx hb hK.1 hP 1 2 rfl rfl (by omega) (by decide) dX1_areAlikeByNumbers_26 ?_
    refine va_get (D := D) (ci := 2) (v := .int (nI (hs_d u (a) 2))) (C := RX0) (T := TX0) (N := 10) hx hb hts in_X0 hown hK.1 hP (6 + (a)) (hw_at (a) (by omega)) rfl 2 (by decide) fl_102 (fun _ h9 => h9) rfl dX1_areAlikeByNumbers_27 ?_
    refine nv_to (G (48 + a)) (congrArg nI (hR.d2 (d := a) (by omega))) ?_
    refine lv_aload_n hx hb dX1_areAlikeByNumbers_30 rfl (lv_at hl 0 rfl) ?_
    refine va_get (D := D) (ci := 3) (v := .ref (ad 1)) (C := RX1) (T := TX1) (N := 12) hx hb hts in_X1 hown hK.1 hP 0 rfl rfl 0 (by decide) fl_11 (fun _ h9 => h9) rfl dX1_areAlikeByNumbers_31 ?_
    refine lv_iload_n hx hb dX1_areAlikeByNumbers_34 rfl (lv_at hl 2 rfl) ?_
    refine nv_aldq (i := d) hx hb hK.1 hP 1 2 rfl rfl (by omega) (by decide) dX1_areAlikeByNumbers_35 ?_
    refine va_get (D := D) (ci := 2) (v := .int (nI (hs_d u (d) 2))) (C := RX0) (T := TX0) (N := 10) hx hb hts in_X0 hown hK.1 hP (6 + (d)) (hw_at (d) (by omega)) rfl 2 (by decide) fl_102 (fun _ h9 => h9) rfl dX1_areAlikeByNumbers_36 ?_
    refine nv_to (G (48 + d)) (congrArg nI (hR.d2 (d := d) (by omega))) ?_
    refine nv_icmp_ne (tgt := 69) hx hb dX1_areAlikeByNumbers_39 (by decide) (by omega) (by omega) (fun c2 => ?_) (fun c2 => ?_)
    · refine lv_iconst (v := nI 0) hx hb dX1_areAlikeByNumbers_69 (by decide) ?_
      exact nv_retS hq hx hb hr hlocks (nar_z (by omega)) (nv_in0 (fun q => c2 q.2.1)) dX1_areAlikeByNumbers_70
    · refine lv_aload_n hx hb dX1_areAlikeByNumbers_42 rfl (lv_at hl 0 rfl) ?_
      refine lv_aload_n hx hb dX1_areAlikeByNumbers_43 rfl (lv_at hl 0 rfl) ?_
      refine va_get (D := D) (ci := 3) (v := .ref (ad 1)) (C := RX1) (T := TX1) (N := 12) hx hb hts in_X1 hown hK.1 hP 0 rfl rfl 0 (by decide) fl_11 (fun _ h9 => h9) rfl dX1_areAlikeByNumbers_44 ?_
      refine lv_iload_n hx hb dX1_areAlikeByNumbers_47 rfl (lv_at hl 1 rfl) ?_
      refine nv_aldq (i := a) hx hb hK.1 hP 1 2 rfl rfl (by omega) (by decide) dX1_areAlikeByNumbers_48 ?_
      refine nv_kS (va_runV (As := [.ref (ad (6 + a))]) (rest := []) ⟨hx, hb, hml, hown, hts⟩ (c_X1_letterOf l hR hG a (by omega)) (cwV 1 hts gX1_areAlikeByNumbers_X1_letterOf rfl rfl rfl (by decide +kernel) ⟨Nat.le_of_ble_eq_true rfl, Nat.le_of_ble_eq_true rfl⟩) (nt_pV hT hS hP (va_recv hK.1 hP (ci := 3) (q0 := 0) rfl rfl)) rfl rfl hl.1 rfl (lv_room (Nat.le_of_ble_eq_true rfl)) dX1_areAlikeByNumbers_49 ⟨Nat.zero_le _, Nat.zero_le _⟩) ?_
      refine lv_aload_n hx hb dX1_areAlikeByNumbers_52 rfl (lv_at hl 0 rfl) ?_
      refine lv_aload_n hx hb dX1_areAlikeByNumbers_53 rfl (lv_at hl 0 rfl) ?_
      refine va_get (D := D) (ci := 3) (v := .ref (ad 1)) (C := RX1) (T := TX1) (N := 12) hx hb hts in_X1 hown hK.1 hP 0 rfl rfl 0 (by decide) fl_11 (fun _ h9 => h9) rfl dX1_areAlikeByNumbers_54 ?_
      refine lv_iload_n hx hb dX1_areAlikeByNumbers_57 rfl (lv_at hl 2 rfl) ?_
      refine nv_aldq (i := d) hx hb hK.1 hP 1 2 rfl rfl (by omega) (by decide) dX1_areAlikeByNumbers_58 ?_
      refine nv_kS (va_runV (As := [.ref (ad (6 + d))]) (rest := [.int (nI (gEnd G a))]) ⟨hx, hb, hml, hown, hts⟩ (c_X1_letterOf l hR hG d (by omega)) (cwV 1 hts gX1_areAlikeByNumbers_X1_letterOf rfl rfl rfl (by decide +kernel) ⟨Nat.le_of_ble_eq_true rfl, Nat.le_of_ble_eq_true rfl⟩) (nt_pV hT hS hP (va_recv hK.1 hP (ci := 3) (q0 := 0) rfl rfl)) rfl rfl hl.1 rfl (lv_room (Nat.le_of_ble_eq_true rfl)) dX1_areAlikeByNumbers_59 ⟨Nat.zero_le _, Nat.zero_le _⟩) ?_
      refine nv_icmp_ne (tgt := 69) hx hb dX1_areAlikeByNumbers_62 (by decide) (by omega) (by omega) (fun c3 => ?_) (fun c3 => ?_)
      · refine lv_iconst (v := nI 0) hx hb dX1_areAlikeByNumbers_69 (by decide) ?_
        exact nv_retS hq hx hb hr hlocks (nar_z (by omega)) (nv_in0 (fun q => c3 q.2.2)) dX1_areAlikeByNumbers_70
      · refine lv_iconst (v := nI 1) hx hb dX1_areAlikeByNumbers_65 (by decide) ?_
        refine lv_goto (tgt := 70) hx hb dX1_areAlikeByNumbers_66 (by decide) ?_
        exact nv_retS hq hx hb hr hlocks (nar_z (by omega)) (nv_in1 ⟨c1, c2, c3⟩) dX1_areAlikeByNumbers_70

set_option maxHeartbeats 1000000 in
set_option maxRecDepth 100000 in
theorem c_X1_agreement (l : Launch) {D : va_G} {cI cC cD cR : ClassId} {sa : sA} {A : Nat → Prop} {ad : Nat → Nat} {u : hS} {G : Nat → Nat} {b : Nat} (hR : hRel u G) (hG : gWf b G) (d g n c : Nat) (hd : d < G 0) (hg : g < 2 ^ 31) (hn : n < 2 ^ 31) (hc : c < 2 ^ 31) : Met l yX1_agreement wsX1_agreement ({ frames := 2, cells := 0, slots := 0, locals := 42 }) (va_Pc [.ref (ad 0), .ref (ad (6 + d)), .int (nI g), .int (nI n), .int (nI c)] (tPre D [(cI, .int), (cC, .char), (cD, .object "DoorDialect$Door"), (cR, .object "DoorDialect$House")] nN sa A (fun H => va_P D vwCl (hw cI cD ad u) H))) (sQ (nI (gAgree G d g n c))) 0 0 (fun _ => False) := by
  refine nv_met (cc := cX1_agreement) (maxL := 6) (ret := (some .int)) (by decide) rfl (Nat.le_of_ble_eq_true rfl) ?_
  intro p0 e0 s m0 args below meth c0 Q hq hargs hnA hpre ls hl
  obtain ⟨hx, hb, hr, hts, hown, hlocks, hml⟩ := hnA
  obtain ⟨hP, hT⟩ := hpre
  have hK := hT.1
  have hown : s.vm.findClass RX1 = some m0.cls := hown
  have hP : va_P D vwCl (hw cI cD ad u) s.heap := hP
  have hl : lv_has ls 6 [(0, .ref (ad 0)), (1, .ref (ad (6 + d))), (2, .int (nI g)), (3, .int (nI n)), (4, .int (nI c))] := hl
  have hS : va_S A s.heap s.heap [] := va_S.rf
  have in_X0 : ∀ w ∈ wsX00, w ∈ wsX1_agreement := by decide +kernel
  have fl_102 := hts (.fieldLink RX1 102 "DoorDialect$Door" "number" "I") (by decide +kernel)
  have fl_110 := hts (.fieldLink RX1 110 "DoorDialect$Door" "gender" "I") (by decide +kernel)
  obtain ⟨g_b, g_k, g_0, g_1, g_2, g_e, g_d, g_t, g_y, g_s, g_h⟩ := id hG
  obtain ⟨w_a, w_g, w_n, w_s, w_w, w_l, w_o, w_x, w_y, w_1, w_2, w_3, w_4⟩ := hG.door (d := d) (by omega)
  have hcc := gWf_case hG (d := d) (by omega)
  refine lv_aload_n hx hb dX1_agreement_0 rfl (lv_at hl 1 rfl) ?_
  refine va_get (D := D) (ci := 2) (v := .int (nI (hs_d u (d) 1))) (C := RX0) (T := TX0) (N := 10) hx hb hts in_X0 hown hK.1 hP (6 + (d)) (hw_at (d) (by omega)) rfl 1 (by decide) fl_110 (fun _ h9 => h9) rfl dX1_agreement_1 ?_
  refine nv_to (G (40 + d)) (congrArg nI (hR.d1 (d := d) (by omega))) ?_
  refine lv_iload_n hx hb dX1_agreement_4 rfl (lv_at hl 2 rfl) ?_
  refine nv_jn (α := Nat) (fun r => W p0 l e0 ({ frames := 2, cells := 0, slots := 0, locals := 42 }) s m0 args below meth c0 s.heap [] 0 0 Q (F0 m0 13 ls (.int (nI r) :: []))) (bI (G (40 + d) = g)) (fun r er => ?_) (fun hJ => ?_)
  · subst er
    refine lv_istore (lv' := [(5, .int (nI (bI (G (40 + d) = g)))), (0, .ref (ad 0)), (1, .ref (ad (6 + d))), (2, .int (nI g)), (3, .int (nI n)), (4, .int (nI c))]) hx hb dX1_agreement_13 hl (by decide) rfl (fun ls hl => ?_)
    refine lv_iload hx hb dX1_agreement_15 (lv_at hl 0 rfl) ?_
    refine lv_aload_n hx hb dX1_agreement_17 rfl (lv_at hl 2 rfl) ?_
    refine va_get (D := D) (ci := 2) (v := .int (nI (hs_d u (d) 2))) (C := RX0) (T := TX0) (N := 10) hx hb hts in_X0 hown hK.1 hP (6 + (d)) (hw_at (d) (by omega)) rfl 2 (by decide) fl_102 (fun _ h9 => h9) rfl dX1_agreement_18 ?_
    refine nv_to (G (48 + d)) (congrArg nI (hR.d2 (d := d) (by omega))) ?_
    refine lv_iload_n hx hb dX1_agreement_21 rfl (lv_at hl 4 rfl) ?_
    refine nv_jn (α := Nat) (fun r => W p0 l e0 ({ frames := 2, cells := 0, slots := 0, locals := 42 }) s m0 args below meth c0 s.heap [] 0 0 Q (F0 m0 30 ls (.int (nI r) :: [.int (nI (bI (G (40 + d) = g)))]))) (bI (G (48 + d) = n)) (fun r er => ?_) (fun hJ => ?_)
    · subst er
      refine nv_iadd hx hb dX1_agreement_30 ?_
      refine lv_istore (lv' := [(5, .int (nI (bI (G (40 + d) = g) + (bI (G (48 + d) = n))))), (0, .ref (ad 0)), (1, .ref (ad (6 + d))), (2, .int (nI g)), (3, .int (nI n)), (4, .int (nI c))]) hx hb dX1_agreement_31 hl (by decide) rfl (fun ls hl => ?_)
      refine lv_iload hx hb dX1_agreement_33 (lv_at hl 0 rfl) ?_
      refine lv_aload_n hx hb dX1_agreement_35 rfl (lv_at hl 1 rfl) ?_
      refine lv_aload_n hx hb dX1_agreement_36 rfl (lv_at hl 2 rfl) ?_
      refine nv_kS (va_runV (As := [.ref (ad (6 + d))]) (rest := [.int (nI (bI (G (40 + d) = g) + (bI (G (48 + d) = n))))]) ⟨hx, hb, hml, hown, hts⟩ (c_X1_caseOf l hR hG d (by omega)) (cwV 1 hts gX1_agreement_X1_caseOf rfl rfl rfl (by decide +kernel) ⟨Nat.le_of_ble_eq_true rfl, Nat.le_of_ble_eq_true rfl⟩) (nt_pV hT hS hP (va_recv hK.1 hP (ci := 3) (q0 := 0) rfl rfl)) rfl rfl hl.1 rfl (lv_room (Nat.le_of_ble_eq_true rfl)) dX1_agreement_37 ⟨Nat.zero_le _, Nat.zero_le _⟩) ?_
      refine lv_iload hx hb dX1_agreement_40 (lv_at hl 5 rfl) ?_
      refine nv_jn (α := Nat) (fun r => W p0 l e0 ({ frames := 2, cells := 0, slots := 0, locals := 42 }) s m0 args below meth c0 s.heap [] 0 0 Q (F0 m0 50 ls (.int (nI r) :: [.int (nI (bI (G (40 + d) = g) + (bI (G (48 + d) = n))))]))) (bI (gCase G d = c)) (fun r er => ?_) (fun hJ => ?_)
      · subst er
        refine nv_iadd hx hb dX1_agreement_50 ?_
        refine lv_istore (lv' := [(5, .int (nI (bI (G (40 + d) = g) + (bI (G (48 + d) = n)) + (bI (gCase G d = c))))), (0, .ref (ad 0)), (1, .ref (ad (6 + d))), (2, .int (nI g)), (3, .int (nI n)), (4, .int (nI c))]) hx hb dX1_agreement_51 hl (by decide) rfl (fun ls hl => ?_)
        refine lv_iload hx hb dX1_agreement_53 (lv_at hl 0 rfl) ?_
        exact nv_retS hq hx hb hr hlocks (nar_i _) (rfl) dX1_agreement_55
      · refine nv_icmp_ne (tgt := 49) hx hb dX1_agreement_42 (by decide) (by omega) (by omega) (fun c3 => ?_) (fun c3 => ?_)
        · refine lv_iconst (v := nI 0) hx hb dX1_agreement_49 (by decide) ?_
          exact hJ _ (bI_f c3).symm
        · refine lv_iconst (v := nI 1) hx hb dX1_agreement_45 (by decide) ?_
          refine lv_goto (tgt := 50) hx hb dX1_agreement_46 (by decide) ?_
          exact hJ _ (bI_t c3).symm
    · refine nv_icmp_ne (tgt := 29) hx hb dX1_agreement_22 (by decide) (by omega) (by omega) (fun c2 => ?_) (fun c2 => ?_)
      · refine lv_iconst (v := nI 0) hx hb dX1_agreement_29 (by decide) ?_
        exact hJ _ (bI_f c2).symm
      · refine lv_iconst (v := nI 1) hx hb dX1_agreement_25 (by decide) ?_
        refine lv_goto (tgt := 30) hx hb dX1_agreement_26 (by decide) ?_
        exact hJ _ (bI_t c2).symm
  · refine nv_icmp_ne (tgt := 12) hx hb dX1_agreement_5 (by decide) (by omega) (by omega) (fun c1 => ?_) (fun c1 => ?_)
    · refine lv_iconst (v := nI 0) hx hb dX1_agreement_12 (by decide) ?_
      exact hJ _ (bI_f c1).symm
    · refine lv_iconst (v := nI 1) hx hb dX1_agreement_8 (by decide) ?_
      refine lv_goto (tgt := 13) hx hb dX1_agreement_9 (by decide) ?_
      exact hJ _ (bI_t c1).symm

set_option maxHeartbeats 1000000 in
set_option maxRecDepth 100000 in
theorem c_X1_openDoors (l : Launch) {D : va_G} {cI cC cD cR : ClassId} {sa : sA} {A : Nat → Prop} {ad : Nat → Nat} {u : hS} {G : Nat → Nat} {b : Nat} (hR : hRel u G) (hG : gWf b G)  : Met l yX1_openDoors wsX1_openDoors ({ frames := 0, cells := 0, slots := 0, locals := 0 }) (va_Pc [.ref (ad 0)] (tPre D [(cI, .int), (cC, .char), (cD, .object "DoorDialect$Door"), (cR, .object "DoorDialect$House")] nN sa A (fun H => va_P D vwCl (hw cI cD ad u) H))) (sQ (nI (gMany G 80))) 0 0 (fun _ => False) := by
  refine nv_met (cc := cX1_openDoors) (maxL := 3) (ret := (some .int)) (by decide) rfl (Nat.le_of_ble_eq_true rfl) ?_
  intro p0 e0 s m0 args below meth c0 Q hq hargs hnA hpre ls hl
  obtain ⟨hx, hb, hr, hts, hown, hlocks, hml⟩ := hnA
  obtain ⟨hP, hT⟩ := hpre
  have hK := hT.1
  have hown : s.vm.findClass RX1 = some m0.cls := hown
  have hP : va_P D vwCl (hw cI cD ad u) s.heap := hP
  have hl : lv_has ls 3 [(0, .ref (ad 0))] := hl
  have hS : va_S A s.heap s.heap [] := va_S.rf
  have in_X0 : ∀ w ∈ wsX00, w ∈ wsX1_openDoors := by decide +kernel
  have in_X1 : ∀ w ∈ wsX10, w ∈ wsX1_openDoors := by decide +kernel
  have fl_11 := hts (.fieldLink RX1 11 "DoorDialect$House" "doors" "[LDoorDialect$Door;") (by decide +kernel)
  have fl_34 := hts (.fieldLink RX1 34 "DoorDialect$House" "doorCount" "I") (by decide +kernel)
  have fl_130 := hts (.fieldLink RX1 130 "DoorDialect$Door" "isOpen" "Z") (by decide +kernel)
  obtain ⟨g_b, g_k, g_0, g_1, g_2, g_e, g_d, g_t, g_y, g_s, g_h⟩ := id hG
  refine lv_iconst (v := nI 0) hx hb dX1_openDoors_0 (by decide) ?_
  refine lv_istore_n (lv' := [(1, .int (nI 0)), (0, .ref (ad 0))]) hx hb dX1_openDoors_1 rfl hl (by decide) rfl (fun ls hl => ?_)
  refine lv_iconst (v := nI 0) hx hb dX1_openDoors_2 (by decide) ?_
  refine lv_istore_n (lv' := [(2, .int (nI 0)), (1, .int (nI 0)), (0, .ref (ad 0))]) hx hb dX1_openDoors_3 rfl hl (by decide) rfl (fun ls hl => ?_)
  have hloop1 : ∀ (nn : Nat) (d : Nat) (t9 : Nat), (d ≤ G 0) → (t9 = sm (fun d => G (80 + d)) d) → G 0 - d < nn → ∀ (ls : Array Slot), lv_has ls 3 [(2, .int (nI d)), (1, .int (nI t9)), (0, .ref (ad 0))] → W p0 l e0 ({ frames := 0, cells := 0, slots := 0, locals := 0 }) s m0 args below meth c0 s.heap [] 0 0 Q (F0 m0 4 ls []) := by
    intro nn4
    induction nn4 with
    | zero => intro d t9 hd9 ht9 hn0  _ _; exact absurd hn0 (Nat.not_lt_zero _)
    | succ nn4 ih4 =>
      intro d t9 hd9 ht9 hn4  ls hl
      refine lv_iload_n hx hb dX1_openDoors_4 rfl (lv_at hl 0 rfl) ?_
      refine lv_aload_n hx hb dX1_openDoors_5 rfl (lv_at hl 2 rfl) ?_
      refine va_get (D := D) (ci := 3) (v := .int (nI (hs_c u 0))) (C := RX1) (T := TX1) (N := 12) hx hb hts in_X1 hown hK.1 hP 0 rfl rfl 5 (by decide) fl_34 (fun _ h9 => h9) rfl dX1_openDoors_6 ?_
      refine nv_to (G 0) (congrArg nI (hR.c0)) ?_
      refine nv_icmp_ge (tgt := 38) hx hb dX1_openDoors_9 (by decide) (by omega) (by omega) (fun c2 => ?_) (fun c2 => ?_)
      · refine lv_iload_n hx hb dX1_openDoors_38 rfl (lv_at hl 1 rfl) ?_
        exact nv_retS hq hx hb hr hlocks (nar_i _) (by rw [ht9, show d = G 0 by omega] <;> rfl) dX1_openDoors_39
      · refine lv_iload_n hx hb dX1_openDoors_12 rfl (lv_at hl 1 rfl) ?_
        refine lv_aload_n hx hb dX1_openDoors_13 rfl (lv_at hl 2 rfl) ?_
        refine va_get (D := D) (ci := 3) (v := .ref (ad 1)) (C := RX1) (T := TX1) (N := 12) hx hb hts in_X1 hown hK.1 hP 0 rfl rfl 0 (by decide) fl_11 (fun _ h9 => h9) rfl dX1_openDoors_14 ?_
        refine lv_iload_n hx hb dX1_openDoors_17 rfl (lv_at hl 0 rfl) ?_
        refine nv_aldq (i := d) hx hb hK.1 hP 1 2 rfl rfl (by omega) (by decide) dX1_openDoors_18 ?_
        refine va_get (D := D) (ci := 2) (v := .int (nI (hs_d u (d) 9))) (C := RX0) (T := TX0) (N := 10) hx hb hts in_X0 hown hK.1 hP (6 + (d)) (hw_at (d) (by omega)) rfl 9 (by decide) fl_130 (fun _ h9 => h9) rfl dX1_openDoors_19 ?_
        refine nv_to (G (80 + d)) (congrArg nI (hR.d9 (d := d) (by omega))) ?_
        have q3 : G (80 + d) < 2 ^ 20 := hG.lt (by omega)
        refine nv_jn (α := Nat) (fun r => W p0 l e0 ({ frames := 0, cells := 0, slots := 0, locals := 0 }) s m0 args below meth c0 s.heap [] 0 0 Q (F0 m0 30 ls (.int (nI r) :: [.int (nI t9)]))) ((if G (80 + d) = 0 then 0 else 1)) (fun r er => ?_) (fun hJ => ?_)
        · subst er
          obtain ⟨w_a, w_g, w_n, w_s, w_w, w_l, w_o, w_x, w_y, w_1, w_2, w_3, w_4⟩ := hG.door (d := d) (by omega)
          refine nv_to (G (80 + d)) (nv_z01 (by omega)) ?_
          refine nv_iadd hx hb dX1_openDoors_30 ?_
          refine lv_istore_n (lv' := [(1, .int (nI (t9 + (G (80 + d))))), (2, .int (nI d)), (0, .ref (ad 0))]) hx hb dX1_openDoors_31 rfl hl (by decide) rfl (fun ls hl => ?_)
          refine lv_iinc (v := nI (d + 1)) (lv' := [(2, .int (nI (d + 1))), (1, .int (nI (t9 + (G (80 + d))))), (0, .ref (ad 0))]) hx hb dX1_openDoors_32 hl (k := 1) rfl (by show nI _ + Int32.ofInt 1 = _; exact nI_add _ 1) (by decide) rfl (fun ls hl => ?_)
          refine lv_goto (tgt := 4) hx hb dX1_openDoors_35 (by decide) ?_
          exact ih4  (d + 1) (t9 + (G (80 + d))) ((by omega)) ((by rw [ht9]; rfl)) (by omega) ls (lv_sub hl [0, 1, 2] rfl)
        · refine nv_if_eq (tgt := 29) hx hb dX1_openDoors_22 (by decide) (by omega) (fun c4 => ?_) (fun c4 => ?_)
          · refine lv_iconst (v := nI 0) hx hb dX1_openDoors_29 (by decide) ?_
            exact hJ _ (if_pos c4).symm
          · refine lv_iconst (v := nI 1) hx hb dX1_openDoors_25 (by decide) ?_
            refine lv_goto (tgt := 30) hx hb dX1_openDoors_26 (by decide) ?_
            exact hJ _ (if_neg c4).symm
  exact hloop1 _ 0 0 ((Nat.zero_le _)) (rfl) (Nat.lt_succ_self _) ls (lv_sub hl [0, 1, 2] rfl)

set_option maxHeartbeats 1000000 in
set_option maxRecDepth 100000 in
theorem c_X1_latchesDown (l : Launch) {D : va_G} {cI cC cD cR : ClassId} {sa : sA} {A : Nat → Prop} {ad : Nat → Nat} {u : hS} {G : Nat → Nat} {b : Nat} (hR : hRel u G) (hG : gWf b G)  : Met l yX1_latchesDown wsX1_latchesDown ({ frames := 0, cells := 0, slots := 0, locals := 0 }) (va_Pc [.ref (ad 0)] (tPre D [(cI, .int), (cC, .char), (cD, .object "DoorDialect$Door"), (cR, .object "DoorDialect$House")] nN sa A (fun H => va_P D vwCl (hw cI cD ad u) H))) (sQ (nI (gMany G 72))) 0 0 (fun _ => False) := by
  refine nv_met (cc := cX1_latchesDown) (maxL := 3) (ret := (some .int)) (by decide) rfl (Nat.le_of_ble_eq_true rfl) ?_
  intro p0 e0 s m0 args below meth c0 Q hq hargs hnA hpre ls hl
  obtain ⟨hx, hb, hr, hts, hown, hlocks, hml⟩ := hnA
  obtain ⟨hP, hT⟩ := hpre
  have hK := hT.1
  have hown : s.vm.findClass RX1 = some m0.cls := hown
  have hP : va_P D vwCl (hw cI cD ad u) s.heap := hP
  have hl : lv_has ls 3 [(0, .ref (ad 0))] := hl
  have hS : va_S A s.heap s.heap [] := va_S.rf
  have in_X0 : ∀ w ∈ wsX00, w ∈ wsX1_latchesDown := by decide +kernel
  have in_X1 : ∀ w ∈ wsX10, w ∈ wsX1_latchesDown := by decide +kernel
  have fl_11 := hts (.fieldLink RX1 11 "DoorDialect$House" "doors" "[LDoorDialect$Door;") (by decide +kernel)
  have fl_34 := hts (.fieldLink RX1 34 "DoorDialect$House" "doorCount" "I") (by decide +kernel)
  have fl_135 := hts (.fieldLink RX1 135 "DoorDialect$Door" "isLatched" "Z") (by decide +kernel)
  obtain ⟨g_b, g_k, g_0, g_1, g_2, g_e, g_d, g_t, g_y, g_s, g_h⟩ := id hG
  refine lv_iconst (v := nI 0) hx hb dX1_latchesDown_0 (by decide) ?_
  refine lv_istore_n (lv' := [(1, .int (nI 0)), (0, .ref (ad 0))]) hx hb dX1_latchesDown_1 rfl hl (by decide) rfl (fun ls hl => ?_)
  refine lv_iconst (v := nI 0) hx hb dX1_latchesDown_2 (by decide) ?_
  refine lv_istore_n (lv' := [(2, .int (nI 0)), (1, .int (nI 0)), (0, .ref (ad 0))]) hx hb dX1_latchesDown_3 rfl hl (by decide) rfl (fun ls hl => ?_)
  have hloop1 : ∀ (nn : Nat) (d : Nat) (t9 : Nat), (d ≤ G 0) → (t9 = sm (fun d => G (72 + d)) d) → G 0 - d < nn → ∀ (ls : Array Slot), lv_has ls 3 [(2, .int (nI d)), (1, .int (nI t9)), (0, .ref (ad 0))] → W p0 l e0 ({ frames := 0, cells := 0, slots := 0, locals := 0 }) s m0 args below meth c0 s.heap [] 0 0 Q (F0 m0 4 ls []) := by
    intro nn4
    induction nn4 with
    | zero => intro d t9 hd9 ht9 hn0  _ _; exact absurd hn0 (Nat.not_lt_zero _)
    | succ nn4 ih4 =>
      intro d t9 hd9 ht9 hn4  ls hl
      refine lv_iload_n hx hb dX1_latchesDown_4 rfl (lv_at hl 0 rfl) ?_
      refine lv_aload_n hx hb dX1_latchesDown_5 rfl (lv_at hl 2 rfl) ?_
      refine va_get (D := D) (ci := 3) (v := .int (nI (hs_c u 0))) (C := RX1) (T := TX1) (N := 12) hx hb hts in_X1 hown hK.1 hP 0 rfl rfl 5 (by decide) fl_34 (fun _ h9 => h9) rfl dX1_latchesDown_6 ?_
      refine nv_to (G 0) (congrArg nI (hR.c0)) ?_
      refine nv_icmp_ge (tgt := 38) hx hb dX1_latchesDown_9 (by decide) (by omega) (by omega) (fun c2 => ?_) (fun c2 => ?_)
      · refine lv_iload_n hx hb dX1_latchesDown_38 rfl (lv_at hl 1 rfl) ?_
        exact nv_retS hq hx hb hr hlocks (nar_i _) (by rw [ht9, show d = G 0 by omega] <;> rfl) dX1_latchesDown_39
      · refine lv_iload_n hx hb dX1_latchesDown_12 rfl (lv_at hl 1 rfl) ?_
        refine lv_aload_n hx hb dX1_latchesDown_13 rfl (lv_at hl 2 rfl) ?_
        refine va_get (D := D) (ci := 3) (v := .ref (ad 1)) (C := RX1) (T := TX1) (N := 12) hx hb hts in_X1 hown hK.1 hP 0 rfl rfl 0 (by decide) fl_11 (fun _ h9 => h9) rfl dX1_latchesDown_14 ?_
        refine lv_iload_n hx hb dX1_latchesDown_17 rfl (lv_at hl 0 rfl) ?_
        refine nv_aldq (i := d) hx hb hK.1 hP 1 2 rfl rfl (by omega) (by decide) dX1_latchesDown_18 ?_
        refine va_get (D := D) (ci := 2) (v := .int (nI (hs_d u (d) 8))) (C := RX0) (T := TX0) (N := 10) hx hb hts in_X0 hown hK.1 hP (6 + (d)) (hw_at (d) (by omega)) rfl 8 (by decide) fl_135 (fun _ h9 => h9) rfl dX1_latchesDown_19 ?_
        refine nv_to (G (72 + d)) (congrArg nI (hR.d8 (d := d) (by omega))) ?_
        have q3 : G (72 + d) < 2 ^ 20 := hG.lt (by omega)
        refine nv_jn (α := Nat) (fun r => W p0 l e0 ({ frames := 0, cells := 0, slots := 0, locals := 0 }) s m0 args below meth c0 s.heap [] 0 0 Q (F0 m0 30 ls (.int (nI r) :: [.int (nI t9)]))) ((if G (72 + d) = 0 then 0 else 1)) (fun r er => ?_) (fun hJ => ?_)
        · subst er
          obtain ⟨w_a, w_g, w_n, w_s, w_w, w_l, w_o, w_x, w_y, w_1, w_2, w_3, w_4⟩ := hG.door (d := d) (by omega)
          refine nv_to (G (72 + d)) (nv_z01 (by omega)) ?_
          refine nv_iadd hx hb dX1_latchesDown_30 ?_
          refine lv_istore_n (lv' := [(1, .int (nI (t9 + (G (72 + d))))), (2, .int (nI d)), (0, .ref (ad 0))]) hx hb dX1_latchesDown_31 rfl hl (by decide) rfl (fun ls hl => ?_)
          refine lv_iinc (v := nI (d + 1)) (lv' := [(2, .int (nI (d + 1))), (1, .int (nI (t9 + (G (72 + d))))), (0, .ref (ad 0))]) hx hb dX1_latchesDown_32 hl (k := 1) rfl (by show nI _ + Int32.ofInt 1 = _; exact nI_add _ 1) (by decide) rfl (fun ls hl => ?_)
          refine lv_goto (tgt := 4) hx hb dX1_latchesDown_35 (by decide) ?_
          exact ih4  (d + 1) (t9 + (G (72 + d))) ((by omega)) ((by rw [ht9]; rfl)) (by omega) ls (lv_sub hl [0, 1, 2] rfl)
        · refine nv_if_eq (tgt := 29) hx hb dX1_latchesDown_22 (by decide) (by omega) (fun c4 => ?_) (fun c4 => ?_)
          · refine lv_iconst (v := nI 0) hx hb dX1_latchesDown_29 (by decide) ?_
            exact hJ _ (if_pos c4).symm
          · refine lv_iconst (v := nI 1) hx hb dX1_latchesDown_25 (by decide) ?_
            refine lv_goto (tgt := 30) hx hb dX1_latchesDown_26 (by decide) ?_
            exact hJ _ (if_neg c4).symm
  exact hloop1 _ 0 0 ((Nat.zero_le _)) (rfl) (Nat.lt_succ_self _) ls (lv_sub hl [0, 1, 2] rfl)

set_option maxHeartbeats 1000000 in
set_option maxRecDepth 100000 in
theorem c_X1_knocksAtDoors (l : Launch) {D : va_G} {cI cC cD cR : ClassId} {sa : sA} {A : Nat → Prop} {ad : Nat → Nat} {u : hS} {G : Nat → Nat} {b : Nat} (hR : hRel u G) (hG : gWf b G)  : Met l yX1_knocksAtDoors wsX1_knocksAtDoors ({ frames := 0, cells := 0, slots := 0, locals := 0 }) (va_Pc [.ref (ad 0)] (tPre D [(cI, .int), (cC, .char), (cD, .object "DoorDialect$Door"), (cR, .object "DoorDialect$House")] nN sa A (fun H => va_P D vwCl (hw cI cD ad u) H))) (sQ (nI (gMany G 104))) 0 0 (fun _ => False) := by
  refine nv_met (cc := cX1_knocksAtDoors) (maxL := 3) (ret := (some .int)) (by decide) rfl (Nat.le_of_ble_eq_true rfl) ?_
  intro p0 e0 s m0 args below meth c0 Q hq hargs hnA hpre ls hl
  obtain ⟨hx, hb, hr, hts, hown, hlocks, hml⟩ := hnA
  obtain ⟨hP, hT⟩ := hpre
  have hK := hT.1
  have hown : s.vm.findClass RX1 = some m0.cls := hown
  have hP : va_P D vwCl (hw cI cD ad u) s.heap := hP
  have hl : lv_has ls 3 [(0, .ref (ad 0))] := hl
  have hS : va_S A s.heap s.heap [] := va_S.rf
  have in_X0 : ∀ w ∈ wsX00, w ∈ wsX1_knocksAtDoors := by decide +kernel
  have in_X1 : ∀ w ∈ wsX10, w ∈ wsX1_knocksAtDoors := by decide +kernel
  have fl_11 := hts (.fieldLink RX1 11 "DoorDialect$House" "doors" "[LDoorDialect$Door;") (by decide +kernel)
  have fl_34 := hts (.fieldLink RX1 34 "DoorDialect$House" "doorCount" "I") (by decide +kernel)
  have fl_127 := hts (.fieldLink RX1 127 "DoorDialect$Door" "knocks" "I") (by decide +kernel)
  obtain ⟨g_b, g_k, g_0, g_1, g_2, g_e, g_d, g_t, g_y, g_s, g_h⟩ := id hG
  refine lv_iconst (v := nI 0) hx hb dX1_knocksAtDoors_0 (by decide) ?_
  refine lv_istore_n (lv' := [(1, .int (nI 0)), (0, .ref (ad 0))]) hx hb dX1_knocksAtDoors_1 rfl hl (by decide) rfl (fun ls hl => ?_)
  refine lv_iconst (v := nI 0) hx hb dX1_knocksAtDoors_2 (by decide) ?_
  refine lv_istore_n (lv' := [(2, .int (nI 0)), (1, .int (nI 0)), (0, .ref (ad 0))]) hx hb dX1_knocksAtDoors_3 rfl hl (by decide) rfl (fun ls hl => ?_)
  have hloop1 : ∀ (nn : Nat) (d : Nat) (t9 : Nat), (d ≤ G 0) → (t9 = sm (fun d => G (104 + d)) d) → G 0 - d < nn → ∀ (ls : Array Slot), lv_has ls 3 [(2, .int (nI d)), (1, .int (nI t9)), (0, .ref (ad 0))] → W p0 l e0 ({ frames := 0, cells := 0, slots := 0, locals := 0 }) s m0 args below meth c0 s.heap [] 0 0 Q (F0 m0 4 ls []) := by
    intro nn4
    induction nn4 with
    | zero => intro d t9 hd9 ht9 hn0  _ _; exact absurd hn0 (Nat.not_lt_zero _)
    | succ nn4 ih4 =>
      intro d t9 hd9 ht9 hn4  ls hl
      refine lv_iload_n hx hb dX1_knocksAtDoors_4 rfl (lv_at hl 0 rfl) ?_
      refine lv_aload_n hx hb dX1_knocksAtDoors_5 rfl (lv_at hl 2 rfl) ?_
      refine va_get (D := D) (ci := 3) (v := .int (nI (hs_c u 0))) (C := RX1) (T := TX1) (N := 12) hx hb hts in_X1 hown hK.1 hP 0 rfl rfl 5 (by decide) fl_34 (fun _ h9 => h9) rfl dX1_knocksAtDoors_6 ?_
      refine nv_to (G 0) (congrArg nI (hR.c0)) ?_
      refine nv_icmp_ge (tgt := 30) hx hb dX1_knocksAtDoors_9 (by decide) (by omega) (by omega) (fun c2 => ?_) (fun c2 => ?_)
      · refine lv_iload_n hx hb dX1_knocksAtDoors_30 rfl (lv_at hl 1 rfl) ?_
        exact nv_retS hq hx hb hr hlocks (nar_i _) (by rw [ht9, show d = G 0 by omega] <;> rfl) dX1_knocksAtDoors_31
      · refine lv_iload_n hx hb dX1_knocksAtDoors_12 rfl (lv_at hl 1 rfl) ?_
        refine lv_aload_n hx hb dX1_knocksAtDoors_13 rfl (lv_at hl 2 rfl) ?_
        refine va_get (D := D) (ci := 3) (v := .ref (ad 1)) (C := RX1) (T := TX1) (N := 12) hx hb hts in_X1 hown hK.1 hP 0 rfl rfl 0 (by decide) fl_11 (fun _ h9 => h9) rfl dX1_knocksAtDoors_14 ?_
        refine lv_iload_n hx hb dX1_knocksAtDoors_17 rfl (lv_at hl 0 rfl) ?_
        refine nv_aldq (i := d) hx hb hK.1 hP 1 2 rfl rfl (by omega) (by decide) dX1_knocksAtDoors_18 ?_
        refine va_get (D := D) (ci := 2) (v := .int (nI (hs_d u (d) 7))) (C := RX0) (T := TX0) (N := 10) hx hb hts in_X0 hown hK.1 hP (6 + (d)) (hw_at (d) (by omega)) rfl 7 (by decide) fl_127 (fun _ h9 => h9) rfl dX1_knocksAtDoors_19 ?_
        refine nv_to (G (104 + d)) (congrArg nI (hR.d7 (d := d) (by omega))) ?_
        have q3 : G (104 + d) < 2 ^ 20 := hG.lt (by omega)
        refine nv_iadd hx hb dX1_knocksAtDoors_22 ?_
        refine lv_istore_n (lv' := [(1, .int (nI (t9 + (G (104 + d))))), (2, .int (nI d)), (0, .ref (ad 0))]) hx hb dX1_knocksAtDoors_23 rfl hl (by decide) rfl (fun ls hl => ?_)
        refine lv_iinc (v := nI (d + 1)) (lv' := [(2, .int (nI (d + 1))), (1, .int (nI (t9 + (G (104 + d))))), (0, .ref (ad 0))]) hx hb dX1_knocksAtDoors_24 hl (k := 1) rfl (by show nI _ + Int32.ofInt 1 = _; exact nI_add _ 1) (by decide) rfl (fun ls hl => ?_)
        refine lv_goto (tgt := 4) hx hb dX1_knocksAtDoors_27 (by decide) ?_
        exact ih4  (d + 1) (t9 + (G (104 + d))) ((by omega)) ((by rw [ht9]; rfl)) (by omega) ls (lv_sub hl [0, 1, 2] rfl)
  exact hloop1 _ 0 0 ((Nat.zero_le _)) (rfl) (Nat.lt_succ_self _) ls (lv_sub hl [0, 1, 2] rfl)
