set_option maxHeartbeats 1000000 in
set_option maxRecDepth 100000 in
theorem c_N6_errorPosition (l : Launch) (hl9 : l.stackTraces = false) {D : va_G} {cI cC cD cR : ClassId} {sa : sA} {A : Nat → Prop} {AD : Nat → Nat} {G Sv Hi In Le : Nat → Nat} {b hs ch ty wy ln : Nat} {ea ra wd : Int32}  : vx_Met l yX6_errorPosition wsNX6_errorPosition ({ frames := 6, cells := 1, slots := 6, locals := 82 }) (va_Pc [.ref (AD 0)] (tPre D [(cI, .int), (cC, .char), (cD, .object "DoorDialect$Door"), (cR, .object "DoorDialect$House")] nN sa A (cW D cI cC cD cR AD G Sv Hi In Le hs ch ty wy ln ea ra wd))) (gQX (if ea = -1 then 1 else 0) ((if ea = -1 then 0 else ea)) (cW D cI cC cD cR AD G Sv Hi In Le hs ch ty wy ln ea ra wd) A) (xQ ["java/util/NoSuchElementException"] (if ea = -1 then 1 else 0) (cW D cI cC cD cR AD G Sv Hi In Le hs ch ty wy ln ea ra wd) A) 1 6 A := by
  refine nv_metX (cc := cX6_errorPosition) (maxL := 1) (ret := (some .int)) (by decide) rfl (Nat.le_of_ble_eq_true rfl) ?_
  intro p0 e0 s m0 args below meth c0 Q hq hargs hnA hout hpre ls hl
  obtain ⟨hx, hb, hr, hts, hown, hlocks, hml⟩ := hnA
  obtain ⟨hP, hT⟩ := hpre
  have hK := hT.1
  have hown : s.vm.findClass RX6 = some m0.cls := hown
  obtain ⟨hPo, ⟨u, hR, hk, hPh⟩, hPi, hPs, hPp, hPw, hPt⟩ := hP
  have hPo : va_P D vwCl (cOb AD (hs) (wy) (wd) (ea) (ra)) s.heap := hPo
  have hPh : va_P D vwCl (hw cI cD (cAd AD 1) u) s.heap := hPh
  have hl : lv_has ls 1 [(0, .ref (AD 0))] := hl
  have hS : va_S A s.heap s.heap [] := va_S.rf
  have in_X6 : ∀ w ∈ wsX60, w ∈ wsNX6_errorPosition := by decide +kernel
  have fl_58 := hts (.fieldLink RX6 58 "DoorDialect" "malformedAt" "I") (by decide +kernel)
  refine lv_aload_n hx hb dX6_errorPosition_0 rfl (lv_at hl 0 rfl) ?_
  refine va_get (D := D) (ci := 8) (v := .int ea) (C := RX6) (T := TX6) (N := 11) hx hb hts in_X6 hown hK.1 hPo 0 rfl rfl 9 (by decide) fl_58 (fun _ h9 => h9) rfl dX6_errorPosition_1 ?_
  refine lv_iconst (v := (-1)) hx hb dX6_errorPosition_4 (by decide) ?_
  refine lv_icmp_ne (tgt := 19) hx hb dX6_errorPosition_5 (by decide) (fun c1 => ?_) (fun c1 => ?_)
  · refine lv_aload_n hx hb dX6_errorPosition_19 rfl (lv_at hl 0 rfl) ?_
    refine va_get (D := D) (ci := 8) (v := .int ea) (C := RX6) (T := TX6) (N := 11) hx hb hts in_X6 hown hK.1 hPo 0 rfl rfl 9 (by decide) fl_58 (fun _ h9 => h9) rfl dX6_errorPosition_20 ?_
    exact nv_retGX hq hx hb hr hlocks (Nat.le_of_ble_eq_true rfl) (Nat.le_of_ble_eq_true rfl) (nar_i _) (if_neg c1) (by rw [if_neg c1]) hS (⟨hPo, ⟨u, hR, hk, hPh⟩, hPi, hPs, hPp, hPw, hPt⟩) dX6_errorPosition_23
  · exact nx_throwW (ix := 13) (rx := rxNSE) (Y9 := "java/lang/RuntimeException") (ws := wsNX6_errorPosition) (ik := 263) (is := 398) (ic := 267) (cls := "java/util/NoSuchElementException") (text := "no input was malformed") (names := ["java/lang/Exception"]) hq hx hb hl9 hown hts hT rxNSE_ok nNSE_fit ⟨by decide +kernel, by decide +kernel⟩ ⟨by decide +kernel, by decide +kernel⟩ (fun w hw => List.mem_cons_of_mem _ (List.mem_append_right _ hw)) nNSE_bad nNSE_ok hS (hl.1.trans hml.symm) dX6_errorPosition_8 dX6_errorPosition_11 dX6_errorPosition_12 dX6_errorPosition_15 dX6_errorPosition_18 hout (by decide) (Nat.le_of_ble_eq_true rfl) (Nat.le_of_ble_eq_true rfl) (Nat.le_of_ble_eq_true rfl) hlocks (Nat.le_of_ble_eq_true rfl) (Nat.le_of_ble_eq_true rfl) (by rw [if_pos c1]; exact Nat.succ_ne_zero _) (by rw [if_pos c1] <;> rfl) (fun H1 h9 => (cJ.grow (show cJ D cI cC cD cR AD u Sv Hi In Le hs ch ty wy ln ea ra wd _ from ⟨hPo, hPh, hPi, hPs, hPp, hPw, hPt⟩) h9).W hR hk)


set_option maxHeartbeats 1000000 in
set_option maxRecDepth 100000 in
theorem c_N6_refusedItem (l : Launch) (hl9 : l.stackTraces = false) {D : va_G} {cI cC cD cR : ClassId} {sa : sA} {A : Nat → Prop} {AD : Nat → Nat} {G Sv Hi In Le : Nat → Nat} {b hs ch ty wy ln : Nat} {ea ra wd : Int32}  : vx_Met l yX6_refusedItem wsNX6_refusedItem ({ frames := 6, cells := 1, slots := 6, locals := 82 }) (va_Pc [.ref (AD 0)] (tPre D [(cI, .int), (cC, .char), (cD, .object "DoorDialect$Door"), (cR, .object "DoorDialect$House")] nN sa A (cW D cI cC cD cR AD G Sv Hi In Le hs ch ty wy ln ea ra wd))) (gQX (if ra = -1 then 1 else 0) ((if ra = -1 then 0 else ra)) (cW D cI cC cD cR AD G Sv Hi In Le hs ch ty wy ln ea ra wd) A) (xQ ["java/util/NoSuchElementException"] (if ra = -1 then 1 else 0) (cW D cI cC cD cR AD G Sv Hi In Le hs ch ty wy ln ea ra wd) A) 1 6 A := by
  refine nv_metX (cc := cX6_refusedItem) (maxL := 1) (ret := (some .int)) (by decide) rfl (Nat.le_of_ble_eq_true rfl) ?_
  intro p0 e0 s m0 args below meth c0 Q hq hargs hnA hout hpre ls hl
  obtain ⟨hx, hb, hr, hts, hown, hlocks, hml⟩ := hnA
  obtain ⟨hP, hT⟩ := hpre
  have hK := hT.1
  have hown : s.vm.findClass RX6 = some m0.cls := hown
  obtain ⟨hPo, ⟨u, hR, hk, hPh⟩, hPi, hPs, hPp, hPw, hPt⟩ := hP
  have hPo : va_P D vwCl (cOb AD (hs) (wy) (wd) (ea) (ra)) s.heap := hPo
  have hPh : va_P D vwCl (hw cI cD (cAd AD 1) u) s.heap := hPh
  have hl : lv_has ls 1 [(0, .ref (AD 0))] := hl
  have hS : va_S A s.heap s.heap [] := va_S.rf
  have in_X6 : ∀ w ∈ wsX60, w ∈ wsNX6_refusedItem := by decide +kernel
  have fl_61 := hts (.fieldLink RX6 61 "DoorDialect" "refusedOrder" "I") (by decide +kernel)
  refine lv_aload_n hx hb dX6_refusedItem_0 rfl (lv_at hl 0 rfl) ?_
  refine va_get (D := D) (ci := 8) (v := .int ra) (C := RX6) (T := TX6) (N := 11) hx hb hts in_X6 hown hK.1 hPo 0 rfl rfl 10 (by decide) fl_61 (fun _ h9 => h9) rfl dX6_refusedItem_1 ?_
  refine lv_iconst (v := (-1)) hx hb dX6_refusedItem_4 (by decide) ?_
  refine lv_icmp_ne (tgt := 19) hx hb dX6_refusedItem_5 (by decide) (fun c1 => ?_) (fun c1 => ?_)
  · refine lv_aload_n hx hb dX6_refusedItem_19 rfl (lv_at hl 0 rfl) ?_
    refine va_get (D := D) (ci := 8) (v := .int ra) (C := RX6) (T := TX6) (N := 11) hx hb hts in_X6 hown hK.1 hPo 0 rfl rfl 10 (by decide) fl_61 (fun _ h9 => h9) rfl dX6_refusedItem_20 ?_
    exact nv_retGX hq hx hb hr hlocks (Nat.le_of_ble_eq_true rfl) (Nat.le_of_ble_eq_true rfl) (nar_i _) (if_neg c1) (by rw [if_neg c1]) hS (⟨hPo, ⟨u, hR, hk, hPh⟩, hPi, hPs, hPp, hPw, hPt⟩) dX6_refusedItem_23
  · exact nx_throwW (ix := 13) (rx := rxNSE) (Y9 := "java/lang/RuntimeException") (ws := wsNX6_refusedItem) (ik := 263) (is := 400) (ic := 267) (cls := "java/util/NoSuchElementException") (text := "no input was refused") (names := ["java/lang/Exception"]) hq hx hb hl9 hown hts hT rxNSE_ok nNSE_fit ⟨by decide +kernel, by decide +kernel⟩ ⟨by decide +kernel, by decide +kernel⟩ (fun w hw => List.mem_cons_of_mem _ (List.mem_append_right _ hw)) nNSE_bad nNSE_ok hS (hl.1.trans hml.symm) dX6_refusedItem_8 dX6_refusedItem_11 dX6_refusedItem_12 dX6_refusedItem_15 dX6_refusedItem_18 hout (by decide) (Nat.le_of_ble_eq_true rfl) (Nat.le_of_ble_eq_true rfl) (Nat.le_of_ble_eq_true rfl) hlocks (Nat.le_of_ble_eq_true rfl) (Nat.le_of_ble_eq_true rfl) (by rw [if_pos c1]; exact Nat.succ_ne_zero _) (by rw [if_pos c1] <;> rfl) (fun H1 h9 => (cJ.grow (show cJ D cI cC cD cR AD u Sv Hi In Le hs ch ty wy ln ea ra wd _ from ⟨hPo, hPh, hPi, hPs, hPp, hPw, hPt⟩) h9).W hR hk)


set_option maxHeartbeats 1000000 in
set_option maxRecDepth 100000 in
theorem c_N6_ranked (l : Launch) (hl9 : l.stackTraces = false) {D : va_G} {cI cC cD cR : ClassId} {sa : sA} {A : Nat → Prop} {AD : Nat → Nat} {G Sv Hi In Le : Nat → Nat} {b hs ch ty wy ln : Nat} {ea ra wd : Int32} (hG : gWf b G) (hI : cInj AD) (hAA : ∀ i, i < 165 → A (AD i)) (m x : Int32) : vx_Met l yX6_ranked wsNX6_ranked ({ frames := 6, cells := 1, slots := 6, locals := 82 }) (va_Pc [.ref (AD 0), .int m, .int x] (tPre D [(cI, .int), (cC, .char), (cD, .object "DoorDialect$Door"), (cR, .object "DoorDialect$House")] nN sa A (cW D cI cC cD cR AD G Sv Hi In Le hs ch ty wy ln ea ra wd))) (gQX (if iR m 2 then (if gRk G (if tN m = 0 then 104 else 64) x < G 0 then 0 else 2) else 1) ((if iR m 2 then (if gRk G (if tN m = 0 then 104 else 64) x < G 0 then nI (gRk G (if tN m = 0 then 104 else 64) x) else 0) else 0)) (cW D cI cC cD cR AD G Sv Hi In Le hs ch ty wy ln ea ra wd) A) (xQ ["java/lang/IllegalArgumentException", "java/util/NoSuchElementException"] (if iR m 2 then (if gRk G (if tN m = 0 then 104 else 64) x < G 0 then 0 else 2) else 1) (cW D cI cC cD cR AD G Sv Hi In Le hs ch ty wy ln ea ra wd) A) 1 6 A := by
  refine nv_metX (cc := cX6_ranked) (maxL := 4) (ret := (some .int)) (by decide) rfl (Nat.le_of_ble_eq_true rfl) ?_
  intro p0 e0 s m0 args below meth c0 Q hq hargs hnA hout hpre ls hl
  obtain ⟨hx, hb, hr, hts, hown, hlocks, hml⟩ := hnA
  obtain ⟨hP, hT⟩ := hpre
  have hK := hT.1
  have hown : s.vm.findClass RX6 = some m0.cls := hown
  obtain ⟨hPo, ⟨u, hR, hk, hPh⟩, hPi, hPs, hPp, hPw, hPt⟩ := hP
  have hPo : va_P D vwCl (cOb AD (hs) (wy) (wd) (ea) (ra)) s.heap := hPo
  have hPh : va_P D vwCl (hw cI cD (cAd AD 1) u) s.heap := hPh
  have hl : lv_has ls 4 [(0, .ref (AD 0)), (1, .int m), (2, .int x)] := hl
  have hS : va_S A s.heap s.heap [] := va_S.rf
  have in_X1 : ∀ w ∈ wsX10, w ∈ wsNX6_ranked := by decide +kernel
  have in_X6 : ∀ w ∈ wsX60, w ∈ wsNX6_ranked := by decide +kernel
  have fl_10 := hts (.fieldLink RX6 10 "DoorDialect" "house" "LDoorDialect$House;") (by decide +kernel)
  have fl_64 := hts (.fieldLink RX6 64 "DoorDialect$House" "doorCount" "I") (by decide +kernel)
  obtain ⟨g_b, g_k, g_0, g_1, g_2, g_e, g_d, g_t, g_y, g_s, g_h⟩ := id hG
  have zq0 : G 0 = G 0 := rfl
  have l3 := hG.lt (k := 3) (by decide)
  have l4 := hG.lt (k := 4) (by decide)
  have l5 := hG.lt (k := 5) (by decide)
  refine lv_iload_n hx hb dX6_ranked_0 rfl (lv_at hl 1 rfl) ?_
  refine lv_iconst (v := nI 2) hx hb dX6_ranked_1 (by decide) ?_
  refine nv_kS (va_runS (As := [.int m, .int (nI 2)]) (rest := []) ⟨hx, hb, hml, hown, hts⟩ (c_X6_isBelow l (m) 2 (by omega)) (va_cwS 2 hts gNX6_ranked_X6_isBelow rfl rfl rfl (by decide +kernel) ⟨Nat.le_of_ble_eq_true rfl, Nat.le_of_ble_eq_true rfl⟩) (nt_pS hT hS trivial) rfl rfl hl.1 rfl (lv_room (Nat.le_of_ble_eq_true rfl)) dX6_ranked_2 ⟨Nat.le_of_ble_eq_true rfl, Nat.le_of_ble_eq_true rfl⟩) ?_
  refine nv_ifb_ne (tgt := 19) hx hb dX6_ranked_5 (by decide) (fun c1 => ?_) (fun c1 => ?_)
  · have c1k := c1
    obtain ⟨mk, h_mk, rfl⟩ := iR_of c1k (by decide)
    have et_mk : tN (nI mk) = mk := tN_nI (by omega)
    refine lv_iconst (v := nI 0) hx hb dX6_ranked_19 (by decide) ?_
    refine lv_istore_n (lv' := [(3, .int (nI 0)), (0, .ref (AD 0)), (1, .int (nI mk)), (2, .int x)]) hx hb dX6_ranked_20 rfl hl (by decide) rfl (fun ls hl => ?_)
    have hloop2 : ∀ (nn : Nat) (d : Nat), (d ≤ G 0) → (∀ j, j < d → ¬ nI (gRank G (if mk = 0 then 104 else 64) j) = x) → G 0 - d < nn → ∀ (ls : Array Slot), lv_has ls 4 [(3, .int (nI d)), (0, .ref (AD 0)), (1, .int (nI mk)), (2, .int x)] → W p0 l e0 ({ frames := 6, cells := 1, slots := 6, locals := 82 }) s m0 args below meth c0 s.heap [] 0 0 Q (F0 m0 21 ls []) := by
      intro nn21
      induction nn21 with
      | zero => intro d hd hn hn0  _ _; exact absurd hn0 (Nat.not_lt_zero _)
      | succ nn21 ih21 =>
        intro d hd hn hn21  ls hl
        refine lv_iload_n hx hb dX6_ranked_21 rfl (lv_at hl 0 rfl) ?_
        refine lv_aload_n hx hb dX6_ranked_22 rfl (lv_at hl 1 rfl) ?_
        refine va_get (D := D) (ci := 8) (v := .ref ((cAd AD 1) 0)) (C := RX6) (T := TX6) (N := 11) hx hb hts in_X6 hown hK.1 hPo 0 rfl rfl 0 (by decide) fl_10 (fun _ h9 => h9) rfl dX6_ranked_23 ?_
        refine va_get (D := D) (ci := 3) (v := .int (nI (hs_c u 0))) (C := RX1) (T := TX1) (N := 12) hx hb hts in_X1 hown hK.1 hPh 0 rfl rfl 5 (by decide) fl_64 (fun _ h9 => h9) rfl dX6_ranked_26 ?_
        refine nv_to (G 0) (congrArg nI ((hR.c0))) ?_
        refine nv_icmp_ge (tgt := 53) hx hb dX6_ranked_29 (by decide) (by omega) (by omega) (fun c3 => ?_) (fun c3 => ?_)
        · exact nx_throwW (ix := 13) (rx := rxNSE) (Y9 := "java/lang/RuntimeException") (ws := wsNX6_ranked) (ik := 263) (is := 283) (ic := 267) (cls := "java/util/NoSuchElementException") (text := "there is no such place") (names := ["java/lang/Exception"]) hq hx hb hl9 hown hts hT rxNSE_ok nNSE_fit ⟨by decide +kernel, by decide +kernel⟩ ⟨by decide +kernel, by decide +kernel⟩ (fun w hw => List.mem_cons_of_mem _ (List.mem_append_right _ hw)) nNSE_bad nNSE_ok hS (hl.1.trans hml.symm) dX6_ranked_53 dX6_ranked_56 dX6_ranked_57 dX6_ranked_60 dX6_ranked_63 hout (by decide) (Nat.le_of_ble_eq_true rfl) (Nat.le_of_ble_eq_true rfl) (Nat.le_of_ble_eq_true rfl) hlocks (Nat.le_of_ble_eq_true rfl) (Nat.le_of_ble_eq_true rfl) (by rw [if_pos c1, et_mk, show gRk G (if mk = 0 then 104 else 64) x = G 0 from fd_none (fun j hj => hn j (by omega)), if_neg (Nat.lt_irrefl _)]; exact Nat.succ_ne_zero _) (by rw [if_pos c1, et_mk, show gRk G (if mk = 0 then 104 else 64) x = G 0 from fd_none (fun j hj => hn j (by omega)), if_neg (Nat.lt_irrefl _)] <;> rfl) (fun H1 h9 => (cJ.grow (show cJ D cI cC cD cR AD u Sv Hi In Le hs ch ty wy ln ea ra wd _ from ⟨hPo, hPh, hPi, hPs, hPp, hPw, hPt⟩) h9).W hR hk)
        · refine lv_aload_n hx hb dX6_ranked_32 rfl (lv_at hl 1 rfl) ?_
          refine va_get (D := D) (ci := 8) (v := .ref ((cAd AD 1) 0)) (C := RX6) (T := TX6) (N := 11) hx hb hts in_X6 hown hK.1 hPo 0 rfl rfl 0 (by decide) fl_10 (fun _ h9 => h9) rfl dX6_ranked_33 ?_
          refine lv_iload_n hx hb dX6_ranked_36 rfl (lv_at hl 0 rfl) ?_
          refine lv_iload_n hx hb dX6_ranked_37 rfl (lv_at hl 2 rfl) ?_
          refine nv_kS (va_runV (As := [.int (nI d), .int (nI mk)]) (rest := []) ⟨hx, hb, hml, hown, hts⟩ (c_X1_doorsAhead l hR hG d mk (by omega) (by omega)) (cwV 2 hts gNX6_ranked_X1_doorsAhead rfl rfl rfl (by decide +kernel) ⟨Nat.le_of_ble_eq_true rfl, Nat.le_of_ble_eq_true rfl⟩) (nt_pV hT hS hPh (va_recv hK.1 hPh (ci := 3) (q0 := 0) rfl rfl)) rfl rfl hl.1 rfl (lv_room (Nat.le_of_ble_eq_true rfl)) dX6_ranked_38 ⟨Nat.le_of_ble_eq_true rfl, Nat.le_of_ble_eq_true rfl⟩) ?_
          refine lv_iload_n hx hb dX6_ranked_41 rfl (lv_at hl 3 rfl) ?_
          refine lv_icmp_ne (tgt := 47) hx hb dX6_ranked_42 (by decide) (fun c4 => ?_) (fun c4 => ?_)
          · refine lv_iinc (v := nI (d + 1)) (lv' := [(3, .int (nI (d + 1))), (0, .ref (AD 0)), (1, .int (nI mk)), (2, .int x)]) hx hb dX6_ranked_47 hl (k := 0) rfl (by show nI _ + Int32.ofInt 1 = _; exact nI_add _ 1) (by decide) rfl (fun ls hl => ?_)
            refine lv_goto (tgt := 21) hx hb dX6_ranked_50 (by decide) ?_
            exact ih21  (d + 1) ((by omega)) ((fun j hj => by rcases (show j < d ∨ j = d by omega) with h | h; exact hn j h; subst h; exact c4)) (by omega) ls (lv_sub hl [0, 1, 2, 3] rfl)
          · have hit9 := c4
            refine lv_iload_n hx hb dX6_ranked_45 rfl (lv_at hl 0 rfl) ?_
            exact nv_retGX hq hx hb hr hlocks (Nat.le_of_ble_eq_true rfl) (Nat.le_of_ble_eq_true rfl) (nar_i _) (by rw [if_pos c1, et_mk, show gRk G (if mk = 0 then 104 else 64) x = d from fd_some hn hit9 (by omega), if_pos (by omega)]) (by rw [if_pos c1, et_mk, show gRk G (if mk = 0 then 104 else 64) x = d from fd_some hn hit9 (by omega), if_pos (by omega)]) hS (⟨hPo, ⟨u, hR, hk, hPh⟩, hPi, hPs, hPp, hPw, hPt⟩) dX6_ranked_46
    exact hloop2 _ 0 ((Nat.zero_le _)) ((fun j hj => absurd hj (Nat.not_lt_zero j))) (Nat.lt_succ_self _) ls (lv_sub hl [0, 1, 2, 3] rfl)
  · exact nv_throwW (ws := wsNX6_ranked) (ik := 168) (is := 278) (ic := 172) (cls := "java/lang/IllegalArgumentException") (text := "there is no such measure") (names := ["java/lang/RuntimeException", "java/lang/Exception"]) hq hx hb hl9 hown hts hT xIAE_fit ⟨by decide +kernel, by decide +kernel⟩ ⟨by decide +kernel, by decide +kernel⟩ (fun w hw => List.mem_cons_of_mem _ (List.mem_append_left _ (List.mem_append_right _ hw))) xIAE_bad xIAE_ok hS (hl.1.trans hml.symm) dX6_ranked_8 dX6_ranked_11 dX6_ranked_12 dX6_ranked_15 dX6_ranked_18 hout (by decide) (Nat.le_of_ble_eq_true rfl) (Nat.le_of_ble_eq_true rfl) (Nat.le_of_ble_eq_true rfl) hlocks (Nat.le_of_ble_eq_true rfl) (Nat.le_of_ble_eq_true rfl) (by rw [if_neg c1]; exact Nat.succ_ne_zero _) (by rw [if_neg c1] <;> rfl) (fun H1 h9 => (cJ.grow (show cJ D cI cC cD cR AD u Sv Hi In Le hs ch ty wy ln ea ra wd _ from ⟨hPo, hPh, hPi, hPs, hPp, hPw, hPt⟩) h9).W hR hk)


set_option maxHeartbeats 1000000 in
set_option maxRecDepth 100000 in
theorem c_N6_way (l : Launch) (hl9 : l.stackTraces = false) {D : va_G} {cI cC cD cR : ClassId} {sa : sA} {A : Nat → Prop} {AD : Nat → Nat} {G Sv Hi In Le : Nat → Nat} {bb hs ch ty wy ln : Nat} {ea ra wd : Int32} (hG : gWf bb G) (hI : cInj AD) (hAA : ∀ i, i < 165 → A (AD i)) (a b : Int32) (z : Nat) (hz : z ≤ 1) : vx_Met l yX6_way wsNX6_way ({ frames := 7, cells := 3, slots := 18, locals := 102 }) (va_Pc [.ref (AD 0), .int a, .int b, .int (nI z)] (tPre D [(cI, .int), (cC, .char), (cD, .object "DoorDialect$Door"), (cR, .object "DoorDialect$House")] nN sa A (cW D cI cC cD cR AD G Sv Hi In Le hs ch ty wy ln ea ra wd))) (gQX (if iR a 6 ∧ iR b 6 then (if gWay G (tN a) (tN b) < 6 then 0 else 2) else 1) ((if iR a 6 ∧ iR b 6 then (if gWay G (tN a) (tN b) < 6 then nI (gWay G (tN a) (tN b)) else 0) else 0)) (cW D cI cC cD cR AD G Sv Hi In Le hs ch ty wy ln ea ra wd) A) (xQ ["java/lang/IndexOutOfBoundsException", "java/util/NoSuchElementException"] (if iR a 6 ∧ iR b 6 then (if gWay G (tN a) (tN b) < 6 then 0 else 2) else 1) (cW D cI cC cD cR AD G Sv Hi In Le hs ch ty wy ln ea ra wd) A) 3 18 A := by
  refine nv_metX (cc := cX6_way) (maxL := 5) (ret := (some .int)) (by decide) rfl (Nat.le_of_ble_eq_true rfl) ?_
  intro p0 e0 s m0 args below meth c0 Q hq hargs hnA hout hpre ls hl
  obtain ⟨hx, hb, hr, hts, hown, hlocks, hml⟩ := hnA
  obtain ⟨hP, hT⟩ := hpre
  have hK := hT.1
  have hown : s.vm.findClass RX6 = some m0.cls := hown
  obtain ⟨hPo, ⟨u, hR, hk, hPh⟩, hPi, hPs, hPp, hPw, hPt⟩ := hP
  have hPo : va_P D vwCl (cOb AD (hs) (wy) (wd) (ea) (ra)) s.heap := hPo
  have hPh : va_P D vwCl (hw cI cD (cAd AD 1) u) s.heap := hPh
  have hl : lv_has ls 5 [(0, .ref (AD 0)), (1, .int a), (2, .int b), (3, .int (nI z))] := hl
  have hS : va_S A s.heap s.heap [] := va_S.rf
  have in_X6 : ∀ w ∈ wsX60, w ∈ wsNX6_way := by decide +kernel
  have fl_10 := hts (.fieldLink RX6 10 "DoorDialect" "house" "LDoorDialect$House;") (by decide +kernel)
  have fl_29 := hts (.fieldLink RX6 29 "DoorDialect" "walk" "LDoorDialect$Walk;") (by decide +kernel)
  obtain ⟨g_b, g_k, g_0, g_1, g_2, g_e, g_d, g_t, g_y, g_s, g_h⟩ := id hG
  have zq0 : G 0 = G 0 := rfl
  have l3 := hG.lt (k := 3) (by decide)
  have l4 := hG.lt (k := 4) (by decide)
  have l5 := hG.lt (k := 5) (by decide)
  refine lv_iload_n hx hb dX6_way_0 rfl (lv_at hl 1 rfl) ?_
  refine nv_kGXv (vx_runS (As := [.int a]) (rest := []) ⟨hx, hb, hml, hown, hts⟩ (c_X6_requireRoom l hl9 (A := fun _ => False) (J := cJ D cI cC cD cR AD u Sv Hi In Le hs ch ty wy ln ea ra wd) (fun _ _ h9 h8 => h8.grow h9) ((a))) (va_cwS 1 hts gNX6_way_X6_requireRoom rfl rfl rfl (by decide +kernel) ⟨Nat.le_of_ble_eq_true rfl, Nat.le_of_ble_eq_true rfl⟩) (nt_pSn hT hS (fun _ h9 => h9.elim) ⟨hPo, hPh, hPi, hPs, hPp, hPw, hPt⟩) rfl rfl hl.1 rfl (lv_room (Nat.le_of_ble_eq_true rfl)) dX6_way_1 ⟨Nat.le_of_ble_eq_true rfl, Nat.le_of_ble_eq_true rfl⟩) hS (fun _ h9 => h9.elim) hq hout hlocks (Nat.le_of_ble_eq_true rfl) (Nat.le_of_ble_eq_true rfl) (fun H h0 hP1 hK1 => ?_) (fun H locs h0 hP1 hK1 hS => ?_)
  · have hn : ¬ iR ((a)) 6 := fun q => h0 (if_pos q)
    exact ⟨by rw [if_neg (fun q => hn q.1)]; exact Nat.one_ne_zero, by first | rw [if_neg hn, if_neg (fun q => hn q.1)] <;> rfl | rw [if_neg hn] <;> rfl, hP1.W hR hk⟩
  obtain ⟨hPo, hPh, hPi, hPs, hPp, hPw, hPt⟩ := hP1
  have c1 : iR ((a)) 6 := if01 h0
  have c1k := c1
  obtain ⟨ak, h_ak, rfl⟩ := iR_of c1k (by decide)
  have et_ak : tN (nI ak) = ak := tN_nI (by omega)
  refine lv_iload_n hx hb dX6_way_4 rfl (lv_at hl 2 rfl) ?_
  refine nv_kGXv (vx_runS (As := [.int b]) (rest := []) ⟨hx, hb, hml, hown, hts⟩ (c_X6_requireRoom l hl9 (A := fun _ => False) (J := cJ D cI cC cD cR AD u Sv Hi In Le hs ch ty wy ln ea ra wd) (fun _ _ h9 h8 => h8.grow h9) ((b))) (va_cwS 1 hts gNX6_way_X6_requireRoom rfl rfl rfl (by decide +kernel) ⟨Nat.le_of_ble_eq_true rfl, Nat.le_of_ble_eq_true rfl⟩) (nt_pSn hT hS (fun _ h9 => h9.elim) ⟨hPo, hPh, hPi, hPs, hPp, hPw, hPt⟩) rfl rfl hl.1 rfl (lv_room (Nat.le_of_ble_eq_true rfl)) dX6_way_5 ⟨Nat.le_of_ble_eq_true rfl, Nat.le_of_ble_eq_true rfl⟩) hS (fun _ h9 => h9.elim) hq hout hlocks (Nat.le_of_ble_eq_true rfl) (Nat.le_of_ble_eq_true rfl) (fun H h0 hP1 hK1 => ?_) (fun H locs h0 hP1 hK1 hS => ?_)
  · have hn : ¬ iR ((b)) 6 := fun q => h0 (if_pos q)
    exact ⟨by rw [if_neg (fun q => hn q.2)]; exact Nat.one_ne_zero, by first | rw [if_neg hn, if_neg (fun q => hn q.2)] <;> rfl | rw [if_neg hn] <;> rfl, hP1.W hR hk⟩
  obtain ⟨hPo, hPh, hPi, hPs, hPp, hPw, hPt⟩ := hP1
  have c2 : iR ((b)) 6 := if01 h0
  have c2k := c2
  obtain ⟨bk, h_bk, rfl⟩ := iR_of c2k (by decide)
  have et_bk : tN (nI bk) = bk := tN_nI (by omega)
  refine lv_iload_n hx hb dX6_way_8 rfl (lv_at hl 3 rfl) ?_
  refine nv_if_eq (tgt := 28) hx hb dX6_way_9 (by decide) (by omega) (fun c3 => ?_) (fun c3 => ?_)
  · refine lv_aload_n hx hb dX6_way_28 rfl (lv_at hl 0 rfl) ?_
    refine va_get (D := D) (ci := 8) (v := .ref ((cAd AD 157) 0)) (C := RX6) (T := TX6) (N := 11) hx hb hts in_X6 hown hK.1 hPo 0 rfl rfl 3 (by decide) fl_29 (fun _ h9 => h9) rfl dX6_way_29 ?_
    refine lv_aload_n hx hb dX6_way_32 rfl (lv_at hl 0 rfl) ?_
    refine va_get (D := D) (ci := 8) (v := .ref ((cAd AD 1) 0)) (C := RX6) (T := TX6) (N := 11) hx hb hts in_X6 hown hK.1 hPo 0 rfl rfl 0 (by decide) fl_10 (fun _ h9 => h9) rfl dX6_way_33 ?_
    refine lv_iload_n hx hb dX6_way_36 rfl (lv_at hl 1 rfl) ?_
    refine lv_iload_n hx hb dX6_way_37 rfl (lv_at hl 2 rfl) ?_
    obtain ⟨PA, QA, hPwk⟩ := hPw
    refine nv_kG (va_runV (As := [.ref ((cAd AD 1) 0), .int (nI ak), .int (nI bk)]) (rest := []) ⟨hx, hb, hml, hown, hts⟩ (c_X5_passedByRooms l hR hG (cD_wk hI) ak bk (by omega) (by omega)) (cwV 3 hts gNX6_way_X5_passedByRooms rfl rfl rfl (by decide +kernel) ⟨Nat.le_of_ble_eq_true rfl, Nat.le_of_ble_eq_true rfl⟩) (nt_pVn hT hS (cRw_A hAA) (va_P.app hPwk hPh) (va_recv hK.1 hPwk (ci := 7) (q0 := 0) rfl rfl)) rfl rfl hl.1 rfl (lv_room (Nat.le_of_ble_eq_true rfl)) dX6_way_38 ⟨Nat.le_of_ble_eq_true rfl, Nat.le_of_ble_eq_true rfl⟩) hS (cRw_A hAA) (fun H locs hP1 hK1 hS => ?_)
    obtain ⟨P1, Q1, hPwh⟩ := hP1
    have hPw : cWk D cI AD H := ⟨P1, Q1, va_P.left hPwh⟩
    have hPh := va_P.right hPwh
    have hPo := cOn_Ob.keepU hI hK1 hPo (by decide)
    have hPs := cOn_Sv.keepU hI hK1 hPs (by decide)
    have hPp := cOn_Pa.keepU hI hK1 hPp (by decide)
    have hPt := cOn_Tx.keepU hI hK1 hPt (by decide)
    have hPi := cOn_In.keepU hI hK1 hPi (by decide)
    refine lv_istore (lv' := [(4, .int ((if gWay G ak bk < 6 then nI (gWay G ak bk) else -1))), (0, .ref (AD 0)), (1, .int (nI ak)), (2, .int (nI bk)), (3, .int (nI z))]) hx hb dX6_way_41 hl (by decide) rfl (fun ls hl => ?_)
    refine lv_iload hx hb dX6_way_43 (lv_at hl 0 rfl) ?_
    refine lv_iconst (v := (-1)) hx hb dX6_way_45 (by decide) ?_
    refine lv_icmp_ne (tgt := 60) hx hb dX6_way_46 (by decide) (fun c4 => ?_) (fun c4 => ?_)
    · refine lv_iload hx hb dX6_way_60 (lv_at hl 0 rfl) ?_
      exact nv_retGX hq hx hb hr hlocks (Nat.le_of_ble_eq_true rfl) (Nat.le_of_ble_eq_true rfl) (nar_i _) (by rw [if_pos ⟨c1, c2⟩, et_ak, et_bk, if_pos (way_yes c4)]) (by rw [if_pos (way_yes c4), if_pos ⟨c1, c2⟩, et_ak, et_bk, if_pos (way_yes c4)]) hS (⟨hPo, ⟨u, hR, hk, hPh⟩, hPi, hPs, hPp, hPw, hPt⟩) dX6_way_62
    · exact nx_throwW (ix := 13) (rx := rxNSE) (Y9 := "java/lang/RuntimeException") (ws := wsNX6_way) (ik := 263) (is := 265) (ic := 267) (cls := "java/util/NoSuchElementException") (text := "there is no way") (names := ["java/lang/Exception"]) hq hx hb hl9 hown hts hT rxNSE_ok nNSE_fit ⟨by decide +kernel, by decide +kernel⟩ ⟨by decide +kernel, by decide +kernel⟩ (fun w hw => List.mem_cons_of_mem _ (List.mem_append_left _ (List.mem_append_left _ (List.mem_append_right _ hw)))) nNSE_bad nNSE_ok hS (hl.1.trans hml.symm) dX6_way_49 dX6_way_52 dX6_way_53 dX6_way_56 dX6_way_59 hout (by decide) (Nat.le_of_ble_eq_true rfl) (Nat.le_of_ble_eq_true rfl) (Nat.le_of_ble_eq_true rfl) hlocks (Nat.le_of_ble_eq_true rfl) (Nat.le_of_ble_eq_true rfl) (by rw [if_pos ⟨c1, c2⟩, et_ak, et_bk, if_neg (way_no c4)]; exact Nat.succ_ne_zero _) (by rw [if_pos ⟨c1, c2⟩, et_ak, et_bk, if_neg (way_no c4)] <;> rfl) (fun H1 h9 => (cJ.grow (show cJ D cI cC cD cR AD u Sv Hi In Le hs ch ty wy ln ea ra wd _ from ⟨hPo, hPh, hPi, hPs, hPp, hPw, hPt⟩) h9).W hR hk)
  · refine lv_aload_n hx hb dX6_way_12 rfl (lv_at hl 0 rfl) ?_
    refine va_get (D := D) (ci := 8) (v := .ref ((cAd AD 157) 0)) (C := RX6) (T := TX6) (N := 11) hx hb hts in_X6 hown hK.1 hPo 0 rfl rfl 3 (by decide) fl_29 (fun _ h9 => h9) rfl dX6_way_13 ?_
    refine lv_aload_n hx hb dX6_way_16 rfl (lv_at hl 0 rfl) ?_
    refine va_get (D := D) (ci := 8) (v := .ref ((cAd AD 1) 0)) (C := RX6) (T := TX6) (N := 11) hx hb hts in_X6 hown hK.1 hPo 0 rfl rfl 0 (by decide) fl_10 (fun _ h9 => h9) rfl dX6_way_17 ?_
    refine lv_iload_n hx hb dX6_way_20 rfl (lv_at hl 1 rfl) ?_
    refine lv_iload_n hx hb dX6_way_21 rfl (lv_at hl 2 rfl) ?_
    refine nv_kS (va_runV (As := [.ref ((cAd AD 1) 0), .int (nI ak), .int (nI bk)]) (rest := []) ⟨hx, hb, hml, hown, hts⟩ (c_X5_passedBySets l hR hG (AD 157) ak bk (by omega) (by omega)) (cwV 3 hts gNX6_way_X5_passedBySets rfl rfl rfl (by decide +kernel) ⟨Nat.le_of_ble_eq_true rfl, Nat.le_of_ble_eq_true rfl⟩) (nt_pV hT hS hPh (cWk.recv hK.1 hPw)) rfl rfl hl.1 rfl (lv_room (Nat.le_of_ble_eq_true rfl)) dX6_way_22 ⟨Nat.le_of_ble_eq_true rfl, Nat.le_of_ble_eq_true rfl⟩) ?_
    refine lv_goto (tgt := 41) hx hb dX6_way_25 (by decide) ?_
    refine lv_istore (lv' := [(4, .int ((if gWay G ak bk < 6 then nI (gWay G ak bk) else -1))), (0, .ref (AD 0)), (1, .int (nI ak)), (2, .int (nI bk)), (3, .int (nI z))]) hx hb dX6_way_41 hl (by decide) rfl (fun ls hl => ?_)
    refine lv_iload hx hb dX6_way_43 (lv_at hl 0 rfl) ?_
    refine lv_iconst (v := (-1)) hx hb dX6_way_45 (by decide) ?_
    refine lv_icmp_ne (tgt := 60) hx hb dX6_way_46 (by decide) (fun c5 => ?_) (fun c5 => ?_)
    · refine lv_iload hx hb dX6_way_60 (lv_at hl 0 rfl) ?_
      exact nv_retGX hq hx hb hr hlocks (Nat.le_of_ble_eq_true rfl) (Nat.le_of_ble_eq_true rfl) (nar_i _) (by rw [if_pos ⟨c1, c2⟩, et_ak, et_bk, if_pos (way_yes c5)]) (by rw [if_pos (way_yes c5), if_pos ⟨c1, c2⟩, et_ak, et_bk, if_pos (way_yes c5)]) hS (⟨hPo, ⟨u, hR, hk, hPh⟩, hPi, hPs, hPp, hPw, hPt⟩) dX6_way_62
    · exact nx_throwW (ix := 13) (rx := rxNSE) (Y9 := "java/lang/RuntimeException") (ws := wsNX6_way) (ik := 263) (is := 265) (ic := 267) (cls := "java/util/NoSuchElementException") (text := "there is no way") (names := ["java/lang/Exception"]) hq hx hb hl9 hown hts hT rxNSE_ok nNSE_fit ⟨by decide +kernel, by decide +kernel⟩ ⟨by decide +kernel, by decide +kernel⟩ (fun w hw => List.mem_cons_of_mem _ (List.mem_append_left _ (List.mem_append_left _ (List.mem_append_right _ hw)))) nNSE_bad nNSE_ok hS (hl.1.trans hml.symm) dX6_way_49 dX6_way_52 dX6_way_53 dX6_way_56 dX6_way_59 hout (by decide) (Nat.le_of_ble_eq_true rfl) (Nat.le_of_ble_eq_true rfl) (Nat.le_of_ble_eq_true rfl) hlocks (Nat.le_of_ble_eq_true rfl) (Nat.le_of_ble_eq_true rfl) (by rw [if_pos ⟨c1, c2⟩, et_ak, et_bk, if_neg (way_no c5)]; exact Nat.succ_ne_zero _) (by rw [if_pos ⟨c1, c2⟩, et_ak, et_bk, if_neg (way_no c5)] <;> rfl) (fun H1 h9 => (cJ.grow (show cJ D cI cC cD cR AD u Sv Hi In Le hs ch ty wy ln ea ra wd _ from ⟨hPo, hPh, hPi, hPs, hPp, hPw, hPt⟩) h9).W hR hk)


set_option maxHeartbeats 1000000 in
set_option maxRecDepth 100000 in
theorem c_N6_best (l : Launch) (hl9 : l.stackTraces = false) {D : va_G} {cI cC cD cR : ClassId} {sa : sA} {A : Nat → Prop} {AD : Nat → Nat} {G Sv Hi In Le : Nat → Nat} {b hs ch ty wy ln : Nat} {ea ra wd : Int32} (hG : gWf b G) (hI : cInj AD) (hAA : ∀ i, i < 165 → A (AD i)) (r : Int32) : vx_Met l yX6_best wsNX6_best ({ frames := 7, cells := 2, slots := 12, locals := 102 }) (va_Pc [.ref (AD 0), .int r] (tPre D [(cI, .int), (cC, .char), (cD, .object "DoorDialect$Door"), (cR, .object "DoorDialect$House")] nN sa A (cW D cI cC cD cR AD G Sv Hi In Le hs ch ty wy ln ea ra wd))) (gQX (if iR r 6 then (if gBb G (tN r) (G 0) = -1 then 2 else 0) else 1) ((if iR r 6 then (if gBb G (tN r) (G 0) = -1 then 0 else gBb G (tN r) (G 0)) else 0)) (cW D cI cC cD cR AD G Sv Hi In Le hs ch ty wy ln ea ra wd) A) (xQ ["java/lang/IndexOutOfBoundsException", "java/util/NoSuchElementException"] (if iR r 6 then (if gBb G (tN r) (G 0) = -1 then 2 else 0) else 1) (cW D cI cC cD cR AD G Sv Hi In Le hs ch ty wy ln ea ra wd) A) 2 12 A := by
  refine nv_metX (cc := cX6_best) (maxL := 6) (ret := (some .int)) (by decide) rfl (Nat.le_of_ble_eq_true rfl) ?_
  intro p0 e0 s m0 args below meth c0 Q hq hargs hnA hout hpre ls hl
  obtain ⟨hx, hb, hr, hts, hown, hlocks, hml⟩ := hnA
  obtain ⟨hP, hT⟩ := hpre
  have hK := hT.1
  have hown : s.vm.findClass RX6 = some m0.cls := hown
  obtain ⟨hPo, ⟨u, hR, hk, hPh⟩, hPi, hPs, hPp, hPw, hPt⟩ := hP
  have hPo : va_P D vwCl (cOb AD (hs) (wy) (wd) (ea) (ra)) s.heap := hPo
  have hPh : va_P D vwCl (hw cI cD (cAd AD 1) u) s.heap := hPh
  have hl : lv_has ls 6 [(0, .ref (AD 0)), (1, .int r)] := hl
  have hS : va_S A s.heap s.heap [] := va_S.rf
  have in_X1 : ∀ w ∈ wsX10, w ∈ wsNX6_best := by decide +kernel
  have in_X6 : ∀ w ∈ wsX60, w ∈ wsNX6_best := by decide +kernel
  have fl_10 := hts (.fieldLink RX6 10 "DoorDialect" "house" "LDoorDialect$House;") (by decide +kernel)
  have fl_29 := hts (.fieldLink RX6 29 "DoorDialect" "walk" "LDoorDialect$Walk;") (by decide +kernel)
  have fl_64 := hts (.fieldLink RX6 64 "DoorDialect$House" "doorCount" "I") (by decide +kernel)
  obtain ⟨g_b, g_k, g_0, g_1, g_2, g_e, g_d, g_t, g_y, g_s, g_h⟩ := id hG
  have zq0 : G 0 = G 0 := rfl
  have l3 := hG.lt (k := 3) (by decide)
  have l4 := hG.lt (k := 4) (by decide)
  have l5 := hG.lt (k := 5) (by decide)
  refine lv_iload_n hx hb dX6_best_0 rfl (lv_at hl 1 rfl) ?_
  refine nv_kGXv (vx_runS (As := [.int r]) (rest := []) ⟨hx, hb, hml, hown, hts⟩ (c_X6_requireRoom l hl9 (A := fun _ => False) (J := cJ D cI cC cD cR AD u Sv Hi In Le hs ch ty wy ln ea ra wd) (fun _ _ h9 h8 => h8.grow h9) ((r))) (va_cwS 1 hts gNX6_best_X6_requireRoom rfl rfl rfl (by decide +kernel) ⟨Nat.le_of_ble_eq_true rfl, Nat.le_of_ble_eq_true rfl⟩) (nt_pSn hT hS (fun _ h9 => h9.elim) ⟨hPo, hPh, hPi, hPs, hPp, hPw, hPt⟩) rfl rfl hl.1 rfl (lv_room (Nat.le_of_ble_eq_true rfl)) dX6_best_1 ⟨Nat.le_of_ble_eq_true rfl, Nat.le_of_ble_eq_true rfl⟩) hS (fun _ h9 => h9.elim) hq hout hlocks (Nat.le_of_ble_eq_true rfl) (Nat.le_of_ble_eq_true rfl) (fun H h0 hP1 hK1 => ?_) (fun H locs h0 hP1 hK1 hS => ?_)
  · have hn : ¬ iR ((r)) 6 := fun q => h0 (if_pos q)
    exact ⟨by rw [if_neg hn]; exact Nat.one_ne_zero, by first | rw [if_neg hn, if_neg hn] <;> rfl | rw [if_neg hn] <;> rfl, hP1.W hR hk⟩
  obtain ⟨hPo, hPh, hPi, hPs, hPp, hPw, hPt⟩ := hP1
  have c1 : iR ((r)) 6 := if01 h0
  have c1k := c1
  obtain ⟨rk, h_rk, rfl⟩ := iR_of c1k (by decide)
  have et_rk : tN (nI rk) = rk := tN_nI (by omega)
  refine lv_aload_n hx hb dX6_best_4 rfl (lv_at hl 0 rfl) ?_
  refine va_get (D := D) (ci := 8) (v := .ref ((cAd AD 157) 0)) (C := RX6) (T := TX6) (N := 11) hx hb hts in_X6 hown hK.1 hPo 0 rfl rfl 3 (by decide) fl_29 (fun _ h9 => h9) rfl dX6_best_5 ?_
  refine lv_aload_n hx hb dX6_best_8 rfl (lv_at hl 0 rfl) ?_
  refine va_get (D := D) (ci := 8) (v := .ref ((cAd AD 1) 0)) (C := RX6) (T := TX6) (N := 11) hx hb hts in_X6 hown hK.1 hPo 0 rfl rfl 0 (by decide) fl_10 (fun _ h9 => h9) rfl dX6_best_9 ?_
  refine lv_iload_n hx hb dX6_best_12 rfl (lv_at hl 1 rfl) ?_
  refine lv_iconst (v := (-1)) hx hb dX6_best_13 (by decide) ?_
  refine nv_kS (va_runV (As := [.ref ((cAd AD 1) 0), .int (nI rk), .int ((-1))]) (rest := []) ⟨hx, hb, hml, hown, hts⟩ (c_X5_roomsFrom l hR hG (AD 157) rk (((-1))) (by omega)) (cwV 3 hts gNX6_best_X5_roomsFrom rfl rfl rfl (by decide +kernel) ⟨Nat.le_of_ble_eq_true rfl, Nat.le_of_ble_eq_true rfl⟩) (nt_pV hT hS hPh (cWk.recv hK.1 hPw)) rfl rfl hl.1 rfl (lv_room (Nat.le_of_ble_eq_true rfl)) dX6_best_14 ⟨Nat.le_of_ble_eq_true rfl, Nat.le_of_ble_eq_true rfl⟩) ?_
  refine nv_kS (va_runS (As := [.int (nI (gRw G rk (((-1)))))]) (rest := []) ⟨hx, hb, hml, hown, hts⟩ (c_J6_bitCount_0f7a4 l (gRw G rk (((-1)))) (gRw_lt hG (by omega) _)) (va_cwS 1 hts gNX6_best_J6_bitCount_0f7a4 rfl rfl rfl (by decide +kernel) ⟨Nat.le_of_ble_eq_true rfl, Nat.le_of_ble_eq_true rfl⟩) (nt_pS hT hS trivial) rfl rfl hl.1 rfl (lv_room (Nat.le_of_ble_eq_true rfl)) dX6_best_17 ⟨Nat.le_of_ble_eq_true rfl, Nat.le_of_ble_eq_true rfl⟩) ?_
  refine lv_istore_n (lv' := [(2, .int (nI (gBits (gRw G rk (((-1))))))), (0, .ref (AD 0)), (1, .int (nI rk))]) hx hb dX6_best_20 rfl hl (by decide) rfl (fun ls hl => ?_)
  refine lv_iconst (v := (-1)) hx hb dX6_best_21 (by decide) ?_
  refine lv_istore_n (lv' := [(3, .int ((-1))), (2, .int (nI (gBits (gRw G rk (((-1))))))), (0, .ref (AD 0)), (1, .int (nI rk))]) hx hb dX6_best_22 rfl hl (by decide) rfl (fun ls hl => ?_)
  refine lv_iconst (v := nI 0) hx hb dX6_best_23 (by decide) ?_
  refine lv_istore (lv' := [(4, .int (nI 0)), (3, .int ((-1))), (2, .int (nI (gBits (gRw G rk (((-1))))))), (0, .ref (AD 0)), (1, .int (nI rk))]) hx hb dX6_best_24 hl (by decide) rfl (fun ls hl => ?_)
  have hloop2 : ∀ (nn : Nat) (d : Nat) (m : Nat) (v : Int32), (d ≤ G 0) → (m = gBm G rk d) → (v = gBb G rk d) → G 0 - d < nn → ∀ (ls : Array Slot), lv_has ls 6 [(4, .int (nI d)), (3, .int v), (2, .int (nI m)), (0, .ref (AD 0)), (1, .int (nI rk))] → W p0 l e0 ({ frames := 7, cells := 2, slots := 12, locals := 102 }) s m0 args below meth c0 H locs 1 6 Q (F0 m0 26 ls []) := by
    intro nn26
    induction nn26 with
    | zero => intro d m v hd hm hv hn0  _ _; exact absurd hn0 (Nat.not_lt_zero _)
    | succ nn26 ih26 =>
      intro d m v hd hm hv hn26  ls hl
      refine lv_iload hx hb dX6_best_26 (lv_at hl 0 rfl) ?_
      refine lv_aload_n hx hb dX6_best_28 rfl (lv_at hl 3 rfl) ?_
      refine va_get (D := D) (ci := 8) (v := .ref ((cAd AD 1) 0)) (C := RX6) (T := TX6) (N := 11) hx hb hts in_X6 hown hK.1 hPo 0 rfl rfl 0 (by decide) fl_10 (fun _ h9 => h9) rfl dX6_best_29 ?_
      refine va_get (D := D) (ci := 3) (v := .int (nI (hs_c u 0))) (C := RX1) (T := TX1) (N := 12) hx hb hts in_X1 hown hK.1 hPh 0 rfl rfl 5 (by decide) fl_64 (fun _ h9 => h9) rfl dX6_best_32 ?_
      refine nv_to (G 0) (congrArg nI ((hR.c0))) ?_
      refine nv_icmp_ge (tgt := 75) hx hb dX6_best_35 (by decide) (by first | omega | exact Nat.lt_of_le_of_lt (gBits_le _) (by decide) | (rw [hm]; exact Nat.lt_of_le_of_lt (gBm_le _ _ _) (by decide))) (by first | omega | exact Nat.lt_of_le_of_lt (gBits_le _) (by decide) | (rw [hm]; exact Nat.lt_of_le_of_lt (gBm_le _ _ _) (by decide))) (fun c3 => ?_) (fun c3 => ?_)
      · have hb9 : v = gBb G rk (G 0) := by rw [hv, show d = G 0 by omega]
        refine lv_iload_n hx hb dX6_best_75 rfl (lv_at hl 1 rfl) ?_
        refine lv_iconst (v := (-1)) hx hb dX6_best_76 (by decide) ?_
        refine lv_icmp_ne (tgt := 91) hx hb dX6_best_77 (by decide) (fun c4 => ?_) (fun c4 => ?_)
        · refine lv_iload_n hx hb dX6_best_91 rfl (lv_at hl 1 rfl) ?_
          exact nv_retGX hq hx hb hr hlocks (Nat.le_of_ble_eq_true rfl) (Nat.le_of_ble_eq_true rfl) (nar_i _) (by rw [if_pos c1, et_rk, ← hb9, if_neg c4]) (by rw [if_pos c1, et_rk, ← hb9, if_neg c4]) hS (⟨hPo, ⟨u, hR, hk, hPh⟩, hPi, hPs, hPp, hPw, hPt⟩) dX6_best_92
        · exact nx_throwW (ix := 13) (rx := rxNSE) (Y9 := "java/lang/RuntimeException") (ws := wsNX6_best) (ik := 263) (is := 276) (ic := 267) (cls := "java/util/NoSuchElementException") (text := "no door leads to one room more") (names := ["java/lang/Exception"]) hq hx hb hl9 hown hts hT rxNSE_ok nNSE_fit ⟨by decide +kernel, by decide +kernel⟩ ⟨by decide +kernel, by decide +kernel⟩ (fun w hw => List.mem_cons_of_mem _ (List.mem_append_left _ (List.mem_append_right _ hw))) nNSE_bad nNSE_ok hS (hl.1.trans hml.symm) dX6_best_80 dX6_best_83 dX6_best_84 dX6_best_87 dX6_best_90 hout (by decide) (Nat.le_of_ble_eq_true rfl) (Nat.le_of_ble_eq_true rfl) (Nat.le_of_ble_eq_true rfl) hlocks (Nat.le_of_ble_eq_true rfl) (Nat.le_of_ble_eq_true rfl) (by rw [if_pos c1, et_rk, ← hb9, if_pos c4]; exact Nat.succ_ne_zero _) (by rw [if_pos c1, et_rk, ← hb9, if_pos c4] <;> rfl) (fun H1 h9 => (cJ.grow (show cJ D cI cC cD cR AD u Sv Hi In Le hs ch ty wy ln ea ra wd _ from ⟨hPo, hPh, hPi, hPs, hPp, hPw, hPt⟩) h9).W hR hk)
      · refine lv_aload_n hx hb dX6_best_38 rfl (lv_at hl 3 rfl) ?_
        refine va_get (D := D) (ci := 8) (v := .ref ((cAd AD 157) 0)) (C := RX6) (T := TX6) (N := 11) hx hb hts in_X6 hown hK.1 hPo 0 rfl rfl 3 (by decide) fl_29 (fun _ h9 => h9) rfl dX6_best_39 ?_
        refine lv_aload_n hx hb dX6_best_42 rfl (lv_at hl 3 rfl) ?_
        refine va_get (D := D) (ci := 8) (v := .ref ((cAd AD 1) 0)) (C := RX6) (T := TX6) (N := 11) hx hb hts in_X6 hown hK.1 hPo 0 rfl rfl 0 (by decide) fl_10 (fun _ h9 => h9) rfl dX6_best_43 ?_
        refine lv_iload_n hx hb dX6_best_46 rfl (lv_at hl 4 rfl) ?_
        refine lv_iload hx hb dX6_best_47 (lv_at hl 0 rfl) ?_
        refine nv_kS (va_runV (As := [.ref ((cAd AD 1) 0), .int (nI rk), .int (nI d)]) (rest := []) ⟨hx, hb, hml, hown, hts⟩ (c_X5_roomsFrom l hR hG (AD 157) rk (nI (d)) (by omega)) (cwV 3 hts gNX6_best_X5_roomsFrom rfl rfl rfl (by decide +kernel) ⟨Nat.le_of_ble_eq_true rfl, Nat.le_of_ble_eq_true rfl⟩) (nt_pV hT hS hPh (cWk.recv hK.1 hPw)) rfl rfl hl.1 rfl (lv_room (Nat.le_of_ble_eq_true rfl)) dX6_best_49 ⟨Nat.le_of_ble_eq_true rfl, Nat.le_of_ble_eq_true rfl⟩) ?_
        refine nv_kS (va_runS (As := [.int (nI (gRw G rk (nI (d))))]) (rest := []) ⟨hx, hb, hml, hown, hts⟩ (c_J6_bitCount_0f7a4 l (gRw G rk (nI (d))) (gRw_lt hG (by omega) _)) (va_cwS 1 hts gNX6_best_J6_bitCount_0f7a4 rfl rfl rfl (by decide +kernel) ⟨Nat.le_of_ble_eq_true rfl, Nat.le_of_ble_eq_true rfl⟩) (nt_pS hT hS trivial) rfl rfl hl.1 rfl (lv_room (Nat.le_of_ble_eq_true rfl)) dX6_best_52 ⟨Nat.le_of_ble_eq_true rfl, Nat.le_of_ble_eq_true rfl⟩) ?_
        refine lv_istore (lv' := [(5, .int (nI (gBits (gRw G rk (nI (d)))))), (4, .int (nI d)), (3, .int v), (2, .int (nI m)), (0, .ref (AD 0)), (1, .int (nI rk))]) hx hb dX6_best_55 hl (by decide) rfl (fun ls hl => ?_)
        refine lv_iload hx hb dX6_best_57 (lv_at hl 0 rfl) ?_
        refine lv_iload_n hx hb dX6_best_59 rfl (lv_at hl 3 rfl) ?_
        refine nv_icmp_le (tgt := 69) hx hb dX6_best_60 (by decide) (by first | omega | exact Nat.lt_of_le_of_lt (gBits_le _) (by decide) | (rw [hm]; exact Nat.lt_of_le_of_lt (gBm_le _ _ _) (by decide))) (by first | omega | exact Nat.lt_of_le_of_lt (gBits_le _) (by decide) | (rw [hm]; exact Nat.lt_of_le_of_lt (gBm_le _ _ _) (by decide))) (fun c5 => ?_) (fun c5 => ?_)
        · refine lv_iinc (v := nI (d + 1)) (lv' := [(4, .int (nI (d + 1))), (5, .int (nI (gBits (gRw G rk (nI (d)))))), (3, .int v), (2, .int (nI m)), (0, .ref (AD 0)), (1, .int (nI rk))]) hx hb dX6_best_69 hl (k := 1) rfl (by show nI _ + Int32.ofInt 1 = _; exact nI_add _ 1) (by decide) rfl (fun ls hl => ?_)
          refine lv_goto (tgt := 26) hx hb dX6_best_72 (by decide) ?_
          exact ih26  (d + 1) m v ((by omega)) ((by rw [hm] at c5 ⊢; exact (if_pos c5).symm)) ((by rw [hm] at c5; rw [hv]; exact (if_pos c5).symm)) (by omega) ls (lv_sub hl [0, 2, 3, 4, 5] rfl)
        · refine lv_iload hx hb dX6_best_63 (lv_at hl 0 rfl) ?_
          refine lv_istore_n (lv' := [(2, .int (nI (gBits (gRw G rk (nI (d)))))), (5, .int (nI (gBits (gRw G rk (nI (d)))))), (4, .int (nI d)), (3, .int v), (0, .ref (AD 0)), (1, .int (nI rk))]) hx hb dX6_best_65 rfl hl (by decide) rfl (fun ls hl => ?_)
          refine lv_iload hx hb dX6_best_66 (lv_at hl 2 rfl) ?_
          refine lv_istore_n (lv' := [(3, .int (nI d)), (2, .int (nI (gBits (gRw G rk (nI (d)))))), (5, .int (nI (gBits (gRw G rk (nI (d)))))), (4, .int (nI d)), (0, .ref (AD 0)), (1, .int (nI rk))]) hx hb dX6_best_68 rfl hl (by decide) rfl (fun ls hl => ?_)
          refine lv_iinc (v := nI (d + 1)) (lv' := [(4, .int (nI (d + 1))), (3, .int (nI d)), (2, .int (nI (gBits (gRw G rk (nI (d)))))), (5, .int (nI (gBits (gRw G rk (nI (d)))))), (0, .ref (AD 0)), (1, .int (nI rk))]) hx hb dX6_best_69 hl (k := 3) rfl (by show nI _ + Int32.ofInt 1 = _; exact nI_add _ 1) (by decide) rfl (fun ls hl => ?_)
          refine lv_goto (tgt := 26) hx hb dX6_best_72 (by decide) ?_
          exact ih26  (d + 1) (gBits (gRw G rk (nI (d)))) (nI (d)) ((by omega)) ((by rw [hm] at c5; exact (if_neg c5).symm)) ((by rw [hm] at c5; exact (if_neg c5).symm)) (by omega) ls (lv_sub hl [0, 1, 2, 4, 5] rfl)
  exact hloop2 _ 0 (gBits (gRw G rk (-1))) ((-1)) ((Nat.zero_le _)) (rfl) (rfl) (Nat.lt_succ_self _) ls (lv_sub hl [0, 1, 2, 3, 4] rfl)

