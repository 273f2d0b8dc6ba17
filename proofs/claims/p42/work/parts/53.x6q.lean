theorem if01 {p : Prop} [Decidable p] (h : (if p then 0 else 1 : Nat) = 0) : p := by
  by_cases q : p
  · exact q
  · rw [if_neg q] at h; exact absurd h Nat.one_ne_zero
theorem gMany_knocks {b : Nat} {G : Nat → Nat} (hG : gWf b G) : gMany G 104 = G 3 := by
  have h0 := hG.2.2.1
  have key : ∀ n, G 0 + n ≤ 8 → sm (fun d => G (104 + d)) (G 0 + n) = sm (fun d => G (104 + d)) (G 0) := by
    intro n
    induction n with
    | zero => intro _; rfl
    | succ n ih =>
      intro h
      show sm _ (G 0 + n) + G (104 + (G 0 + n)) = _
      rw [ih (by omega), (((hG.door (d := G 0 + n) (by omega)).2.2.2.2.2.2.2.2.2.2.2.2) (by omega)).2.2.2.2]
      rfl
  have h1 := key (8 - G 0) (by omega)
  rw [show G 0 + (8 - G 0) = 8 by omega] at h1
  exact h1.symm.trans hG.2.2.2.2.2.2.2.2.2.2.symm

set_option maxHeartbeats 1000000 in
set_option maxRecDepth 100000 in
theorem c_X6_errorPosition (l : Launch) (hl9 : l.stackTraces = false) {D : va_G} {cI cC cD cR : ClassId} {sa : sA} {A : Nat → Prop} {AD : Nat → Nat} {G Sv Hi In Le : Nat → Nat} {b hs ch ty wy ln : Nat} {ea ra wd : Int32}  : vx_Met l yX6_errorPosition wsX6_errorPosition ({ frames := 6, cells := 1, slots := 6, locals := 82 }) (va_Pc [.ref (AD 0)] (tPre D [(cI, .int), (cC, .char), (cD, .object "DoorDialect$Door"), (cR, .object "DoorDialect$House")] nN sa A (cW D cI cC cD cR AD G Sv Hi In Le hs ch ty wy ln ea ra wd))) (gQX (if ea = -1 then 1 else 0) ((if ea = -1 then 0 else ea)) (cW D cI cC cD cR AD G Sv Hi In Le hs ch ty wy ln ea ra wd) A) (xQ ["java/util/NoSuchElementException"] (if ea = -1 then 1 else 0) (cW D cI cC cD cR AD G Sv Hi In Le hs ch ty wy ln ea ra wd) A) 1 6 A := by
  refine nv_metX (cc := cX6_errorPosition) (maxL := 1) (ret := (some .int)) (by decide) rfl (Nat.le_of_ble_eq_true rfl) ?_
  intro p0 e0 s m0 args below meth c0 Q hq hargs hnA hout hpre ls hl
  obtain ⟨hx, hb, hr, hts, hown, hlocks, hml⟩ := hnA
  obtain ⟨hP, hT⟩ := hpre
  have hK := hT.1
  have hown : s.vm.findClass RX6 = some m0.cls := hown
  obtain ⟨hPo, ⟨u, hR, hk, hPh⟩, hPi, hPs, hPp, hPw, hPt⟩ := hP
  have hPo : va_P D vwCl (cOb AD (hs) (wy) (wd) (ea) (ra)) s.heap := hPo
  have hPh : va_P D vwCl (hw cI cD (cAd AD 1) u) s.heap := hPh
  have hl : lv_has ls 1 [(0, .ref (AD 0))] := hl
  have hS : va_S A s.heap s.heap [] := va_S.rf
  have in_X6 : ∀ w ∈ wsX60, w ∈ wsX6_errorPosition := by decide +kernel
  have fl_58 := hts (.fieldLink RX6 58 "DoorDialect" "malformedAt" "I") (by decide +kernel)
  refine lv_aload_n hx hb dX6_errorPosition_0 rfl (lv_at hl 0 rfl) ?_
  refine va_get (D := D) (ci := 8) (v := .int ea) (C := RX6) (T := TX6) (N := 11) hx hb hts in_X6 hown hK.1 hPo 0 rfl rfl 9 (by decide) fl_58 (fun _ h9 => h9) rfl dX6_errorPosition_1 ?_
  refine lv_iconst (v := (-1)) hx hb dX6_errorPosition_4 (by decide) ?_
  refine lv_icmp_ne (tgt := 19) hx hb dX6_errorPosition_5 (by decide) (fun c1 => ?_) (fun c1 => ?_)
  · refine lv_aload_n hx hb dX6_errorPosition_19 rfl (lv_at hl 0 rfl) ?_
    refine va_get (D := D) (ci := 8) (v := .int ea) (C := RX6) (T := TX6) (N := 11) hx hb hts in_X6 hown hK.1 hPo 0 rfl rfl 9 (by decide) fl_58 (fun _ h9 => h9) rfl dX6_errorPosition_20 ?_
    exact nv_retGX hq hx hb hr hlocks (Nat.le_of_ble_eq_true rfl) (Nat.le_of_ble_eq_true rfl) (nar_i _) (if_neg c1) (by rw [if_neg c1]) hS (⟨hPo, ⟨u, hR, hk, hPh⟩, hPi, hPs, hPp, hPw, hPt⟩) dX6_errorPosition_23
  · exact nv_throwW (ws := wsX6_errorPosition) (ik := 263) (is := 398) (ic := 267) (cls := "java/util/NoSuchElementException") (text := "no input was malformed") (names := ["java/lang/RuntimeException", "java/lang/Exception"]) hq hx hb hl9 hown hts hT xNSEE_fit ⟨by decide +kernel, by decide +kernel⟩ ⟨by decide +kernel, by decide +kernel⟩ (fun w hw => List.mem_cons_of_mem _ (List.mem_append_right _ hw)) xNSEE_bad xNSEE_ok hS (hl.1.trans hml.symm) dX6_errorPosition_8 dX6_errorPosition_11 dX6_errorPosition_12 dX6_errorPosition_15 dX6_errorPosition_18 hout (by decide) (Nat.le_of_ble_eq_true rfl) (Nat.le_of_ble_eq_true rfl) (Nat.le_of_ble_eq_true rfl) hlocks (Nat.le_of_ble_eq_true rfl) (Nat.le_of_ble_eq_true rfl) (by rw [if_pos c1]; exact Nat.succ_ne_zero _) (by rw [if_pos c1] <;> rfl) (fun H1 h9 => (cJ.grow (show cJ D cI cC cD cR AD u Sv Hi In Le hs ch ty wy ln ea ra wd _ from ⟨hPo, hPh, hPi, hPs, hPp, hPw, hPt⟩) h9).W hR hk)

set_option maxHeartbeats 1000000 in
set_option maxRecDepth 100000 in
theorem c_X6_refusedItem (l : Launch) (hl9 : l.stackTraces = false) {D : va_G} {cI cC cD cR : ClassId} {sa : sA} {A : Nat → Prop} {AD : Nat → Nat} {G Sv Hi In Le : Nat → Nat} {b hs ch ty wy ln : Nat} {ea ra wd : Int32}  : vx_Met l yX6_refusedItem wsX6_refusedItem ({ frames := 6, cells := 1, slots := 6, locals := 82 }) (va_Pc [.ref (AD 0)] (tPre D [(cI, .int), (cC, .char), (cD, .object "DoorDialect$Door"), (cR, .object "DoorDialect$House")] nN sa A (cW D cI cC cD cR AD G Sv Hi In Le hs ch ty wy ln ea ra wd))) (gQX (if ra = -1 then 1 else 0) ((if ra = -1 then 0 else ra)) (cW D cI cC cD cR AD G Sv Hi In Le hs ch ty wy ln ea ra wd) A) (xQ ["java/util/NoSuchElementException"] (if ra = -1 then 1 else 0) (cW D cI cC cD cR AD G Sv Hi In Le hs ch ty wy ln ea ra wd) A) 1 6 A := by
  refine nv_metX (cc := cX6_refusedItem) (maxL := 1) (ret := (some .int)) (by decide) rfl (Nat.le_of_ble_eq_true rfl) ?_
  intro p0 e0 s m0 args below meth c0 Q hq hargs hnA hout hpre ls hl
  obtain ⟨hx, hb, hr, hts, hown, hlocks, hml⟩ := hnA
  obtain ⟨hP, hT⟩ := hpre
  have hK := hT.1
  have hown : s.vm.findClass RX6 = some m0.cls := hown
  obtain ⟨hPo, ⟨u, hR, hk, hPh⟩, hPi, hPs, hPp, hPw, hPt⟩ := hP
  have hPo : va_P D vwCl (cOb AD (hs) (wy) (wd) (ea) (ra)) s.heap := hPo
  have hPh : va_P D vwCl (hw cI cD (cAd AD 1) u) s.heap := hPh
  have hl : lv_has ls 1 [(0, .ref (AD 0))] := hl
  have hS : va_S A s.heap s.heap [] := va_S.rf
  have in_X6 : ∀ w ∈ wsX60, w ∈ wsX6_refusedItem := by decide +kernel
  have fl_61 := hts (.fieldLink RX6 61 "DoorDialect" "refusedOrder" "I") (by decide +kernel)
  refine lv_aload_n hx hb dX6_refusedItem_0 rfl (lv_at hl 0 rfl) ?_
  refine va_get (D := D) (ci := 8) (v := .int ra) (C := RX6) (T := TX6) (N := 11) hx hb hts in_X6 hown hK.1 hPo 0 rfl rfl 10 (by decide) fl_61 (fun _ h9 => h9) rfl dX6_refusedItem_1 ?_
  refine lv_iconst (v := (-1)) hx hb dX6_refusedItem_4 (by decide) ?_
  refine lv_icmp_ne (tgt := 19) hx hb dX6_refusedItem_5 (by decide) (fun c1 => ?_) (fun c1 => ?_)
  · refine lv_aload_n hx hb dX6_refusedItem_19 rfl (lv_at hl 0 rfl) ?_
    refine va_get (D := D) (ci := 8) (v := .int ra) (C := RX6) (T := TX6) (N := 11) hx hb hts in_X6 hown hK.1 hPo 0 rfl rfl 10 (by decide) fl_61 (fun _ h9 => h9) rfl dX6_refusedItem_20 ?_
    exact nv_retGX hq hx hb hr hlocks (Nat.le_of_ble_eq_true rfl) (Nat.le_of_ble_eq_true rfl) (nar_i _) (if_neg c1) (by rw [if_neg c1]) hS (⟨hPo, ⟨u, hR, hk, hPh⟩, hPi, hPs, hPp, hPw, hPt⟩) dX6_refusedItem_23
  · exact nv_throwW (ws := wsX6_refusedItem) (ik := 263) (is := 400) (ic := 267) (cls := "java/util/NoSuchElementException") (text := "no input was refused") (names := ["java/lang/RuntimeException", "java/lang/Exception"]) hq hx hb hl9 hown hts hT xNSEE_fit ⟨by decide +kernel, by decide +kernel⟩ ⟨by decide +kernel, by decide +kernel⟩ (fun w hw => List.mem_cons_of_mem _ (List.mem_append_right _ hw)) xNSEE_bad xNSEE_ok hS (hl.1.trans hml.symm) dX6_refusedItem_8 dX6_refusedItem_11 dX6_refusedItem_12 dX6_refusedItem_15 dX6_refusedItem_18 hout (by decide) (Nat.le_of_ble_eq_true rfl) (Nat.le_of_ble_eq_true rfl) (Nat.le_of_ble_eq_true rfl) hlocks (Nat.le_of_ble_eq_true rfl) (Nat.le_of_ble_eq_true rfl) (by rw [if_pos c1]; exact Nat.succ_ne_zero _) (by rw [if_pos c1] <;> rfl) (fun H1 h9 => (cJ.grow (show cJ D cI cC cD cR AD u Sv Hi In Le hs ch ty wy ln ea ra wd _ from ⟨hPo, hPh, hPi, hPs, hPp, hPw, hPt⟩) h9).W hR hk)

set_option maxHeartbeats 1000000 in
set_option maxRecDepth 100000 in
theorem c_X6_refusal (l : Launch) (hl9 : l.stackTraces = false) {D : va_G} {cI cC cD cR : ClassId} {sa : sA} {A : Nat → Prop} {AD : Nat → Nat} {G Sv Hi In Le : Nat → Nat} {b hs ch ty wy ln : Nat} {ea ra wd : Int32} (z : Nat) (hz : z ≤ 1) (hwy : wy < 2 ^ 31) : vx_Met l yX6_refusal wsX6_refusal ({ frames := 6, cells := 1, slots := 6, locals := 82 }) (va_Pc [.ref (AD 0), .int (nI z)] (tPre D [(cI, .int), (cC, .char), (cD, .object "DoorDialect$Door"), (cR, .object "DoorDialect$House")] nN sa A (cW D cI cC cD cR AD G Sv Hi In Le hs ch ty wy ln ea ra wd))) (gQX (if wy = 0 then 1 else 0) ((if wy = 0 then 0 else (if z = 0 then nI wy else wd))) (cW D cI cC cD cR AD G Sv Hi In Le hs ch ty wy ln ea ra wd) A) (xQ ["java/lang/IllegalStateException"] (if wy = 0 then 1 else 0) (cW D cI cC cD cR AD G Sv Hi In Le hs ch ty wy ln ea ra wd) A) 1 6 A := by
  refine nv_metX (cc := cX6_refusal) (maxL := 2) (ret := (some .int)) (by decide) rfl (Nat.le_of_ble_eq_true rfl) ?_
  intro p0 e0 s m0 args below meth c0 Q hq hargs hnA hout hpre ls hl
  obtain ⟨hx, hb, hr, hts, hown, hlocks, hml⟩ := hnA
  obtain ⟨hP, hT⟩ := hpre
  have hK := hT.1
  have hown : s.vm.findClass RX6 = some m0.cls := hown
  obtain ⟨hPo, ⟨u, hR, hk, hPh⟩, hPi, hPs, hPp, hPw, hPt⟩ := hP
  have hPo : va_P D vwCl (cOb AD (hs) (wy) (wd) (ea) (ra)) s.heap := hPo
  have hPh : va_P D vwCl (hw cI cD (cAd AD 1) u) s.heap := hPh
  have hl : lv_has ls 2 [(0, .ref (AD 0)), (1, .int (nI z))] := hl
  have hS : va_S A s.heap s.heap [] := va_S.rf
  have in_X6 : ∀ w ∈ wsX60, w ∈ wsX6_refusal := by decide +kernel
  have fl_51 := hts (.fieldLink RX6 51 "DoorDialect" "reason" "I") (by decide +kernel)
  have fl_55 := hts (.fieldLink RX6 55 "DoorDialect" "detail" "I") (by decide +kernel)
  refine lv_aload_n hx hb dX6_refusal_0 rfl (lv_at hl 0 rfl) ?_
  refine va_get (D := D) (ci := 8) (v := .int (nI wy)) (C := RX6) (T := TX6) (N := 11) hx hb hts in_X6 hown hK.1 hPo 0 rfl rfl 7 (by decide) fl_51 (fun _ h9 => h9) rfl dX6_refusal_1 ?_
  refine nv_if_ne (tgt := 18) hx hb dX6_refusal_4 (by decide) (by omega) (fun c1 => ?_) (fun c1 => ?_)
  · refine lv_iload_n hx hb dX6_refusal_18 rfl (lv_at hl 1 rfl) ?_
    refine nv_jn (α := Int32) (fun r => W p0 l e0 ({ frames := 6, cells := 1, slots := 6, locals := 82 }) s m0 args below meth c0 s.heap [] 0 0 Q (F0 m0 33 ls (.int r :: []))) ((if z = 0 then nI (wy) else wd)) (fun r er => ?_) (fun hJ => ?_)
    · subst er
      exact nv_retGX hq hx hb hr hlocks (Nat.le_of_ble_eq_true rfl) (Nat.le_of_ble_eq_true rfl) (nar_i _) (if_neg c1) (by rw [if_neg c1]) hS (⟨hPo, ⟨u, hR, hk, hPh⟩, hPi, hPs, hPp, hPw, hPt⟩) dX6_refusal_33
    · refine nv_if_eq (tgt := 29) hx hb dX6_refusal_19 (by decide) (by omega) (fun c2 => ?_) (fun c2 => ?_)
      · refine lv_aload_n hx hb dX6_refusal_29 rfl (lv_at hl 0 rfl) ?_
        refine va_get (D := D) (ci := 8) (v := .int (nI wy)) (C := RX6) (T := TX6) (N := 11) hx hb hts in_X6 hown hK.1 hPo 0 rfl rfl 7 (by decide) fl_51 (fun _ h9 => h9) rfl dX6_refusal_30 ?_
        exact hJ _ (if_pos c2).symm
      · refine lv_aload_n hx hb dX6_refusal_22 rfl (lv_at hl 0 rfl) ?_
        refine va_get (D := D) (ci := 8) (v := .int wd) (C := RX6) (T := TX6) (N := 11) hx hb hts in_X6 hown hK.1 hPo 0 rfl rfl 8 (by decide) fl_55 (fun _ h9 => h9) rfl dX6_refusal_23 ?_
        refine lv_goto (tgt := 33) hx hb dX6_refusal_26 (by decide) ?_
        exact hJ _ (if_neg c2).symm
  · exact nv_throwW (ws := wsX6_refusal) (ik := 318) (is := 320) (ic := 322) (cls := "java/lang/IllegalStateException") (text := "nothing was refused") (names := ["java/lang/RuntimeException", "java/lang/Exception"]) hq hx hb hl9 hown hts hT xISE_fit ⟨by decide +kernel, by decide +kernel⟩ ⟨by decide +kernel, by decide +kernel⟩ (fun w hw => List.mem_cons_of_mem _ (List.mem_append_right _ hw)) xISE_bad xISE_ok hS (hl.1.trans hml.symm) dX6_refusal_7 dX6_refusal_10 dX6_refusal_11 dX6_refusal_14 dX6_refusal_17 hout (by decide) (Nat.le_of_ble_eq_true rfl) (Nat.le_of_ble_eq_true rfl) (Nat.le_of_ble_eq_true rfl) hlocks (Nat.le_of_ble_eq_true rfl) (Nat.le_of_ble_eq_true rfl) (by rw [if_pos c1]; exact Nat.succ_ne_zero _) (by rw [if_pos c1] <;> rfl) (fun H1 h9 => (cJ.grow (show cJ D cI cC cD cR AD u Sv Hi In Le hs ch ty wy ln ea ra wd _ from ⟨hPo, hPh, hPi, hPs, hPp, hPw, hPt⟩) h9).W hR hk)

set_option maxHeartbeats 1000000 in
set_option maxRecDepth 100000 in
theorem c_X6_couldBe (l : Launch) (hl9 : l.stackTraces = false) {D : va_G} {cI cC cD cR : ClassId} {sa : sA} {A : Nat → Prop} {AD : Nat → Nat} {G Sv Hi In Le : Nat → Nat} {b hs ch ty wy ln : Nat} {ea ra wd : Int32} (hG : gWf b G) (hI : cInj AD) (hAA : ∀ i, i < 165 → A (AD i)) (d : Int32) : vx_Met l yX6_couldBe wsX6_couldBe ({ frames := 7, cells := 1, slots := 6, locals := 103 }) (va_Pc [.ref (AD 0), .int d] (tPre D [(cI, .int), (cC, .char), (cD, .object "DoorDialect$Door"), (cR, .object "DoorDialect$House")] nN sa A (cW D cI cC cD cR AD G Sv Hi In Le hs ch ty wy ln ea ra wd))) (gQX (if iR d (G 0) then 0 else 1) ((if iR d (G 0) then nI (gCould G (tN d)) else 0)) (cW D cI cC cD cR AD G Sv Hi In Le hs ch ty wy ln ea ra wd) A) (xQ ["java/lang/IndexOutOfBoundsException"] (if iR d (G 0) then 0 else 1) (cW D cI cC cD cR AD G Sv Hi In Le hs ch ty wy ln ea ra wd) A) 1 6 A := by
  refine nv_metX (cc := cX6_couldBe) (maxL := 2) (ret := (some .int)) (by decide) rfl (Nat.le_of_ble_eq_true rfl) ?_
  intro p0 e0 s m0 args below meth c0 Q hq hargs hnA hout hpre ls hl
  obtain ⟨hx, hb, hr, hts, hown, hlocks, hml⟩ := hnA
  obtain ⟨hP, hT⟩ := hpre
  have hK := hT.1
  have hown : s.vm.findClass RX6 = some m0.cls := hown
  obtain ⟨hPo, ⟨u, hR, hk, hPh⟩, hPi, hPs, hPp, hPw, hPt⟩ := hP
  have hPo : va_P D vwCl (cOb AD (hs) (wy) (wd) (ea) (ra)) s.heap := hPo
  have hPh : va_P D vwCl (hw cI cD (cAd AD 1) u) s.heap := hPh
  have hl : lv_has ls 2 [(0, .ref (AD 0)), (1, .int d)] := hl
  have hS : va_S A s.heap s.heap [] := va_S.rf
  have in_X1 : ∀ w ∈ wsX10, w ∈ wsX6_couldBe := by decide +kernel
  have in_X6 : ∀ w ∈ wsX60, w ∈ wsX6_couldBe := by decide +kernel
  have fl_10 := hts (.fieldLink RX6 10 "DoorDialect" "house" "LDoorDialect$House;") (by decide +kernel)
  have fl_128 := hts (.fieldLink RX6 128 "DoorDialect$House" "doors" "[LDoorDialect$Door;") (by decide +kernel)
  obtain ⟨g_b, g_k, g_0, g_1, g_2, g_e, g_d, g_t, g_y, g_s, g_h⟩ := id hG
  have zq0 : G 0 = G 0 := rfl
  have l3 := hG.lt (k := 3) (by decide)
  have l4 := hG.lt (k := 4) (by decide)
  have l5 := hG.lt (k := 5) (by decide)
  refine lv_aload_n hx hb dX6_couldBe_0 rfl (lv_at hl 0 rfl) ?_
  refine lv_iload_n hx hb dX6_couldBe_1 rfl (lv_at hl 1 rfl) ?_
  refine nv_kGXv (vx_runV (As := [.int d]) (rest := []) ⟨hx, hb, hml, hown, hts⟩ (c_X6_requireDoor l hl9 (A := fun _ => False) (J := cJ D cI cC cD cR AD u Sv Hi In Le hs ch ty wy ln ea ra wd) (fun _ _ h9 h8 => h8.grow h9) (fun _ h9 => h9.1) (fun _ h9 => h9.2.1) hR hG ((d))) (cwV 1 hts gX6_couldBe_X6_requireDoor rfl rfl rfl (by decide +kernel) ⟨Nat.le_of_ble_eq_true rfl, Nat.le_of_ble_eq_true rfl⟩) (nt_pVn hT hS (fun _ h9 => h9.elim) ⟨hPo, hPh, hPi, hPs, hPp, hPw, hPt⟩ (va_recv hK.1 hPo (ci := 8) (q0 := 0) rfl rfl)) rfl rfl hl.1 rfl (lv_room (Nat.le_of_ble_eq_true rfl)) dX6_couldBe_2 ⟨Nat.le_of_ble_eq_true rfl, Nat.le_of_ble_eq_true rfl⟩) hS (fun _ h9 => h9.elim) hq hout hlocks (Nat.le_of_ble_eq_true rfl) (Nat.le_of_ble_eq_true rfl) (fun H h0 hP1 hK1 => ?_) (fun H locs h0 hP1 hK1 hS => ?_)
  · have hn : ¬ iR ((d)) (G 0) := fun q => h0 (if_pos q)
    exact ⟨by rw [if_neg hn]; exact Nat.one_ne_zero, by first | rw [if_neg hn, if_neg hn] <;> rfl | rw [if_neg hn] <;> rfl, hP1.W hR hk⟩
  obtain ⟨hPo, hPh, hPi, hPs, hPp, hPw, hPt⟩ := hP1
  have c1 : iR ((d)) (G 0) := if01 h0
  have c1k := c1
  obtain ⟨dk, h_dk, rfl⟩ := iR_of c1k (by omega)
  have et_dk : tN (nI dk) = dk := tN_nI (by omega)
  obtain ⟨w_a, w_g, w_n, w_s, w_w, w_l, w_o, w_x, w_y, w_1, w_2, w_3, w_4⟩ := hG.door (d := dk) (by omega)
  have hcc := gWf_case hG (d := dk) (by omega)
  have hee := gEnd_lt hG (d := dk) (by omega)
  refine lv_aload_n hx hb dX6_couldBe_5 rfl (lv_at hl 0 rfl) ?_
  refine va_get (D := D) (ci := 8) (v := .ref ((cAd AD 1) 0)) (C := RX6) (T := TX6) (N := 11) hx hb hts in_X6 hown hK.1 hPo 0 rfl rfl 0 (by decide) fl_10 (fun _ h9 => h9) rfl dX6_couldBe_6 ?_
  refine lv_aload_n hx hb dX6_couldBe_9 rfl (lv_at hl 0 rfl) ?_
  refine va_get (D := D) (ci := 8) (v := .ref ((cAd AD 1) 0)) (C := RX6) (T := TX6) (N := 11) hx hb hts in_X6 hown hK.1 hPo 0 rfl rfl 0 (by decide) fl_10 (fun _ h9 => h9) rfl dX6_couldBe_10 ?_
  refine va_get (D := D) (ci := 3) (v := .ref ((cAd AD 1) 1)) (C := RX1) (T := TX1) (N := 12) hx hb hts in_X1 hown hK.1 hPh 0 rfl rfl 0 (by decide) fl_128 (fun _ h9 => h9) rfl dX6_couldBe_13 ?_
  refine lv_iload_n hx hb dX6_couldBe_16 rfl (lv_at hl 1 rfl) ?_
  refine nv_aldq (i := dk) hx hb hK.1 hPh 1 2 rfl rfl (by omega) (by decide) dX6_couldBe_17 ?_
  refine nv_kS (va_runV (As := [.ref ((cAd AD 1) (6 + dk))]) (rest := []) ⟨hx, hb, hml, hown, hts⟩ (c_X1_casesLikeOwn l hR hG dk (by omega)) (cwV 1 hts gX6_couldBe_X1_casesLikeOwn rfl rfl rfl (by decide +kernel) ⟨Nat.le_of_ble_eq_true rfl, Nat.le_of_ble_eq_true rfl⟩) (nt_pV hT hS hPh (va_recv hK.1 hPh (ci := 3) (q0 := 0) rfl rfl)) rfl rfl hl.1 rfl (lv_room (Nat.le_of_ble_eq_true rfl)) dX6_couldBe_18 ⟨Nat.le_of_ble_eq_true rfl, Nat.le_of_ble_eq_true rfl⟩) ?_
  exact nv_retGX hq hx hb hr hlocks (Nat.le_of_ble_eq_true rfl) (Nat.le_of_ble_eq_true rfl) (nar_i _) (if_pos c1) (by rw [if_pos c1, et_dk]) hS (⟨hPo, ⟨u, hR, hk, hPh⟩, hPi, hPs, hPp, hPw, hPt⟩) dX6_couldBe_21

set_option maxHeartbeats 1000000 in
set_option maxRecDepth 100000 in
theorem c_X6_ending (l : Launch) (hl9 : l.stackTraces = false) {D : va_G} {cI cC cD cR : ClassId} {sa : sA} {A : Nat → Prop} {AD : Nat → Nat} {G Sv Hi In Le : Nat → Nat} {b hs ch ty wy ln : Nat} {ea ra wd : Int32} (hG : gWf b G) (hI : cInj AD) (hAA : ∀ i, i < 165 → A (AD i)) (a c : Int32) (z : Nat) (hz : z ≤ 1) : vx_Met l yX6_ending wsX6_ending ({ frames := 6, cells := 1, slots := 6, locals := 82 }) (va_Pc [.ref (AD 0), .int a, .int c, .int (nI z)] (tPre D [(cI, .int), (cC, .char), (cD, .object "DoorDialect$Door"), (cR, .object "DoorDialect$House")] nN sa A (cW D cI cC cD cR AD G Sv Hi In Le hs ch ty wy ln ea ra wd))) (gQX (if iR a 3 ∧ iR c 4 then 0 else 1) ((if iR a 3 ∧ iR c 4 then nI (97 + G (gEndAt (tN a) (tN c) z)) else 0)) (cW D cI cC cD cR AD G Sv Hi In Le hs ch ty wy ln ea ra wd) A) (xQ ["java/lang/IllegalArgumentException"] (if iR a 3 ∧ iR c 4 then 0 else 1) (cW D cI cC cD cR AD G Sv Hi In Le hs ch ty wy ln ea ra wd) A) 1 6 A := by
  refine nv_metX (cc := cX6_ending) (maxL := 4) (ret := (some .char)) (by decide) rfl (Nat.le_of_ble_eq_true rfl) ?_
  intro p0 e0 s m0 args below meth c0 Q hq hargs hnA hout hpre ls hl
  obtain ⟨hx, hb, hr, hts, hown, hlocks, hml⟩ := hnA
  obtain ⟨hP, hT⟩ := hpre
  have hK := hT.1
  have hown : s.vm.findClass RX6 = some m0.cls := hown
  obtain ⟨hPo, ⟨u, hR, hk, hPh⟩, hPi, hPs, hPp, hPw, hPt⟩ := hP
  have hPo : va_P D vwCl (cOb AD (hs) (wy) (wd) (ea) (ra)) s.heap := hPo
  have hPh : va_P D vwCl (hw cI cD (cAd AD 1) u) s.heap := hPh
  have hl : lv_has ls 4 [(0, .ref (AD 0)), (1, .int a), (2, .int c), (3, .int (nI z))] := hl
  have hS : va_S A s.heap s.heap [] := va_S.rf
  have in_X6 : ∀ w ∈ wsX60, w ∈ wsX6_ending := by decide +kernel
  have fl_10 := hts (.fieldLink RX6 10 "DoorDialect" "house" "LDoorDialect$House;") (by decide +kernel)
  obtain ⟨g_b, g_k, g_0, g_1, g_2, g_e, g_d, g_t, g_y, g_s, g_h⟩ := id hG
  have zq0 : G 0 = G 0 := rfl
  have l3 := hG.lt (k := 3) (by decide)
  have l4 := hG.lt (k := 4) (by decide)
  have l5 := hG.lt (k := 5) (by decide)
  refine lv_iload_n hx hb dX6_ending_0 rfl (lv_at hl 1 rfl) ?_
  refine lv_iconst (v := nI 3) hx hb dX6_ending_1 (by decide) ?_
  refine nv_kS (va_runS (As := [.int a, .int (nI 3)]) (rest := []) ⟨hx, hb, hml, hown, hts⟩ (c_X6_isBelow l (a) 3 (by omega)) (va_cwS 2 hts gX6_ending_X6_isBelow rfl rfl rfl (by decide +kernel) ⟨Nat.le_of_ble_eq_true rfl, Nat.le_of_ble_eq_true rfl⟩) (nt_pS hT hS trivial) rfl rfl hl.1 rfl (lv_room (Nat.le_of_ble_eq_true rfl)) dX6_ending_2 ⟨Nat.le_of_ble_eq_true rfl, Nat.le_of_ble_eq_true rfl⟩) ?_
  refine nv_ifb_eq (tgt := 16) hx hb dX6_ending_5 (by decide) (fun c1 => ?_) (fun c1 => ?_)
  · exact nv_throwS (ws := wsX6_ending) (ik := 168) (is := 196) (ic := 172) (cls := "java/lang/IllegalArgumentException") (text := "there is no such declension or case") (names := ["java/lang/RuntimeException", "java/lang/Exception"]) hq hx hb hl9 hown hts hT xIAE_fit ⟨by decide +kernel, by decide +kernel⟩ ⟨by decide +kernel, by decide +kernel⟩ (fun w hw => List.mem_cons_of_mem _ (List.mem_append_left _ (List.mem_append_right _ hw))) xIAE_bad xIAE_ok hS (hl.1.trans hml.symm) dX6_ending_16 dX6_ending_19 dX6_ending_20 dX6_ending_22 dX6_ending_25 hout (by decide) (Nat.le_of_ble_eq_true rfl) (Nat.le_of_ble_eq_true rfl) (Nat.le_of_ble_eq_true rfl) hlocks (Nat.le_of_ble_eq_true rfl) (Nat.le_of_ble_eq_true rfl) (by rw [if_neg (fun q => c1 q.1)]; exact Nat.succ_ne_zero _) (by rw [if_neg (fun q => c1 q.1)] <;> rfl) (fun H1 h9 => (cJ.grow (show cJ D cI cC cD cR AD u Sv Hi In Le hs ch ty wy ln ea ra wd _ from ⟨hPo, hPh, hPi, hPs, hPp, hPw, hPt⟩) h9).W hR hk)
  · obtain ⟨ak, h_ak, rfl⟩ := iR_of c1 (by decide)
    have et_ak : tN (nI ak) = ak := tN_nI (by omega)
    refine lv_iload_n hx hb dX6_ending_8 rfl (lv_at hl 2 rfl) ?_
    refine lv_iconst (v := nI 4) hx hb dX6_ending_9 (by decide) ?_
    refine nv_kS (va_runS (As := [.int c, .int (nI 4)]) (rest := []) ⟨hx, hb, hml, hown, hts⟩ (c_X6_isBelow l (c) 4 (by omega)) (va_cwS 2 hts gX6_ending_X6_isBelow rfl rfl rfl (by decide +kernel) ⟨Nat.le_of_ble_eq_true rfl, Nat.le_of_ble_eq_true rfl⟩) (nt_pS hT hS trivial) rfl rfl hl.1 rfl (lv_room (Nat.le_of_ble_eq_true rfl)) dX6_ending_10 ⟨Nat.le_of_ble_eq_true rfl, Nat.le_of_ble_eq_true rfl⟩) ?_
    refine nv_ifb_ne (tgt := 26) hx hb dX6_ending_13 (by decide) (fun c2 => ?_) (fun c2 => ?_)
    · obtain ⟨ck, h_ck, rfl⟩ := iR_of c2 (by decide)
      have et_ck : tN (nI ck) = ck := tN_nI (by omega)
      refine lv_aload_n hx hb dX6_ending_26 rfl (lv_at hl 0 rfl) ?_
      refine va_get (D := D) (ci := 8) (v := .ref ((cAd AD 1) 0)) (C := RX6) (T := TX6) (N := 11) hx hb hts in_X6 hown hK.1 hPo 0 rfl rfl 0 (by decide) fl_10 (fun _ h9 => h9) rfl dX6_ending_27 ?_
      refine lv_iload_n hx hb dX6_ending_30 rfl (lv_at hl 1 rfl) ?_
      refine lv_iload_n hx hb dX6_ending_31 rfl (lv_at hl 2 rfl) ?_
      refine lv_iload_n hx hb dX6_ending_32 rfl (lv_at hl 3 rfl) ?_
      refine nv_kS (va_runS (As := [.int (nI z)]) (rest := [.int (nI ck), .int (nI ak), .ref ((cAd AD 1) 0)]) ⟨hx, hb, hml, hown, hts⟩ (c_X6_numberOf l z (by first | omega | exact bI_le _)) (va_cwS 1 hts gX6_ending_X6_numberOf rfl rfl rfl (by decide +kernel) ⟨Nat.le_of_ble_eq_true rfl, Nat.le_of_ble_eq_true rfl⟩) (nt_pS hT hS trivial) rfl rfl hl.1 rfl (lv_room (Nat.le_of_ble_eq_true rfl)) dX6_ending_33 ⟨Nat.le_of_ble_eq_true rfl, Nat.le_of_ble_eq_true rfl⟩) ?_
      refine nv_kS (va_runV (As := [.int (nI ak), .int (nI ck), .int (nI z)]) (rest := []) ⟨hx, hb, hml, hown, hts⟩ (c_X1_signAt l hR hG ak ck z (by omega) (by omega) (by omega)) (cwV 3 hts gX6_ending_X1_signAt rfl rfl rfl (by decide +kernel) ⟨Nat.le_of_ble_eq_true rfl, Nat.le_of_ble_eq_true rfl⟩) (nt_pV hT hS hPh (va_recv hK.1 hPh (ci := 3) (q0 := 0) rfl rfl)) rfl rfl hl.1 rfl (lv_room (Nat.le_of_ble_eq_true rfl)) dX6_ending_36 ⟨Nat.le_of_ble_eq_true rfl, Nat.le_of_ble_eq_true rfl⟩) ?_
      exact nv_retGX hq hx hb hr hlocks (Nat.le_of_ble_eq_true rfl) (Nat.le_of_ble_eq_true rfl) (nar_c (by have := gEnds_le hG h_ak hz _ h_ck; omega)) (if_pos ⟨c1, c2⟩) (by rw [if_pos ⟨c1, c2⟩, et_ak, et_ck]) hS (⟨hPo, ⟨u, hR, hk, hPh⟩, hPi, hPs, hPp, hPw, hPt⟩) dX6_ending_39
    · exact nv_throwS (ws := wsX6_ending) (ik := 168) (is := 196) (ic := 172) (cls := "java/lang/IllegalArgumentException") (text := "there is no such declension or case") (names := ["java/lang/RuntimeException", "java/lang/Exception"]) hq hx hb hl9 hown hts hT xIAE_fit ⟨by decide +kernel, by decide +kernel⟩ ⟨by decide +kernel, by decide +kernel⟩ (fun w hw => List.mem_cons_of_mem _ (List.mem_append_left _ (List.mem_append_right _ hw))) xIAE_bad xIAE_ok hS (hl.1.trans hml.symm) dX6_ending_16 dX6_ending_19 dX6_ending_20 dX6_ending_22 dX6_ending_25 hout (by decide) (Nat.le_of_ble_eq_true rfl) (Nat.le_of_ble_eq_true rfl) (Nat.le_of_ble_eq_true rfl) hlocks (Nat.le_of_ble_eq_true rfl) (Nat.le_of_ble_eq_true rfl) (by rw [if_neg (fun q => c2 q.2)]; exact Nat.succ_ne_zero _) (by rw [if_neg (fun q => c2 q.2)] <;> rfl) (fun H1 h9 => (cJ.grow (show cJ D cI cC cD cR AD u Sv Hi In Le hs ch ty wy ln ea ra wd _ from ⟨hPo, hPh, hPi, hPs, hPp, hPw, hPt⟩) h9).W hR hk)

set_option maxHeartbeats 1000000 in
set_option maxRecDepth 100000 in
theorem c_X6_areAlike (l : Launch) (hl9 : l.stackTraces = false) {D : va_G} {cI cC cD cR : ClassId} {sa : sA} {A : Nat → Prop} {AD : Nat → Nat} {G Sv Hi In Le : Nat → Nat} {b hs ch ty wy ln : Nat} {ea ra wd : Int32} (hG : gWf b G) (hI : cInj AD) (hAA : ∀ i, i < 165 → A (AD i)) (a d : Int32) (z : Nat) (hz : z ≤ 1) : vx_Met l yX6_areAlike wsX6_areAlike ({ frames := 7, cells := 2, slots := 12, locals := 130 }) (va_Pc [.ref (AD 0), .int a, .int d, .int (nI z)] (tPre D [(cI, .int), (cC, .char), (cD, .object "DoorDialect$Door"), (cR, .object "DoorDialect$House")] nN sa A (cW D cI cC cD cR AD G Sv Hi In Le hs ch ty wy ln ea ra wd))) (gQX (if iR a (G 0) ∧ iR d (G 0) then 0 else 1) (nI (bI ((iR a (G 0) ∧ iR d (G 0)) ∧ gAlike G (tN a) (tN d)))) (cW D cI cC cD cR AD G Sv Hi In Le hs ch ty wy ln ea ra wd) A) (xQ ["java/lang/IndexOutOfBoundsException"] (if iR a (G 0) ∧ iR d (G 0) then 0 else 1) (cW D cI cC cD cR AD G Sv Hi In Le hs ch ty wy ln ea ra wd) A) 2 12 A := by
  refine nv_metX (cc := cX6_areAlike) (maxL := 4) (ret := (some .boolean)) (by decide) rfl (Nat.le_of_ble_eq_true rfl) ?_
  intro p0 e0 s m0 args below meth c0 Q hq hargs hnA hout hpre ls hl
  obtain ⟨hx, hb, hr, hts, hown, hlocks, hml⟩ := hnA
  obtain ⟨hP, hT⟩ := hpre
  have hK := hT.1
  have hown : s.vm.findClass RX6 = some m0.cls := hown
  obtain ⟨hPo, ⟨u, hR, hk, hPh⟩, hPi, hPs, hPp, hPw, hPt⟩ := hP
  have hPo : va_P D vwCl (cOb AD (hs) (wy) (wd) (ea) (ra)) s.heap := hPo
  have hPh : va_P D vwCl (hw cI cD (cAd AD 1) u) s.heap := hPh
  have hl : lv_has ls 4 [(0, .ref (AD 0)), (1, .int a), (2, .int d), (3, .int (nI z))] := hl
  have hS : va_S A s.heap s.heap [] := va_S.rf
  have in_X6 : ∀ w ∈ wsX60, w ∈ wsX6_areAlike := by decide +kernel
  have fl_10 := hts (.fieldLink RX6 10 "DoorDialect" "house" "LDoorDialect$House;") (by decide +kernel)
  obtain ⟨g_b, g_k, g_0, g_1, g_2, g_e, g_d, g_t, g_y, g_s, g_h⟩ := id hG
  have zq0 : G 0 = G 0 := rfl
  have l3 := hG.lt (k := 3) (by decide)
  have l4 := hG.lt (k := 4) (by decide)
  have l5 := hG.lt (k := 5) (by decide)
  refine lv_aload_n hx hb dX6_areAlike_0 rfl (lv_at hl 0 rfl) ?_
  refine lv_iload_n hx hb dX6_areAlike_1 rfl (lv_at hl 1 rfl) ?_
  refine nv_kGXv (vx_runV (As := [.int a]) (rest := []) ⟨hx, hb, hml, hown, hts⟩ (c_X6_requireDoor l hl9 (A := fun _ => False) (J := cJ D cI cC cD cR AD u Sv Hi In Le hs ch ty wy ln ea ra wd) (fun _ _ h9 h8 => h8.grow h9) (fun _ h9 => h9.1) (fun _ h9 => h9.2.1) hR hG ((a))) (cwV 1 hts gX6_areAlike_X6_requireDoor rfl rfl rfl (by decide +kernel) ⟨Nat.le_of_ble_eq_true rfl, Nat.le_of_ble_eq_true rfl⟩) (nt_pVn hT hS (fun _ h9 => h9.elim) ⟨hPo, hPh, hPi, hPs, hPp, hPw, hPt⟩ (va_recv hK.1 hPo (ci := 8) (q0 := 0) rfl rfl)) rfl rfl hl.1 rfl (lv_room (Nat.le_of_ble_eq_true rfl)) dX6_areAlike_2 ⟨Nat.le_of_ble_eq_true rfl, Nat.le_of_ble_eq_true rfl⟩) hS (fun _ h9 => h9.elim) hq hout hlocks (Nat.le_of_ble_eq_true rfl) (Nat.le_of_ble_eq_true rfl) (fun H h0 hP1 hK1 => ?_) (fun H locs h0 hP1 hK1 hS => ?_)
  · have hn : ¬ iR ((a)) (G 0) := fun q => h0 (if_pos q)
    exact ⟨by rw [if_neg (fun q => hn q.1)]; exact Nat.one_ne_zero, by first | rw [if_neg hn, if_neg (fun q => hn q.1)] <;> rfl | rw [if_neg hn] <;> rfl, hP1.W hR hk⟩
  obtain ⟨hPo, hPh, hPi, hPs, hPp, hPw, hPt⟩ := hP1
  have c1 : iR ((a)) (G 0) := if01 h0
  have c1k := c1
  obtain ⟨ak, h_ak, rfl⟩ := iR_of c1k (by omega)
  have et_ak : tN (nI ak) = ak := tN_nI (by omega)
  refine lv_aload_n hx hb dX6_areAlike_5 rfl (lv_at hl 0 rfl) ?_
  refine lv_iload_n hx hb dX6_areAlike_6 rfl (lv_at hl 2 rfl) ?_
  refine nv_kGXv (vx_runV (As := [.int d]) (rest := []) ⟨hx, hb, hml, hown, hts⟩ (c_X6_requireDoor l hl9 (A := fun _ => False) (J := cJ D cI cC cD cR AD u Sv Hi In Le hs ch ty wy ln ea ra wd) (fun _ _ h9 h8 => h8.grow h9) (fun _ h9 => h9.1) (fun _ h9 => h9.2.1) hR hG ((d))) (cwV 1 hts gX6_areAlike_X6_requireDoor rfl rfl rfl (by decide +kernel) ⟨Nat.le_of_ble_eq_true rfl, Nat.le_of_ble_eq_true rfl⟩) (nt_pVn hT hS (fun _ h9 => h9.elim) ⟨hPo, hPh, hPi, hPs, hPp, hPw, hPt⟩ (va_recv hK.1 hPo (ci := 8) (q0 := 0) rfl rfl)) rfl rfl hl.1 rfl (lv_room (Nat.le_of_ble_eq_true rfl)) dX6_areAlike_7 ⟨Nat.le_of_ble_eq_true rfl, Nat.le_of_ble_eq_true rfl⟩) hS (fun _ h9 => h9.elim) hq hout hlocks (Nat.le_of_ble_eq_true rfl) (Nat.le_of_ble_eq_true rfl) (fun H h0 hP1 hK1 => ?_) (fun H locs h0 hP1 hK1 hS => ?_)
  · have hn : ¬ iR ((d)) (G 0) := fun q => h0 (if_pos q)
    exact ⟨by rw [if_neg (fun q => hn q.2)]; exact Nat.one_ne_zero, by first | rw [if_neg hn, if_neg (fun q => hn q.2)] <;> rfl | rw [if_neg hn] <;> rfl, hP1.W hR hk⟩
  obtain ⟨hPo, hPh, hPi, hPs, hPp, hPw, hPt⟩ := hP1
  have c2 : iR ((d)) (G 0) := if01 h0
  have c2k := c2
  obtain ⟨dk, h_dk, rfl⟩ := iR_of c2k (by omega)
  have et_dk : tN (nI dk) = dk := tN_nI (by omega)
  obtain ⟨w_a, w_g, w_n, w_s, w_w, w_l, w_o, w_x, w_y, w_1, w_2, w_3, w_4⟩ := hG.door (d := dk) (by omega)
  have hcc := gWf_case hG (d := dk) (by omega)
  have hee := gEnd_lt hG (d := dk) (by omega)
  refine lv_iload_n hx hb dX6_areAlike_10 rfl (lv_at hl 3 rfl) ?_
  refine nv_if_eq (tgt := 26) hx hb dX6_areAlike_11 (by decide) (by omega) (fun c3 => ?_) (fun c3 => ?_)
  · refine lv_aload_n hx hb dX6_areAlike_26 rfl (lv_at hl 0 rfl) ?_
    refine va_get (D := D) (ci := 8) (v := .ref ((cAd AD 1) 0)) (C := RX6) (T := TX6) (N := 11) hx hb hts in_X6 hown hK.1 hPo 0 rfl rfl 0 (by decide) fl_10 (fun _ h9 => h9) rfl dX6_areAlike_27 ?_
    refine lv_iload_n hx hb dX6_areAlike_30 rfl (lv_at hl 1 rfl) ?_
    refine lv_iload_n hx hb dX6_areAlike_31 rfl (lv_at hl 2 rfl) ?_
    refine nv_kS (va_runV (As := [.int (nI ak), .int (nI dk)]) (rest := []) ⟨hx, hb, hml, hown, hts⟩ (c_X1_areAlikeByLetters l hR hG ak dk (by omega) (by omega)) (cwV 2 hts gX6_areAlike_X1_areAlikeByLetters rfl rfl rfl (by decide +kernel) ⟨Nat.le_of_ble_eq_true rfl, Nat.le_of_ble_eq_true rfl⟩) (nt_pV hT hS hPh (va_recv hK.1 hPh (ci := 3) (q0 := 0) rfl rfl)) rfl rfl hl.1 rfl (lv_room (Nat.le_of_ble_eq_true rfl)) dX6_areAlike_32 ⟨Nat.le_of_ble_eq_true rfl, Nat.le_of_ble_eq_true rfl⟩) ?_
    exact nv_retGX hq hx hb hr hlocks (Nat.le_of_ble_eq_true rfl) (Nat.le_of_ble_eq_true rfl) (nar_zb _) (if_pos ⟨c1, c2⟩) (by rw [et_ak, et_dk]; exact congrArg nI (bI_congr ⟨fun q => ⟨⟨c1, c2⟩, q⟩, fun q => q.2⟩)) hS (⟨hPo, ⟨u, hR, hk, hPh⟩, hPi, hPs, hPp, hPw, hPt⟩) dX6_areAlike_35
  · refine lv_aload_n hx hb dX6_areAlike_14 rfl (lv_at hl 0 rfl) ?_
    refine va_get (D := D) (ci := 8) (v := .ref ((cAd AD 1) 0)) (C := RX6) (T := TX6) (N := 11) hx hb hts in_X6 hown hK.1 hPo 0 rfl rfl 0 (by decide) fl_10 (fun _ h9 => h9) rfl dX6_areAlike_15 ?_
    refine lv_iload_n hx hb dX6_areAlike_18 rfl (lv_at hl 1 rfl) ?_
    refine lv_iload_n hx hb dX6_areAlike_19 rfl (lv_at hl 2 rfl) ?_
    refine nv_kS (va_runV (As := [.int (nI ak), .int (nI dk)]) (rest := []) ⟨hx, hb, hml, hown, hts⟩ (c_X1_areAlikeByNumbers l hR hG ak dk (by omega) (by omega)) (cwV 2 hts gX6_areAlike_X1_areAlikeByNumbers rfl rfl rfl (by decide +kernel) ⟨Nat.le_of_ble_eq_true rfl, Nat.le_of_ble_eq_true rfl⟩) (nt_pV hT hS hPh (va_recv hK.1 hPh (ci := 3) (q0 := 0) rfl rfl)) rfl rfl hl.1 rfl (lv_room (Nat.le_of_ble_eq_true rfl)) dX6_areAlike_20 ⟨Nat.le_of_ble_eq_true rfl, Nat.le_of_ble_eq_true rfl⟩) ?_
    refine lv_goto (tgt := 35) hx hb dX6_areAlike_23 (by decide) ?_
    exact nv_retGX hq hx hb hr hlocks (Nat.le_of_ble_eq_true rfl) (Nat.le_of_ble_eq_true rfl) (nar_zb _) (if_pos ⟨c1, c2⟩) (by rw [et_ak, et_dk]; exact congrArg nI (bI_congr ⟨fun q => ⟨⟨c1, c2⟩, q⟩, fun q => q.2⟩)) hS (⟨hPo, ⟨u, hR, hk, hPh⟩, hPi, hPs, hPp, hPw, hPt⟩) dX6_areAlike_35

set_option maxHeartbeats 1000000 in
set_option maxRecDepth 100000 in
theorem c_X6_agrees (l : Launch) (hl9 : l.stackTraces = false) {D : va_G} {cI cC cD cR : ClassId} {sa : sA} {A : Nat → Prop} {AD : Nat → Nat} {G Sv Hi In Le : Nat → Nat} {b hs ch ty wy ln : Nat} {ea ra wd : Int32} (hG : gWf b G) (hI : cInj AD) (hAA : ∀ i, i < 165 → A (AD i)) (d g : Int32) (z : Nat) (c : Int32) (hz : z ≤ 1) : vx_Met l yX6_agrees wsX6_agrees ({ frames := 7, cells := 2, slots := 12, locals := 103 }) (va_Pc [.ref (AD 0), .int d, .int g, .int (nI z), .int c] (tPre D [(cI, .int), (cC, .char), (cD, .object "DoorDialect$Door"), (cR, .object "DoorDialect$House")] nN sa A (cW D cI cC cD cR AD G Sv Hi In Le hs ch ty wy ln ea ra wd))) (gQX (if iR d (G 0) then (if iR g 3 ∧ iR c 4 then 0 else 2) else 1) ((if iR d (G 0) then (if iR g 3 ∧ iR c 4 then nI (gAgree G (tN d) (tN g) z (tN c)) else 0) else 0)) (cW D cI cC cD cR AD G Sv Hi In Le hs ch ty wy ln ea ra wd) A) (xQ ["java/lang/IndexOutOfBoundsException", "java/lang/IllegalArgumentException"] (if iR d (G 0) then (if iR g 3 ∧ iR c 4 then 0 else 2) else 1) (cW D cI cC cD cR AD G Sv Hi In Le hs ch ty wy ln ea ra wd) A) 2 12 A := by
  refine nv_metX (cc := cX6_agrees) (maxL := 5) (ret := (some .int)) (by decide) rfl (Nat.le_of_ble_eq_true rfl) ?_
  intro p0 e0 s m0 args below meth c0 Q hq hargs hnA hout hpre ls hl
  obtain ⟨hx, hb, hr, hts, hown, hlocks, hml⟩ := hnA
  obtain ⟨hP, hT⟩ := hpre
  have hK := hT.1
  have hown : s.vm.findClass RX6 = some m0.cls := hown
  obtain ⟨hPo, ⟨u, hR, hk, hPh⟩, hPi, hPs, hPp, hPw, hPt⟩ := hP
  have hPo : va_P D vwCl (cOb AD (hs) (wy) (wd) (ea) (ra)) s.heap := hPo
  have hPh : va_P D vwCl (hw cI cD (cAd AD 1) u) s.heap := hPh
  have hl : lv_has ls 5 [(0, .ref (AD 0)), (1, .int d), (2, .int g), (3, .int (nI z)), (4, .int c)] := hl
  have hS : va_S A s.heap s.heap [] := va_S.rf
  have in_X1 : ∀ w ∈ wsX10, w ∈ wsX6_agrees := by decide +kernel
  have in_X6 : ∀ w ∈ wsX60, w ∈ wsX6_agrees := by decide +kernel
  have fl_10 := hts (.fieldLink RX6 10 "DoorDialect" "house" "LDoorDialect$House;") (by decide +kernel)
  have fl_128 := hts (.fieldLink RX6 128 "DoorDialect$House" "doors" "[LDoorDialect$Door;") (by decide +kernel)
  obtain ⟨g_b, g_k, g_0, g_1, g_2, g_e, g_d, g_t, g_y, g_s, g_h⟩ := id hG
  have zq0 : G 0 = G 0 := rfl
  have l3 := hG.lt (k := 3) (by decide)
  have l4 := hG.lt (k := 4) (by decide)
  have l5 := hG.lt (k := 5) (by decide)
  refine lv_aload_n hx hb dX6_agrees_0 rfl (lv_at hl 0 rfl) ?_
  refine lv_iload_n hx hb dX6_agrees_1 rfl (lv_at hl 1 rfl) ?_
  refine nv_kGXv (vx_runV (As := [.int d]) (rest := []) ⟨hx, hb, hml, hown, hts⟩ (c_X6_requireDoor l hl9 (A := fun _ => False) (J := cJ D cI cC cD cR AD u Sv Hi In Le hs ch ty wy ln ea ra wd) (fun _ _ h9 h8 => h8.grow h9) (fun _ h9 => h9.1) (fun _ h9 => h9.2.1) hR hG ((d))) (cwV 1 hts gX6_agrees_X6_requireDoor rfl rfl rfl (by decide +kernel) ⟨Nat.le_of_ble_eq_true rfl, Nat.le_of_ble_eq_true rfl⟩) (nt_pVn hT hS (fun _ h9 => h9.elim) ⟨hPo, hPh, hPi, hPs, hPp, hPw, hPt⟩ (va_recv hK.1 hPo (ci := 8) (q0 := 0) rfl rfl)) rfl rfl hl.1 rfl (lv_room (Nat.le_of_ble_eq_true rfl)) dX6_agrees_2 ⟨Nat.le_of_ble_eq_true rfl, Nat.le_of_ble_eq_true rfl⟩) hS (fun _ h9 => h9.elim) hq hout hlocks (Nat.le_of_ble_eq_true rfl) (Nat.le_of_ble_eq_true rfl) (fun H h0 hP1 hK1 => ?_) (fun H locs h0 hP1 hK1 hS => ?_)
  · have hn : ¬ iR ((d)) (G 0) := fun q => h0 (if_pos q)
    exact ⟨by rw [if_neg hn]; exact Nat.one_ne_zero, by first | rw [if_neg hn, if_neg hn] <;> rfl | rw [if_neg hn] <;> rfl, hP1.W hR hk⟩
  obtain ⟨hPo, hPh, hPi, hPs, hPp, hPw, hPt⟩ := hP1
  have c1 : iR ((d)) (G 0) := if01 h0
  have c1k := c1
  obtain ⟨dk, h_dk, rfl⟩ := iR_of c1k (by omega)
  have et_dk : tN (nI dk) = dk := tN_nI (by omega)
  obtain ⟨w_a, w_g, w_n, w_s, w_w, w_l, w_o, w_x, w_y, w_1, w_2, w_3, w_4⟩ := hG.door (d := dk) (by omega)
  have hcc := gWf_case hG (d := dk) (by omega)
  have hee := gEnd_lt hG (d := dk) (by omega)
  refine lv_iload_n hx hb dX6_agrees_5 rfl (lv_at hl 2 rfl) ?_
  refine lv_iconst (v := nI 3) hx hb dX6_agrees_6 (by decide) ?_
  refine nv_kS (va_runS (As := [.int g, .int (nI 3)]) (rest := []) ⟨hx, hb, hml, hown, hts⟩ (c_X6_isBelow l (g) 3 (by omega)) (va_cwS 2 hts gX6_agrees_X6_isBelow rfl rfl rfl (by decide +kernel) ⟨Nat.le_of_ble_eq_true rfl, Nat.le_of_ble_eq_true rfl⟩) (nt_pS hT hS trivial) rfl rfl hl.1 rfl (lv_room (Nat.le_of_ble_eq_true rfl)) dX6_agrees_7 ⟨Nat.le_of_ble_eq_true rfl, Nat.le_of_ble_eq_true rfl⟩) ?_
  refine nv_ifb_eq (tgt := 22) hx hb dX6_agrees_10 (by decide) (fun c2 => ?_) (fun c2 => ?_)
  · exact nv_throwS (ws := wsX6_agrees) (ik := 168) (is := 241) (ic := 172) (cls := "java/lang/IllegalArgumentException") (text := "there is no such gender or case") (names := ["java/lang/RuntimeException", "java/lang/Exception"]) hq hx hb hl9 hown hts hT xIAE_fit ⟨by decide +kernel, by decide +kernel⟩ ⟨by decide +kernel, by decide +kernel⟩ (fun w hw => List.mem_cons_of_mem _ (List.mem_append_left _ (List.mem_append_left _ (List.mem_append_right _ hw)))) xIAE_bad xIAE_ok hS (hl.1.trans hml.symm) dX6_agrees_22 dX6_agrees_25 dX6_agrees_26 dX6_agrees_28 dX6_agrees_31 hout (by decide) (Nat.le_of_ble_eq_true rfl) (Nat.le_of_ble_eq_true rfl) (Nat.le_of_ble_eq_true rfl) hlocks (Nat.le_of_ble_eq_true rfl) (Nat.le_of_ble_eq_true rfl) (by rw [if_pos c1, if_neg (fun q => c2 q.1)]; exact Nat.succ_ne_zero _) (by rw [if_pos c1, if_neg (fun q => c2 q.1)] <;> rfl) (fun H1 h9 => (cJ.grow (show cJ D cI cC cD cR AD u Sv Hi In Le hs ch ty wy ln ea ra wd _ from ⟨hPo, hPh, hPi, hPs, hPp, hPw, hPt⟩) h9).W hR hk)
  · obtain ⟨gk, h_gk, rfl⟩ := iR_of c2 (by decide)
    have et_gk : tN (nI gk) = gk := tN_nI (by omega)
    refine lv_iload hx hb dX6_agrees_13 (lv_at hl 4 rfl) ?_
    refine lv_iconst (v := nI 4) hx hb dX6_agrees_15 (by decide) ?_
    refine nv_kS (va_runS (As := [.int c, .int (nI 4)]) (rest := []) ⟨hx, hb, hml, hown, hts⟩ (c_X6_isBelow l (c) 4 (by omega)) (va_cwS 2 hts gX6_agrees_X6_isBelow rfl rfl rfl (by decide +kernel) ⟨Nat.le_of_ble_eq_true rfl, Nat.le_of_ble_eq_true rfl⟩) (nt_pS hT hS trivial) rfl rfl hl.1 rfl (lv_room (Nat.le_of_ble_eq_true rfl)) dX6_agrees_16 ⟨Nat.le_of_ble_eq_true rfl, Nat.le_of_ble_eq_true rfl⟩) ?_
    refine nv_ifb_ne (tgt := 32) hx hb dX6_agrees_19 (by decide) (fun c3 => ?_) (fun c3 => ?_)
    · obtain ⟨ck, h_ck, rfl⟩ := iR_of c3 (by decide)
      have et_ck : tN (nI ck) = ck := tN_nI (by omega)
      refine lv_aload_n hx hb dX6_agrees_32 rfl (lv_at hl 0 rfl) ?_
      refine va_get (D := D) (ci := 8) (v := .ref ((cAd AD 1) 0)) (C := RX6) (T := TX6) (N := 11) hx hb hts in_X6 hown hK.1 hPo 0 rfl rfl 0 (by decide) fl_10 (fun _ h9 => h9) rfl dX6_agrees_33 ?_
      refine lv_aload_n hx hb dX6_agrees_36 rfl (lv_at hl 0 rfl) ?_
      refine va_get (D := D) (ci := 8) (v := .ref ((cAd AD 1) 0)) (C := RX6) (T := TX6) (N := 11) hx hb hts in_X6 hown hK.1 hPo 0 rfl rfl 0 (by decide) fl_10 (fun _ h9 => h9) rfl dX6_agrees_37 ?_
      refine va_get (D := D) (ci := 3) (v := .ref ((cAd AD 1) 1)) (C := RX1) (T := TX1) (N := 12) hx hb hts in_X1 hown hK.1 hPh 0 rfl rfl 0 (by decide) fl_128 (fun _ h9 => h9) rfl dX6_agrees_40 ?_
      refine lv_iload_n hx hb dX6_agrees_43 rfl (lv_at hl 1 rfl) ?_
      refine nv_aldq (i := dk) hx hb hK.1 hPh 1 2 rfl rfl (by omega) (by decide) dX6_agrees_44 ?_
      refine lv_iload_n hx hb dX6_agrees_45 rfl (lv_at hl 2 rfl) ?_
      refine lv_iload_n hx hb dX6_agrees_46 rfl (lv_at hl 3 rfl) ?_
      refine nv_kS (va_runS (As := [.int (nI z)]) (rest := [.int (nI gk), .ref ((cAd AD 1) (6 + dk)), .ref ((cAd AD 1) 0)]) ⟨hx, hb, hml, hown, hts⟩ (c_X6_numberOf l z (by first | omega | exact bI_le _)) (va_cwS 1 hts gX6_agrees_X6_numberOf rfl rfl rfl (by decide +kernel) ⟨Nat.le_of_ble_eq_true rfl, Nat.le_of_ble_eq_true rfl⟩) (nt_pS hT hS trivial) rfl rfl hl.1 rfl (lv_room (Nat.le_of_ble_eq_true rfl)) dX6_agrees_47 ⟨Nat.le_of_ble_eq_true rfl, Nat.le_of_ble_eq_true rfl⟩) ?_
      refine lv_iload hx hb dX6_agrees_50 (lv_at hl 4 rfl) ?_
      refine nv_kS (va_runV (As := [.ref ((cAd AD 1) (6 + dk)), .int (nI gk), .int (nI z), .int (nI ck)]) (rest := []) ⟨hx, hb, hml, hown, hts⟩ (c_X1_agreement l hR hG dk gk z ck (by omega) (by omega) (by omega) (by omega)) (cwV 4 hts gX6_agrees_X1_agreement rfl rfl rfl (by decide +kernel) ⟨Nat.le_of_ble_eq_true rfl, Nat.le_of_ble_eq_true rfl⟩) (nt_pV hT hS hPh (va_recv hK.1 hPh (ci := 3) (q0 := 0) rfl rfl)) rfl rfl hl.1 rfl (lv_room (Nat.le_of_ble_eq_true rfl)) dX6_agrees_52 ⟨Nat.le_of_ble_eq_true rfl, Nat.le_of_ble_eq_true rfl⟩) ?_
      exact nv_retGX hq hx hb hr hlocks (Nat.le_of_ble_eq_true rfl) (Nat.le_of_ble_eq_true rfl) (nar_i _) (by rw [if_pos c1, if_pos ⟨c2, c3⟩]) (by rw [if_pos c1, if_pos ⟨c2, c3⟩, et_dk, et_gk, et_ck]) hS (⟨hPo, ⟨u, hR, hk, hPh⟩, hPi, hPs, hPp, hPw, hPt⟩) dX6_agrees_55
    · exact nv_throwS (ws := wsX6_agrees) (ik := 168) (is := 241) (ic := 172) (cls := "java/lang/IllegalArgumentException") (text := "there is no such gender or case") (names := ["java/lang/RuntimeException", "java/lang/Exception"]) hq hx hb hl9 hown hts hT xIAE_fit ⟨by decide +kernel, by decide +kernel⟩ ⟨by decide +kernel, by decide +kernel⟩ (fun w hw => List.mem_cons_of_mem _ (List.mem_append_left _ (List.mem_append_left _ (List.mem_append_right _ hw)))) xIAE_bad xIAE_ok hS (hl.1.trans hml.symm) dX6_agrees_22 dX6_agrees_25 dX6_agrees_26 dX6_agrees_28 dX6_agrees_31 hout (by decide) (Nat.le_of_ble_eq_true rfl) (Nat.le_of_ble_eq_true rfl) (Nat.le_of_ble_eq_true rfl) hlocks (Nat.le_of_ble_eq_true rfl) (Nat.le_of_ble_eq_true rfl) (by rw [if_pos c1, if_neg (fun q => c3 q.2)]; exact Nat.succ_ne_zero _) (by rw [if_pos c1, if_neg (fun q => c3 q.2)] <;> rfl) (fun H1 h9 => (cJ.grow (show cJ D cI cC cD cR AD u Sv Hi In Le hs ch ty wy ln ea ra wd _ from ⟨hPo, hPh, hPi, hPs, hPp, hPw, hPt⟩) h9).W hR hk)

set_option maxHeartbeats 1000000 in
set_option maxRecDepth 100000 in
theorem c_X6_meanKnocks (l : Launch) (hl9 : l.stackTraces = false) {D : va_G} {cI cC cD cR : ClassId} {sa : sA} {A : Nat → Prop} {AD : Nat → Nat} {G Sv Hi In Le : Nat → Nat} {b hs ch ty wy ln : Nat} {ea ra wd : Int32} (hG : gWf b G) (hI : cInj AD) (hAA : ∀ i, i < 165 → A (AD i))  : vx_Met l yX6_meanKnocks wsX6_meanKnocks ({ frames := 6, cells := 1, slots := 6, locals := 82 }) (va_Pc [.ref (AD 0)] (tPre D [(cI, .int), (cC, .char), (cD, .object "DoorDialect$Door"), (cR, .object "DoorDialect$House")] nN sa A (cW D cI cC cD cR AD G Sv Hi In Le hs ch ty wy ln ea ra wd))) (gQXd (if G 0 = 0 then 1 else 0) ((if G 0 = 0 then FP.dconst0 else FP.ddiv (FP.i2d (nI (G 3))) (FP.i2d (nI (G 0))))) (cW D cI cC cD cR AD G Sv Hi In Le hs ch ty wy ln ea ra wd) A) (xQ ["java/lang/ArithmeticException"] (if G 0 = 0 then 1 else 0) (cW D cI cC cD cR AD G Sv Hi In Le hs ch ty wy ln ea ra wd) A) 1 6 A := by
  refine nv_metX (cc := cX6_meanKnocks) (maxL := 1) (ret := (some .double)) (by decide) rfl (Nat.le_of_ble_eq_true rfl) ?_
  intro p0 e0 s m0 args below meth c0 Q hq hargs hnA hout hpre ls hl
  obtain ⟨hx, hb, hr, hts, hown, hlocks, hml⟩ := hnA
  obtain ⟨hP, hT⟩ := hpre
  have hK := hT.1
  have hown : s.vm.findClass RX6 = some m0.cls := hown
  obtain ⟨hPo, ⟨u, hR, hk, hPh⟩, hPi, hPs, hPp, hPw, hPt⟩ := hP
  have hPo : va_P D vwCl (cOb AD (hs) (wy) (wd) (ea) (ra)) s.heap := hPo
  have hPh : va_P D vwCl (hw cI cD (cAd AD 1) u) s.heap := hPh
  have hl : lv_has ls 1 [(0, .ref (AD 0))] := hl
  have hS : va_S A s.heap s.heap [] := va_S.rf
  have in_X1 : ∀ w ∈ wsX10, w ∈ wsX6_meanKnocks := by decide +kernel
  have in_X6 : ∀ w ∈ wsX60, w ∈ wsX6_meanKnocks := by decide +kernel
  have fl_10 := hts (.fieldLink RX6 10 "DoorDialect" "house" "LDoorDialect$House;") (by decide +kernel)
  have fl_64 := hts (.fieldLink RX6 64 "DoorDialect$House" "doorCount" "I") (by decide +kernel)
  obtain ⟨g_b, g_k, g_0, g_1, g_2, g_e, g_d, g_t, g_y, g_s, g_h⟩ := id hG
  have zq0 : G 0 = G 0 := rfl
  have l3 := hG.lt (k := 3) (by decide)
  have l4 := hG.lt (k := 4) (by decide)
  have l5 := hG.lt (k := 5) (by decide)
  refine lv_aload_n hx hb dX6_meanKnocks_0 rfl (lv_at hl 0 rfl) ?_
  refine va_get (D := D) (ci := 8) (v := .ref ((cAd AD 1) 0)) (C := RX6) (T := TX6) (N := 11) hx hb hts in_X6 hown hK.1 hPo 0 rfl rfl 0 (by decide) fl_10 (fun _ h9 => h9) rfl dX6_meanKnocks_1 ?_
  refine va_get (D := D) (ci := 3) (v := .int (nI (hs_c u 0))) (C := RX1) (T := TX1) (N := 12) hx hb hts in_X1 hown hK.1 hPh 0 rfl rfl 5 (by decide) fl_64 (fun _ h9 => h9) rfl dX6_meanKnocks_4 ?_
  refine nv_to (G 0) (congrArg nI ((hR.c0))) ?_
  refine nv_if_ne (tgt := 21) hx hb dX6_meanKnocks_7 (by decide) (by omega) (fun c1 => ?_) (fun c1 => ?_)
  · refine lv_aload_n hx hb dX6_meanKnocks_21 rfl (lv_at hl 0 rfl) ?_
    refine va_get (D := D) (ci := 8) (v := .ref ((cAd AD 1) 0)) (C := RX6) (T := TX6) (N := 11) hx hb hts in_X6 hown hK.1 hPo 0 rfl rfl 0 (by decide) fl_10 (fun _ h9 => h9) rfl dX6_meanKnocks_22 ?_
    refine nv_kS (va_runV (As := []) (rest := []) ⟨hx, hb, hml, hown, hts⟩ (c_X1_knocksAtDoors l hR hG) (cwV 0 hts gX6_meanKnocks_X1_knocksAtDoors rfl rfl rfl (by decide +kernel) ⟨Nat.le_of_ble_eq_true rfl, Nat.le_of_ble_eq_true rfl⟩) (nt_pV hT hS hPh (va_recv hK.1 hPh (ci := 3) (q0 := 0) rfl rfl)) rfl rfl hl.1 rfl (lv_room (Nat.le_of_ble_eq_true rfl)) dX6_meanKnocks_25 ⟨Nat.le_of_ble_eq_true rfl, Nat.le_of_ble_eq_true rfl⟩) ?_
    refine lv_i2d hx hb dX6_meanKnocks_28 ?_
    refine lv_aload_n hx hb dX6_meanKnocks_29 rfl (lv_at hl 0 rfl) ?_
    refine va_get (D := D) (ci := 8) (v := .ref ((cAd AD 1) 0)) (C := RX6) (T := TX6) (N := 11) hx hb hts in_X6 hown hK.1 hPo 0 rfl rfl 0 (by decide) fl_10 (fun _ h9 => h9) rfl dX6_meanKnocks_30 ?_
    refine va_get (D := D) (ci := 3) (v := .int (nI (hs_c u 0))) (C := RX1) (T := TX1) (N := 12) hx hb hts in_X1 hown hK.1 hPh 0 rfl rfl 5 (by decide) fl_64 (fun _ h9 => h9) rfl dX6_meanKnocks_33 ?_
    refine nv_to (G 0) (congrArg nI ((hR.c0))) ?_
    refine lv_i2d hx hb dX6_meanKnocks_36 ?_
    refine lv_ddiv hx hb dX6_meanKnocks_37 (nd_doors hG.2.2.1 c1) ?_
    exact nv_retGXd hq hx hb hr hlocks (Nat.le_of_ble_eq_true rfl) (Nat.le_of_ble_eq_true rfl) (if_neg c1) (by rw [if_neg c1, gMany_knocks hG]) hS (⟨hPo, ⟨u, hR, hk, hPh⟩, hPi, hPs, hPp, hPw, hPt⟩) dX6_meanKnocks_38
  · exact nv_throwW (ws := wsX6_meanKnocks) (ik := 349) (is := 351) (ic := 353) (cls := "java/lang/ArithmeticException") (text := "there are no doors") (names := ["java/lang/RuntimeException", "java/lang/Exception"]) hq hx hb hl9 hown hts hT xAE_fit ⟨by decide +kernel, by decide +kernel⟩ ⟨by decide +kernel, by decide +kernel⟩ (fun w hw => List.mem_cons_of_mem _ (List.mem_append_right _ hw)) xAE_bad xAE_ok hS (hl.1.trans hml.symm) dX6_meanKnocks_10 dX6_meanKnocks_13 dX6_meanKnocks_14 dX6_meanKnocks_17 dX6_meanKnocks_20 hout (by decide) (Nat.le_of_ble_eq_true rfl) (Nat.le_of_ble_eq_true rfl) (Nat.le_of_ble_eq_true rfl) hlocks (Nat.le_of_ble_eq_true rfl) (Nat.le_of_ble_eq_true rfl) (by rw [if_pos c1]; exact Nat.succ_ne_zero _) (by rw [if_pos c1] <;> rfl) (fun H1 h9 => (cJ.grow (show cJ D cI cC cD cR AD u Sv Hi In Le hs ch ty wy ln ea ra wd _ from ⟨hPo, hPh, hPi, hPs, hPp, hPw, hPt⟩) h9).W hR hk)

set_option maxHeartbeats 1000000 in
set_option maxRecDepth 100000 in
theorem c_X6_agreedShare (l : Launch) (hl9 : l.stackTraces = false) {D : va_G} {cI cC cD cR : ClassId} {sa : sA} {A : Nat → Prop} {AD : Nat → Nat} {G Sv Hi In Le : Nat → Nat} {b hs ch ty wy ln : Nat} {ea ra wd : Int32} (hG : gWf b G) (hI : cInj AD) (hAA : ∀ i, i < 165 → A (AD i)) (h13 : b < 8192)  : vx_Met l yX6_agreedShare wsX6_agreedShare ({ frames := 6, cells := 1, slots := 6, locals := 82 }) (va_Pc [.ref (AD 0)] (tPre D [(cI, .int), (cC, .char), (cD, .object "DoorDialect$Door"), (cR, .object "DoorDialect$House")] nN sa A (cW D cI cC cD cR AD G Sv Hi In Le hs ch ty wy ln ea ra wd))) (gQXf (if G 3 = 0 then 1 else 0) ((if G 3 = 0 then FP.fconst0 else FP.fdiv (FP.i2f (nI (G 4))) (FP.i2f (nI (G 3))))) (cW D cI cC cD cR AD G Sv Hi In Le hs ch ty wy ln ea ra wd) A) (xQ ["java/lang/ArithmeticException"] (if G 3 = 0 then 1 else 0) (cW D cI cC cD cR AD G Sv Hi In Le hs ch ty wy ln ea ra wd) A) 1 6 A := by
  refine nv_metX (cc := cX6_agreedShare) (maxL := 2) (ret := (some .float)) (by decide) rfl (Nat.le_of_ble_eq_true rfl) ?_
  intro p0 e0 s m0 args below meth c0 Q hq hargs hnA hout hpre ls hl
  obtain ⟨hx, hb, hr, hts, hown, hlocks, hml⟩ := hnA
  obtain ⟨hP, hT⟩ := hpre
  have hK := hT.1
  have hown : s.vm.findClass RX6 = some m0.cls := hown
  obtain ⟨hPo, ⟨u, hR, hk, hPh⟩, hPi, hPs, hPp, hPw, hPt⟩ := hP
  have hPo : va_P D vwCl (cOb AD (hs) (wy) (wd) (ea) (ra)) s.heap := hPo
  have hPh : va_P D vwCl (hw cI cD (cAd AD 1) u) s.heap := hPh
  have hl : lv_has ls 2 [(0, .ref (AD 0))] := hl
  have hS : va_S A s.heap s.heap [] := va_S.rf
  have in_X1 : ∀ w ∈ wsX10, w ∈ wsX6_agreedShare := by decide +kernel
  have in_X6 : ∀ w ∈ wsX60, w ∈ wsX6_agreedShare := by decide +kernel
  have fl_10 := hts (.fieldLink RX6 10 "DoorDialect" "house" "LDoorDialect$House;") (by decide +kernel)
  have fl_330 := hts (.fieldLink RX6 330 "DoorDialect$House" "agreedKnocks" "I") (by decide +kernel)
  have fl_333 := hts (.fieldLink RX6 333 "DoorDialect$House" "wrongKnocks" "I") (by decide +kernel)
  obtain ⟨g_b, g_k, g_0, g_1, g_2, g_e, g_d, g_t, g_y, g_s, g_h⟩ := id hG
  have zq0 : G 0 = G 0 := rfl
  have l3 := hG.lt (k := 3) (by decide)
  have l4 := hG.lt (k := 4) (by decide)
  have l5 := hG.lt (k := 5) (by decide)
  refine lv_aload_n hx hb dX6_agreedShare_0 rfl (lv_at hl 0 rfl) ?_
  refine va_get (D := D) (ci := 8) (v := .ref ((cAd AD 1) 0)) (C := RX6) (T := TX6) (N := 11) hx hb hts in_X6 hown hK.1 hPo 0 rfl rfl 0 (by decide) fl_10 (fun _ h9 => h9) rfl dX6_agreedShare_1 ?_
  refine va_get (D := D) (ci := 3) (v := .int (nI (hs_c u 3))) (C := RX1) (T := TX1) (N := 12) hx hb hts in_X1 hown hK.1 hPh 0 rfl rfl 8 (by decide) fl_330 (fun _ h9 => h9) rfl dX6_agreedShare_4 ?_
  refine nv_to (G 4) (congrArg nI ((hR.c3))) ?_
  refine lv_aload_n hx hb dX6_agreedShare_7 rfl (lv_at hl 0 rfl) ?_
  refine va_get (D := D) (ci := 8) (v := .ref ((cAd AD 1) 0)) (C := RX6) (T := TX6) (N := 11) hx hb hts in_X6 hown hK.1 hPo 0 rfl rfl 0 (by decide) fl_10 (fun _ h9 => h9) rfl dX6_agreedShare_8 ?_
  refine va_get (D := D) (ci := 3) (v := .int (nI (hs_c u 4))) (C := RX1) (T := TX1) (N := 12) hx hb hts in_X1 hown hK.1 hPh 0 rfl rfl 9 (by decide) fl_333 (fun _ h9 => h9) rfl dX6_agreedShare_11 ?_
  refine nv_to (G 5) (congrArg nI ((hR.c4))) ?_
  refine nv_iadd hx hb dX6_agreedShare_14 ?_
  refine nv_to (G 3) (congrArg nI hG.2.2.2.2.2.2.2.2.2.1.symm) ?_
  refine lv_istore_n (lv' := [(1, .int (nI (G 3))), (0, .ref (AD 0))]) hx hb dX6_agreedShare_15 rfl hl (by decide) rfl (fun ls hl => ?_)
  refine lv_iload_n hx hb dX6_agreedShare_16 rfl (lv_at hl 0 rfl) ?_
  refine nv_if_ne (tgt := 31) hx hb dX6_agreedShare_17 (by decide) (by omega) (fun c1 => ?_) (fun c1 => ?_)
  · refine lv_aload_n hx hb dX6_agreedShare_31 rfl (lv_at hl 1 rfl) ?_
    refine va_get (D := D) (ci := 8) (v := .ref ((cAd AD 1) 0)) (C := RX6) (T := TX6) (N := 11) hx hb hts in_X6 hown hK.1 hPo 0 rfl rfl 0 (by decide) fl_10 (fun _ h9 => h9) rfl dX6_agreedShare_32 ?_
    refine va_get (D := D) (ci := 3) (v := .int (nI (hs_c u 3))) (C := RX1) (T := TX1) (N := 12) hx hb hts in_X1 hown hK.1 hPh 0 rfl rfl 8 (by decide) fl_330 (fun _ h9 => h9) rfl dX6_agreedShare_35 ?_
    refine nv_to (G 4) (congrArg nI ((hR.c3))) ?_
    refine lv_i2f hx hb dX6_agreedShare_38 ?_
    refine lv_iload_n hx hb dX6_agreedShare_39 rfl (lv_at hl 0 rfl) ?_
    refine lv_i2f hx hb dX6_agreedShare_40 ?_
    refine lv_fdiv hx hb dX6_agreedShare_41 (nf_knocks (Nat.lt_of_le_of_lt (hG.2.1 3 (by omega)) h13) c1) ?_
    exact nv_retGXf hq hx hb hr hlocks (Nat.le_of_ble_eq_true rfl) (Nat.le_of_ble_eq_true rfl) (if_neg c1) (by rw [if_neg c1]) hS (⟨hPo, ⟨u, hR, hk, hPh⟩, hPi, hPs, hPp, hPw, hPt⟩) dX6_agreedShare_42
  · exact nv_throwW (ws := wsX6_agreedShare) (ik := 349) (is := 357) (ic := 353) (cls := "java/lang/ArithmeticException") (text := "there were no knocks") (names := ["java/lang/RuntimeException", "java/lang/Exception"]) hq hx hb hl9 hown hts hT xAE_fit ⟨by decide +kernel, by decide +kernel⟩ ⟨by decide +kernel, by decide +kernel⟩ (fun w hw => List.mem_cons_of_mem _ (List.mem_append_right _ hw)) xAE_bad xAE_ok hS (hl.1.trans hml.symm) dX6_agreedShare_20 dX6_agreedShare_23 dX6_agreedShare_24 dX6_agreedShare_27 dX6_agreedShare_30 hout (by decide) (Nat.le_of_ble_eq_true rfl) (Nat.le_of_ble_eq_true rfl) (Nat.le_of_ble_eq_true rfl) hlocks (Nat.le_of_ble_eq_true rfl) (Nat.le_of_ble_eq_true rfl) (by rw [if_pos c1]; exact Nat.succ_ne_zero _) (by rw [if_pos c1] <;> rfl) (fun H1 h9 => (cJ.grow (show cJ D cI cC cD cR AD u Sv Hi In Le hs ch ty wy ln ea ra wd _ from ⟨hPo, hPh, hPi, hPs, hPp, hPw, hPt⟩) h9).W hR hk)

set_option maxHeartbeats 1000000 in
set_option maxRecDepth 100000 in
theorem c_X6_account (l : Launch) (hl9 : l.stackTraces = false) {D : va_G} {cI cC cD cR : ClassId} {sa : sA} {A : Nat → Prop} {AD : Nat → Nat} {G Sv Hi In Le : Nat → Nat} {b hs ch ty wy ln : Nat} {ea ra wd : Int32} (hG : gWf b G) (hI : cInj AD) (hAA : ∀ i, i < 165 → A (AD i)) (w : Int32) : vx_Met l yX6_account wsX6_account ({ frames := 6, cells := 1, slots := 6, locals := 82 }) (va_Pc [.ref (AD 0), .int w] (tPre D [(cI, .int), (cC, .char), (cD, .object "DoorDialect$Door"), (cR, .object "DoorDialect$House")] nN sa A (cW D cI cC cD cR AD G Sv Hi In Le hs ch ty wy ln ea ra wd))) (gQX (if iR w 13 then 0 else 1) ((if iR w 13 then nI (qAcc G ty ch (tN w)) else 0)) (cW D cI cC cD cR AD G Sv Hi In Le hs ch ty wy ln ea ra wd) A) (xQ ["java/lang/IllegalArgumentException"] (if iR w 13 then 0 else 1) (cW D cI cC cD cR AD G Sv Hi In Le hs ch ty wy ln ea ra wd) A) 1 6 A := by
  refine nv_metX (cc := cX6_account) (maxL := 2) (ret := (some .int)) (by decide) rfl (Nat.le_of_ble_eq_true rfl) ?_
  intro p0 e0 s m0 args below meth c0 Q hq hargs hnA hout hpre ls hl
  obtain ⟨hx, hb, hr, hts, hown, hlocks, hml⟩ := hnA
  obtain ⟨hP, hT⟩ := hpre
  have hK := hT.1
  have hown : s.vm.findClass RX6 = some m0.cls := hown
  obtain ⟨hPo, ⟨u, hR, hk, hPh⟩, hPi, hPs, hPp, hPw, hPt⟩ := hP
  have hPo : va_P D vwCl (cOb AD (hs) (wy) (wd) (ea) (ra)) s.heap := hPo
  have hPh : va_P D vwCl (hw cI cD (cAd AD 1) u) s.heap := hPh
  have hl : lv_has ls 2 [(0, .ref (AD 0)), (1, .int w)] := hl
  have hS : va_S A s.heap s.heap [] := va_S.rf
  have in_X1 : ∀ w ∈ wsX10, w ∈ wsX6_account := by decide +kernel
  have in_X2 : ∀ w ∈ wsX20, w ∈ wsX6_account := by decide +kernel
  have in_X3 : ∀ w ∈ wsX30, w ∈ wsX6_account := by decide +kernel
  have in_X6 : ∀ w ∈ wsX60, w ∈ wsX6_account := by decide +kernel
  have fl_10 := hts (.fieldLink RX6 10 "DoorDialect" "house" "LDoorDialect$House;") (by decide +kernel)
  have fl_22 := hts (.fieldLink RX6 22 "DoorDialect" "past" "LDoorDialect$Past;") (by decide +kernel)
  have fl_43 := hts (.fieldLink RX6 43 "DoorDialect" "input" "LDoorDialect$Input;") (by decide +kernel)
  have fl_64 := hts (.fieldLink RX6 64 "DoorDialect$House" "doorCount" "I") (by decide +kernel)
  have fl_175 := hts (.fieldLink RX6 175 "DoorDialect$House" "thresholdCount" "I") (by decide +kernel)
  have fl_247 := hts (.fieldLink RX6 247 "DoorDialect$House" "keyCount" "I") (by decide +kernel)
  have fl_330 := hts (.fieldLink RX6 330 "DoorDialect$House" "agreedKnocks" "I") (by decide +kernel)
  have fl_333 := hts (.fieldLink RX6 333 "DoorDialect$House" "wrongKnocks" "I") (by decide +kernel)
  have fl_334 := hts (.fieldLink RX6 334 "DoorDialect$House" "fallenLatches" "I") (by decide +kernel)
  have fl_337 := hts (.fieldLink RX6 337 "DoorDialect$House" "freedDoors" "I") (by decide +kernel)
  have fl_343 := hts (.fieldLink RX6 343 "DoorDialect$Input" "length" "I") (by decide +kernel)
  have fl_344 := hts (.fieldLink RX6 344 "DoorDialect$Past" "count" "I") (by decide +kernel)
  obtain ⟨g_b, g_k, g_0, g_1, g_2, g_e, g_d, g_t, g_y, g_s, g_h⟩ := id hG
  have zq0 : G 0 = G 0 := rfl
  have l3 := hG.lt (k := 3) (by decide)
  have l4 := hG.lt (k := 4) (by decide)
  have l5 := hG.lt (k := 5) (by decide)
  refine lv_iload_n hx hb dX6_account_0 rfl (lv_at hl 1 rfl) ?_
  by_cases c1 : iR (w) 13
  · obtain ⟨j2, hj3, rfl⟩ := iR_of c1 (by decide)
    rcases (show j2 = 0 ∨ j2 = 1 ∨ j2 = 2 ∨ j2 = 3 ∨ j2 = 4 ∨ j2 = 5 ∨ j2 = 6 ∨ j2 = 7 ∨ j2 = 8 ∨ j2 = 9 ∨ j2 = 10 ∨ j2 = 11 ∨ j2 = 12 by omega) with rfl | rfl | rfl | rfl | rfl | rfl | rfl | rfl | rfl | rfl | rfl | rfl | rfl
    · refine lv_tableIn (off := 67) (tgt := 68) hx hb dX6_account_1 (by decide +kernel) (by decide +kernel) rfl (by decide) ?_
      have et_w : tN (nI 0) = 0 := rfl
      refine lv_aload_n hx hb dX6_account_68 rfl (lv_at hl 0 rfl) ?_
      refine va_get (D := D) (ci := 8) (v := .ref ((cAd AD 1) 0)) (C := RX6) (T := TX6) (N := 11) hx hb hts in_X6 hown hK.1 hPo 0 rfl rfl 0 (by decide) fl_10 (fun _ h9 => h9) rfl dX6_account_69 ?_
      refine va_get (D := D) (ci := 3) (v := .int (nI (hs_c u 0))) (C := RX1) (T := TX1) (N := 12) hx hb hts in_X1 hown hK.1 hPh 0 rfl rfl 5 (by decide) fl_64 (fun _ h9 => h9) rfl dX6_account_72 ?_
      refine nv_to (G 0) (congrArg nI ((hR.c0))) ?_
      exact nv_retGX hq hx hb hr hlocks (Nat.le_of_ble_eq_true rfl) (Nat.le_of_ble_eq_true rfl) (nar_i _) (if_pos c1) (by rw [if_pos c1, et_w] <;> rfl) hS (⟨hPo, ⟨u, hR, hk, hPh⟩, hPi, hPs, hPp, hPw, hPt⟩) dX6_account_75
    · refine lv_tableIn (off := 75) (tgt := 76) hx hb dX6_account_1 (by decide +kernel) (by decide +kernel) rfl (by decide) ?_
      have et_w : tN (nI 1) = 1 := rfl
      refine lv_aload_n hx hb dX6_account_76 rfl (lv_at hl 0 rfl) ?_
      refine va_get (D := D) (ci := 8) (v := .ref ((cAd AD 1) 0)) (C := RX6) (T := TX6) (N := 11) hx hb hts in_X6 hown hK.1 hPo 0 rfl rfl 0 (by decide) fl_10 (fun _ h9 => h9) rfl dX6_account_77 ?_
      refine va_get (D := D) (ci := 3) (v := .int (nI (hs_c u 1))) (C := RX1) (T := TX1) (N := 12) hx hb hts in_X1 hown hK.1 hPh 0 rfl rfl 6 (by decide) fl_175 (fun _ h9 => h9) rfl dX6_account_80 ?_
      refine nv_to (G 1) (congrArg nI ((hR.c1))) ?_
      exact nv_retGX hq hx hb hr hlocks (Nat.le_of_ble_eq_true rfl) (Nat.le_of_ble_eq_true rfl) (nar_i _) (if_pos c1) (by rw [if_pos c1, et_w] <;> rfl) hS (⟨hPo, ⟨u, hR, hk, hPh⟩, hPi, hPs, hPp, hPw, hPt⟩) dX6_account_83
    · refine lv_tableIn (off := 83) (tgt := 84) hx hb dX6_account_1 (by decide +kernel) (by decide +kernel) rfl (by decide) ?_
      have et_w : tN (nI 2) = 2 := rfl
      refine lv_aload_n hx hb dX6_account_84 rfl (lv_at hl 0 rfl) ?_
      refine va_get (D := D) (ci := 8) (v := .ref ((cAd AD 1) 0)) (C := RX6) (T := TX6) (N := 11) hx hb hts in_X6 hown hK.1 hPo 0 rfl rfl 0 (by decide) fl_10 (fun _ h9 => h9) rfl dX6_account_85 ?_
      refine va_get (D := D) (ci := 3) (v := .int (nI (hs_c u 2))) (C := RX1) (T := TX1) (N := 12) hx hb hts in_X1 hown hK.1 hPh 0 rfl rfl 7 (by decide) fl_247 (fun _ h9 => h9) rfl dX6_account_88 ?_
      refine nv_to (G 2) (congrArg nI ((hR.c2))) ?_
      exact nv_retGX hq hx hb hr hlocks (Nat.le_of_ble_eq_true rfl) (Nat.le_of_ble_eq_true rfl) (nar_i _) (if_pos c1) (by rw [if_pos c1, et_w] <;> rfl) hS (⟨hPo, ⟨u, hR, hk, hPh⟩, hPi, hPs, hPp, hPw, hPt⟩) dX6_account_91
    · refine lv_tableIn (off := 91) (tgt := 92) hx hb dX6_account_1 (by decide +kernel) (by decide +kernel) rfl (by decide) ?_
      have et_w : tN (nI 3) = 3 := rfl
      refine lv_aload_n hx hb dX6_account_92 rfl (lv_at hl 0 rfl) ?_
      refine va_get (D := D) (ci := 8) (v := .ref ((cAd AD 1) 0)) (C := RX6) (T := TX6) (N := 11) hx hb hts in_X6 hown hK.1 hPo 0 rfl rfl 0 (by decide) fl_10 (fun _ h9 => h9) rfl dX6_account_93 ?_
      refine nv_kS (va_runV (As := []) (rest := []) ⟨hx, hb, hml, hown, hts⟩ (c_X1_openDoors l hR hG) (cwV 0 hts gX6_account_X1_openDoors rfl rfl rfl (by decide +kernel) ⟨Nat.le_of_ble_eq_true rfl, Nat.le_of_ble_eq_true rfl⟩) (nt_pV hT hS hPh (va_recv hK.1 hPh (ci := 3) (q0 := 0) rfl rfl)) rfl rfl hl.1 rfl (lv_room (Nat.le_of_ble_eq_true rfl)) dX6_account_96 ⟨Nat.le_of_ble_eq_true rfl, Nat.le_of_ble_eq_true rfl⟩) ?_
      exact nv_retGX hq hx hb hr hlocks (Nat.le_of_ble_eq_true rfl) (Nat.le_of_ble_eq_true rfl) (nar_i _) (if_pos c1) (by rw [if_pos c1, et_w] <;> rfl) hS (⟨hPo, ⟨u, hR, hk, hPh⟩, hPi, hPs, hPp, hPw, hPt⟩) dX6_account_99
    · refine lv_tableIn (off := 99) (tgt := 100) hx hb dX6_account_1 (by decide +kernel) (by decide +kernel) rfl (by decide) ?_
      have et_w : tN (nI 4) = 4 := rfl
      refine lv_aload_n hx hb dX6_account_100 rfl (lv_at hl 0 rfl) ?_
      refine va_get (D := D) (ci := 8) (v := .ref ((cAd AD 1) 0)) (C := RX6) (T := TX6) (N := 11) hx hb hts in_X6 hown hK.1 hPo 0 rfl rfl 0 (by decide) fl_10 (fun _ h9 => h9) rfl dX6_account_101 ?_
      refine nv_kS (va_runV (As := []) (rest := []) ⟨hx, hb, hml, hown, hts⟩ (c_X1_latchesDown l hR hG) (cwV 0 hts gX6_account_X1_latchesDown rfl rfl rfl (by decide +kernel) ⟨Nat.le_of_ble_eq_true rfl, Nat.le_of_ble_eq_true rfl⟩) (nt_pV hT hS hPh (va_recv hK.1 hPh (ci := 3) (q0 := 0) rfl rfl)) rfl rfl hl.1 rfl (lv_room (Nat.le_of_ble_eq_true rfl)) dX6_account_104 ⟨Nat.le_of_ble_eq_true rfl, Nat.le_of_ble_eq_true rfl⟩) ?_
      exact nv_retGX hq hx hb hr hlocks (Nat.le_of_ble_eq_true rfl) (Nat.le_of_ble_eq_true rfl) (nar_i _) (if_pos c1) (by rw [if_pos c1, et_w] <;> rfl) hS (⟨hPo, ⟨u, hR, hk, hPh⟩, hPi, hPs, hPp, hPw, hPt⟩) dX6_account_107
    · refine lv_tableIn (off := 107) (tgt := 108) hx hb dX6_account_1 (by decide +kernel) (by decide +kernel) rfl (by decide) ?_
      have et_w : tN (nI 5) = 5 := rfl
      refine lv_aload_n hx hb dX6_account_108 rfl (lv_at hl 0 rfl) ?_
      refine va_get (D := D) (ci := 8) (v := .ref ((cAd AD 1) 0)) (C := RX6) (T := TX6) (N := 11) hx hb hts in_X6 hown hK.1 hPo 0 rfl rfl 0 (by decide) fl_10 (fun _ h9 => h9) rfl dX6_account_109 ?_
      refine va_get (D := D) (ci := 3) (v := .int (nI (hs_c u 3))) (C := RX1) (T := TX1) (N := 12) hx hb hts in_X1 hown hK.1 hPh 0 rfl rfl 8 (by decide) fl_330 (fun _ h9 => h9) rfl dX6_account_112 ?_
      refine nv_to (G 4) (congrArg nI ((hR.c3))) ?_
      refine lv_aload_n hx hb dX6_account_115 rfl (lv_at hl 0 rfl) ?_
      refine va_get (D := D) (ci := 8) (v := .ref ((cAd AD 1) 0)) (C := RX6) (T := TX6) (N := 11) hx hb hts in_X6 hown hK.1 hPo 0 rfl rfl 0 (by decide) fl_10 (fun _ h9 => h9) rfl dX6_account_116 ?_
      refine va_get (D := D) (ci := 3) (v := .int (nI (hs_c u 4))) (C := RX1) (T := TX1) (N := 12) hx hb hts in_X1 hown hK.1 hPh 0 rfl rfl 9 (by decide) fl_333 (fun _ h9 => h9) rfl dX6_account_119 ?_
      refine nv_to (G 5) (congrArg nI ((hR.c4))) ?_
      refine nv_iadd hx hb dX6_account_122 ?_
      refine nv_to (G 3) (congrArg nI hG.2.2.2.2.2.2.2.2.2.1.symm) ?_
      exact nv_retGX hq hx hb hr hlocks (Nat.le_of_ble_eq_true rfl) (Nat.le_of_ble_eq_true rfl) (nar_i _) (if_pos c1) (by rw [if_pos c1, et_w] <;> rfl) hS (⟨hPo, ⟨u, hR, hk, hPh⟩, hPi, hPs, hPp, hPw, hPt⟩) dX6_account_123
    · refine lv_tableIn (off := 123) (tgt := 124) hx hb dX6_account_1 (by decide +kernel) (by decide +kernel) rfl (by decide) ?_
      have et_w : tN (nI 6) = 6 := rfl
      refine lv_aload_n hx hb dX6_account_124 rfl (lv_at hl 0 rfl) ?_
      refine va_get (D := D) (ci := 8) (v := .ref ((cAd AD 1) 0)) (C := RX6) (T := TX6) (N := 11) hx hb hts in_X6 hown hK.1 hPo 0 rfl rfl 0 (by decide) fl_10 (fun _ h9 => h9) rfl dX6_account_125 ?_
      refine va_get (D := D) (ci := 3) (v := .int (nI (hs_c u 3))) (C := RX1) (T := TX1) (N := 12) hx hb hts in_X1 hown hK.1 hPh 0 rfl rfl 8 (by decide) fl_330 (fun _ h9 => h9) rfl dX6_account_128 ?_
      refine nv_to (G 4) (congrArg nI ((hR.c3))) ?_
      exact nv_retGX hq hx hb hr hlocks (Nat.le_of_ble_eq_true rfl) (Nat.le_of_ble_eq_true rfl) (nar_i _) (if_pos c1) (by rw [if_pos c1, et_w] <;> rfl) hS (⟨hPo, ⟨u, hR, hk, hPh⟩, hPi, hPs, hPp, hPw, hPt⟩) dX6_account_131
    · refine lv_tableIn (off := 131) (tgt := 132) hx hb dX6_account_1 (by decide +kernel) (by decide +kernel) rfl (by decide) ?_
      have et_w : tN (nI 7) = 7 := rfl
      refine lv_aload_n hx hb dX6_account_132 rfl (lv_at hl 0 rfl) ?_
      refine va_get (D := D) (ci := 8) (v := .ref ((cAd AD 1) 0)) (C := RX6) (T := TX6) (N := 11) hx hb hts in_X6 hown hK.1 hPo 0 rfl rfl 0 (by decide) fl_10 (fun _ h9 => h9) rfl dX6_account_133 ?_
      refine va_get (D := D) (ci := 3) (v := .int (nI (hs_c u 4))) (C := RX1) (T := TX1) (N := 12) hx hb hts in_X1 hown hK.1 hPh 0 rfl rfl 9 (by decide) fl_333 (fun _ h9 => h9) rfl dX6_account_136 ?_
      refine nv_to (G 5) (congrArg nI ((hR.c4))) ?_
      exact nv_retGX hq hx hb hr hlocks (Nat.le_of_ble_eq_true rfl) (Nat.le_of_ble_eq_true rfl) (nar_i _) (if_pos c1) (by rw [if_pos c1, et_w] <;> rfl) hS (⟨hPo, ⟨u, hR, hk, hPh⟩, hPi, hPs, hPp, hPw, hPt⟩) dX6_account_139
    · refine lv_tableIn (off := 139) (tgt := 140) hx hb dX6_account_1 (by decide +kernel) (by decide +kernel) rfl (by decide) ?_
      have et_w : tN (nI 8) = 8 := rfl
      refine lv_aload_n hx hb dX6_account_140 rfl (lv_at hl 0 rfl) ?_
      refine va_get (D := D) (ci := 8) (v := .ref ((cAd AD 1) 0)) (C := RX6) (T := TX6) (N := 11) hx hb hts in_X6 hown hK.1 hPo 0 rfl rfl 0 (by decide) fl_10 (fun _ h9 => h9) rfl dX6_account_141 ?_
      refine va_get (D := D) (ci := 3) (v := .int (nI (hs_c u 5))) (C := RX1) (T := TX1) (N := 12) hx hb hts in_X1 hown hK.1 hPh 0 rfl rfl 10 (by decide) fl_334 (fun _ h9 => h9) rfl dX6_account_144 ?_
      refine nv_to (G 6) (congrArg nI ((hR.c5))) ?_
      exact nv_retGX hq hx hb hr hlocks (Nat.le_of_ble_eq_true rfl) (Nat.le_of_ble_eq_true rfl) (nar_i _) (if_pos c1) (by rw [if_pos c1, et_w] <;> rfl) hS (⟨hPo, ⟨u, hR, hk, hPh⟩, hPi, hPs, hPp, hPw, hPt⟩) dX6_account_147
    · refine lv_tableIn (off := 147) (tgt := 148) hx hb dX6_account_1 (by decide +kernel) (by decide +kernel) rfl (by decide) ?_
      have et_w : tN (nI 9) = 9 := rfl
      refine lv_aload_n hx hb dX6_account_148 rfl (lv_at hl 0 rfl) ?_
      refine va_get (D := D) (ci := 8) (v := .ref ((cAd AD 1) 0)) (C := RX6) (T := TX6) (N := 11) hx hb hts in_X6 hown hK.1 hPo 0 rfl rfl 0 (by decide) fl_10 (fun _ h9 => h9) rfl dX6_account_149 ?_
      refine va_get (D := D) (ci := 3) (v := .int (nI (hs_c u 6))) (C := RX1) (T := TX1) (N := 12) hx hb hts in_X1 hown hK.1 hPh 0 rfl rfl 11 (by decide) fl_337 (fun _ h9 => h9) rfl dX6_account_152 ?_
      refine nv_to (G 7) (congrArg nI ((hR.c6))) ?_
      exact nv_retGX hq hx hb hr hlocks (Nat.le_of_ble_eq_true rfl) (Nat.le_of_ble_eq_true rfl) (nar_i _) (if_pos c1) (by rw [if_pos c1, et_w] <;> rfl) hS (⟨hPo, ⟨u, hR, hk, hPh⟩, hPi, hPs, hPp, hPw, hPt⟩) dX6_account_155
    · refine lv_tableIn (off := 155) (tgt := 156) hx hb dX6_account_1 (by decide +kernel) (by decide +kernel) rfl (by decide) ?_
      have et_w : tN (nI 10) = 10 := rfl
      refine lv_aload_n hx hb dX6_account_156 rfl (lv_at hl 0 rfl) ?_
      refine va_get (D := D) (ci := 8) (v := .ref ((cAd AD 1) 0)) (C := RX6) (T := TX6) (N := 11) hx hb hts in_X6 hown hK.1 hPo 0 rfl rfl 0 (by decide) fl_10 (fun _ h9 => h9) rfl dX6_account_157 ?_
      refine nv_kS (va_runV (As := []) (rest := []) ⟨hx, hb, hml, hown, hts⟩ (c_X1_unlikeEndings l hR hG) (cwV 0 hts gX6_account_X1_unlikeEndings rfl rfl rfl (by decide +kernel) ⟨Nat.le_of_ble_eq_true rfl, Nat.le_of_ble_eq_true rfl⟩) (nt_pV hT hS hPh (va_recv hK.1 hPh (ci := 3) (q0 := 0) rfl rfl)) rfl rfl hl.1 rfl (lv_room (Nat.le_of_ble_eq_true rfl)) dX6_account_160 ⟨Nat.le_of_ble_eq_true rfl, Nat.le_of_ble_eq_true rfl⟩) ?_
      exact nv_retGX hq hx hb hr hlocks (Nat.le_of_ble_eq_true rfl) (Nat.le_of_ble_eq_true rfl) (nar_i _) (if_pos c1) (by rw [if_pos c1, et_w] <;> rfl) hS (⟨hPo, ⟨u, hR, hk, hPh⟩, hPi, hPs, hPp, hPw, hPt⟩) dX6_account_163
    · refine lv_tableIn (off := 163) (tgt := 164) hx hb dX6_account_1 (by decide +kernel) (by decide +kernel) rfl (by decide) ?_
      have et_w : tN (nI 11) = 11 := rfl
      refine lv_aload_n hx hb dX6_account_164 rfl (lv_at hl 0 rfl) ?_
      refine va_get (D := D) (ci := 8) (v := .ref ((cAd AD 162) 0)) (C := RX6) (T := TX6) (N := 11) hx hb hts in_X6 hown hK.1 hPo 0 rfl rfl 5 (by decide) fl_43 (fun _ h9 => h9) rfl dX6_account_165 ?_
      obtain ⟨V9, SA9, o9, pl9, vc9, hSA9, hP⟩ := id hPi
      refine va_get (D := D) (ci := 4) (v := .int (nI ty)) (C := RX2) (T := TX2) (N := 6) hx hb hts in_X2 hown hK.1 hP 0 rfl rfl 3 (by decide) fl_343 (fun _ h9 => h9) rfl dX6_account_168 ?_
      exact nv_retGX hq hx hb hr hlocks (Nat.le_of_ble_eq_true rfl) (Nat.le_of_ble_eq_true rfl) (nar_i _) (if_pos c1) (by rw [if_pos c1, et_w] <;> rfl) hS (⟨hPo, ⟨u, hR, hk, hPh⟩, hPi, hPs, hPp, hPw, hPt⟩) dX6_account_171
    · refine lv_tableIn (off := 171) (tgt := 172) hx hb dX6_account_1 (by decide +kernel) (by decide +kernel) rfl (by decide) ?_
      have et_w : tN (nI 12) = 12 := rfl
      refine lv_aload_n hx hb dX6_account_172 rfl (lv_at hl 0 rfl) ?_
      refine va_get (D := D) (ci := 8) (v := .ref ((cAd AD 29) 0)) (C := RX6) (T := TX6) (N := 11) hx hb hts in_X6 hown hK.1 hPo 0 rfl rfl 2 (by decide) fl_22 (fun _ h9 => h9) rfl dX6_account_173 ?_
      obtain ⟨f9, _, hP, _⟩ := id hPp
      refine va_get (D := D) (ci := 5) (v := .int (nI ch)) (C := RX3) (T := TX3) (N := 3) hx hb hts in_X3 hown hK.1 hP 0 rfl rfl 2 (by decide) fl_344 (fun _ h9 => h9) rfl dX6_account_176 ?_
      exact nv_retGX hq hx hb hr hlocks (Nat.le_of_ble_eq_true rfl) (Nat.le_of_ble_eq_true rfl) (nar_i _) (if_pos c1) (by rw [if_pos c1, et_w] <;> rfl) hS (⟨hPo, ⟨u, hR, hk, hPh⟩, hPi, hPs, hPp, hPw, hPt⟩) dX6_account_179
  · refine lv_tableOut (tgt := 180) hx hb dX6_account_1 (by simp only [iR] at c1; omega) (by decide) ?_
    exact nv_throwW (ws := wsX6_account) (ik := 168) (is := 347) (ic := 172) (cls := "java/lang/IllegalArgumentException") (text := "there is no such account") (names := ["java/lang/RuntimeException", "java/lang/Exception"]) hq hx hb hl9 hown hts hT xIAE_fit ⟨by decide +kernel, by decide +kernel⟩ ⟨by decide +kernel, by decide +kernel⟩ (fun w hw => List.mem_cons_of_mem _ (List.mem_append_left _ (List.mem_append_right _ hw))) xIAE_bad xIAE_ok hS (hl.1.trans hml.symm) dX6_account_180 dX6_account_183 dX6_account_184 dX6_account_187 dX6_account_190 hout (by decide) (Nat.le_of_ble_eq_true rfl) (Nat.le_of_ble_eq_true rfl) (Nat.le_of_ble_eq_true rfl) hlocks (Nat.le_of_ble_eq_true rfl) (Nat.le_of_ble_eq_true rfl) (by rw [if_neg c1]; exact Nat.succ_ne_zero _) (by rw [if_neg c1] <;> rfl) (fun H1 h9 => (cJ.grow (show cJ D cI cC cD cR AD u Sv Hi In Le hs ch ty wy ln ea ra wd _ from ⟨hPo, hPh, hPi, hPs, hPp, hPw, hPt⟩) h9).W hR hk)

set_option maxHeartbeats 1000000 in
set_option maxRecDepth 100000 in
theorem c_X6_doorOf (l : Launch) (hl9 : l.stackTraces = false) {D : va_G} {cI cC cD cR : ClassId} {sa : sA} {A : Nat → Prop} {AD : Nat → Nat} {G Sv Hi In Le : Nat → Nat} {b hs ch ty wy ln : Nat} {ea ra wd : Int32} (hG : gWf b G) (hI : cInj AD) (hAA : ∀ i, i < 165 → A (AD i)) (d w : Int32) : vx_Met l yX6_doorOf wsX6_doorOf ({ frames := 7, cells := 2, slots := 12, locals := 103 }) (va_Pc [.ref (AD 0), .int d, .int w] (tPre D [(cI, .int), (cC, .char), (cD, .object "DoorDialect$Door"), (cR, .object "DoorDialect$House")] nN sa A (cW D cI cC cD cR AD G Sv Hi In Le hs ch ty wy ln ea ra wd))) (gQX (if iR d (G 0) then (if iR w 11 then 0 else 2) else 1) ((if iR d (G 0) then (if iR w 11 then qDoor G (tN d) (tN w) else 0) else 0)) (cW D cI cC cD cR AD G Sv Hi In Le hs ch ty wy ln ea ra wd) A) (xQ ["java/lang/IndexOutOfBoundsException", "java/lang/IllegalArgumentException"] (if iR d (G 0) then (if iR w 11 then 0 else 2) else 1) (cW D cI cC cD cR AD G Sv Hi In Le hs ch ty wy ln ea ra wd) A) 2 12 A := by
  refine nv_metX (cc := cX6_doorOf) (maxL := 4) (ret := (some .int)) (by decide) rfl (Nat.le_of_ble_eq_true rfl) ?_
  intro p0 e0 s m0 args below meth c0 Q hq hargs hnA hout hpre ls hl
  obtain ⟨hx, hb, hr, hts, hown, hlocks, hml⟩ := hnA
  obtain ⟨hP, hT⟩ := hpre
  have hK := hT.1
  have hown : s.vm.findClass RX6 = some m0.cls := hown
  obtain ⟨hPo, ⟨u, hR, hk, hPh⟩, hPi, hPs, hPp, hPw, hPt⟩ := hP
  have hPo : va_P D vwCl (cOb AD (hs) (wy) (wd) (ea) (ra)) s.heap := hPo
  have hPh : va_P D vwCl (hw cI cD (cAd AD 1) u) s.heap := hPh
  have hl : lv_has ls 4 [(0, .ref (AD 0)), (1, .int d), (2, .int w)] := hl
  have hS : va_S A s.heap s.heap [] := va_S.rf
  have in_X0 : ∀ w ∈ wsX00, w ∈ wsX6_doorOf := by decide +kernel
  have in_X1 : ∀ w ∈ wsX10, w ∈ wsX6_doorOf := by decide +kernel
  have in_X6 : ∀ w ∈ wsX60, w ∈ wsX6_doorOf := by decide +kernel
  have fl_10 := hts (.fieldLink RX6 10 "DoorDialect" "house" "LDoorDialect$House;") (by decide +kernel)
  have fl_128 := hts (.fieldLink RX6 128 "DoorDialect$House" "doors" "[LDoorDialect$Door;") (by decide +kernel)
  have fl_132 := hts (.fieldLink RX6 132 "DoorDialect$Door" "declension" "I") (by decide +kernel)
  have fl_137 := hts (.fieldLink RX6 137 "DoorDialect$Door" "gender" "I") (by decide +kernel)
  have fl_140 := hts (.fieldLink RX6 140 "DoorDialect$Door" "number" "I") (by decide +kernel)
  have fl_143 := hts (.fieldLink RX6 143 "DoorDialect$Door" "threshold" "I") (by decide +kernel)
  have fl_150 := hts (.fieldLink RX6 150 "DoorDialect$Door" "wrongKnocks" "I") (by decide +kernel)
  have fl_153 := hts (.fieldLink RX6 153 "DoorDialect$Door" "isLatched" "Z") (by decide +kernel)
  have fl_156 := hts (.fieldLink RX6 156 "DoorDialect$Door" "isOpen" "Z") (by decide +kernel)
  have fl_159 := hts (.fieldLink RX6 159 "DoorDialect$Door" "oneRoom" "I") (by decide +kernel)
  have fl_162 := hts (.fieldLink RX6 162 "DoorDialect$Door" "otherRoom" "I") (by decide +kernel)
  have fl_165 := hts (.fieldLink RX6 165 "DoorDialect$Door" "knocks" "I") (by decide +kernel)
  obtain ⟨g_b, g_k, g_0, g_1, g_2, g_e, g_d, g_t, g_y, g_s, g_h⟩ := id hG
  have zq0 : G 0 = G 0 := rfl
  have l3 := hG.lt (k := 3) (by decide)
  have l4 := hG.lt (k := 4) (by decide)
  have l5 := hG.lt (k := 5) (by decide)
  refine lv_aload_n hx hb dX6_doorOf_0 rfl (lv_at hl 0 rfl) ?_
  refine lv_iload_n hx hb dX6_doorOf_1 rfl (lv_at hl 1 rfl) ?_
  refine nv_kGXv (vx_runV (As := [.int d]) (rest := []) ⟨hx, hb, hml, hown, hts⟩ (c_X6_requireDoor l hl9 (A := fun _ => False) (J := cJ D cI cC cD cR AD u Sv Hi In Le hs ch ty wy ln ea ra wd) (fun _ _ h9 h8 => h8.grow h9) (fun _ h9 => h9.1) (fun _ h9 => h9.2.1) hR hG ((d))) (cwV 1 hts gX6_doorOf_X6_requireDoor rfl rfl rfl (by decide +kernel) ⟨Nat.le_of_ble_eq_true rfl, Nat.le_of_ble_eq_true rfl⟩) (nt_pVn hT hS (fun _ h9 => h9.elim) ⟨hPo, hPh, hPi, hPs, hPp, hPw, hPt⟩ (va_recv hK.1 hPo (ci := 8) (q0 := 0) rfl rfl)) rfl rfl hl.1 rfl (lv_room (Nat.le_of_ble_eq_true rfl)) dX6_doorOf_2 ⟨Nat.le_of_ble_eq_true rfl, Nat.le_of_ble_eq_true rfl⟩) hS (fun _ h9 => h9.elim) hq hout hlocks (Nat.le_of_ble_eq_true rfl) (Nat.le_of_ble_eq_true rfl) (fun H h0 hP1 hK1 => ?_) (fun H locs h0 hP1 hK1 hS => ?_)
  · have hn : ¬ iR ((d)) (G 0) := fun q => h0 (if_pos q)
    exact ⟨by rw [if_neg hn]; exact Nat.one_ne_zero, by first | rw [if_neg hn, if_neg hn] <;> rfl | rw [if_neg hn] <;> rfl, hP1.W hR hk⟩
  obtain ⟨hPo, hPh, hPi, hPs, hPp, hPw, hPt⟩ := hP1
  have c1 : iR ((d)) (G 0) := if01 h0
  have c1k := c1
  obtain ⟨dk, h_dk, rfl⟩ := iR_of c1k (by omega)
  have et_dk : tN (nI dk) = dk := tN_nI (by omega)
  obtain ⟨w_a, w_g, w_n, w_s, w_w, w_l, w_o, w_x, w_y, w_1, w_2, w_3, w_4⟩ := hG.door (d := dk) (by omega)
  have hcc := gWf_case hG (d := dk) (by omega)
  have hee := gEnd_lt hG (d := dk) (by omega)
  refine lv_aload_n hx hb dX6_doorOf_5 rfl (lv_at hl 0 rfl) ?_
  refine va_get (D := D) (ci := 8) (v := .ref ((cAd AD 1) 0)) (C := RX6) (T := TX6) (N := 11) hx hb hts in_X6 hown hK.1 hPo 0 rfl rfl 0 (by decide) fl_10 (fun _ h9 => h9) rfl dX6_doorOf_6 ?_
  refine va_get (D := D) (ci := 3) (v := .ref ((cAd AD 1) 1)) (C := RX1) (T := TX1) (N := 12) hx hb hts in_X1 hown hK.1 hPh 0 rfl rfl 0 (by decide) fl_128 (fun _ h9 => h9) rfl dX6_doorOf_9 ?_
  refine lv_iload_n hx hb dX6_doorOf_12 rfl (lv_at hl 1 rfl) ?_
  refine nv_aldq (i := dk) hx hb hK.1 hPh 1 2 rfl rfl (by omega) (by decide) dX6_doorOf_13 ?_
  refine lv_astore_n (lv' := [(3, .ref ((cAd AD 1) (6 + dk))), (0, .ref (AD 0)), (1, .int (nI dk)), (2, .int w)]) hx hb dX6_doorOf_14 rfl hl (by decide) rfl (fun ls hl => ?_)
  refine lv_iload_n hx hb dX6_doorOf_15 rfl (lv_at hl 3 rfl) ?_
  by_cases c2 : iR (w) 11
  · obtain ⟨j3, hj4, rfl⟩ := iR_of c2 (by decide)
    rcases (show j3 = 0 ∨ j3 = 1 ∨ j3 = 2 ∨ j3 = 3 ∨ j3 = 4 ∨ j3 = 5 ∨ j3 = 6 ∨ j3 = 7 ∨ j3 = 8 ∨ j3 = 9 ∨ j3 = 10 by omega) with rfl | rfl | rfl | rfl | rfl | rfl | rfl | rfl | rfl | rfl | rfl
    · refine lv_tableIn (off := 60) (tgt := 76) hx hb dX6_doorOf_16 (by decide +kernel) (by decide +kernel) rfl (by decide) ?_
      have et_w : tN (nI 0) = 0 := rfl
      refine lv_aload_n hx hb dX6_doorOf_76 rfl (lv_at hl 0 rfl) ?_
      refine va_get (D := D) (ci := 2) (v := .int (nI (hs_d u (dk) 0))) (C := RX0) (T := TX0) (N := 10) hx hb hts in_X0 hown hK.1 hPh (6 + (dk)) (hw_at (dk) (by omega)) rfl 0 (by decide) fl_132 (fun _ h9 => h9) rfl dX6_doorOf_77 ?_
      refine nv_to (G (32 + dk)) (congrArg nI ((hR.d0 (d := dk) (by rw [zq0]; omega)))) ?_
      exact nv_retGX hq hx hb hr hlocks (Nat.le_of_ble_eq_true rfl) (Nat.le_of_ble_eq_true rfl) (nar_i _) (by rw [if_pos c1, if_pos c2]) (by rw [if_pos c1, et_dk, if_pos c2, et_w] <;> rfl) hS (⟨hPo, ⟨u, hR, hk, hPh⟩, hPi, hPs, hPp, hPw, hPt⟩) dX6_doorOf_80
    · refine lv_tableIn (off := 65) (tgt := 81) hx hb dX6_doorOf_16 (by decide +kernel) (by decide +kernel) rfl (by decide) ?_
      have et_w : tN (nI 1) = 1 := rfl
      refine lv_aload_n hx hb dX6_doorOf_81 rfl (lv_at hl 0 rfl) ?_
      refine va_get (D := D) (ci := 2) (v := .int (nI (hs_d u (dk) 1))) (C := RX0) (T := TX0) (N := 10) hx hb hts in_X0 hown hK.1 hPh (6 + (dk)) (hw_at (dk) (by omega)) rfl 1 (by decide) fl_137 (fun _ h9 => h9) rfl dX6_doorOf_82 ?_
      refine nv_to (G (40 + dk)) (congrArg nI ((hR.d1 (d := dk) (by rw [zq0]; omega)))) ?_
      exact nv_retGX hq hx hb hr hlocks (Nat.le_of_ble_eq_true rfl) (Nat.le_of_ble_eq_true rfl) (nar_i _) (by rw [if_pos c1, if_pos c2]) (by rw [if_pos c1, et_dk, if_pos c2, et_w] <;> rfl) hS (⟨hPo, ⟨u, hR, hk, hPh⟩, hPi, hPs, hPp, hPw, hPt⟩) dX6_doorOf_85
    · refine lv_tableIn (off := 70) (tgt := 86) hx hb dX6_doorOf_16 (by decide +kernel) (by decide +kernel) rfl (by decide) ?_
      have et_w : tN (nI 2) = 2 := rfl
      refine lv_aload_n hx hb dX6_doorOf_86 rfl (lv_at hl 0 rfl) ?_
      refine va_get (D := D) (ci := 2) (v := .int (nI (hs_d u (dk) 2))) (C := RX0) (T := TX0) (N := 10) hx hb hts in_X0 hown hK.1 hPh (6 + (dk)) (hw_at (dk) (by omega)) rfl 2 (by decide) fl_140 (fun _ h9 => h9) rfl dX6_doorOf_87 ?_
      refine nv_to (G (48 + dk)) (congrArg nI ((hR.d2 (d := dk) (by rw [zq0]; omega)))) ?_
      exact nv_retGX hq hx hb hr hlocks (Nat.le_of_ble_eq_true rfl) (Nat.le_of_ble_eq_true rfl) (nar_i _) (by rw [if_pos c1, if_pos c2]) (by rw [if_pos c1, et_dk, if_pos c2, et_w] <;> rfl) hS (⟨hPo, ⟨u, hR, hk, hPh⟩, hPi, hPs, hPp, hPw, hPt⟩) dX6_doorOf_90
    · refine lv_tableIn (off := 75) (tgt := 91) hx hb dX6_doorOf_16 (by decide +kernel) (by decide +kernel) rfl (by decide) ?_
      have et_w : tN (nI 3) = 3 := rfl
      refine lv_aload_n hx hb dX6_doorOf_91 rfl (lv_at hl 0 rfl) ?_
      refine va_get (D := D) (ci := 2) (v := .int (nI (hs_d u (dk) 5) - nI 1)) (C := RX0) (T := TX0) (N := 10) hx hb hts in_X0 hown hK.1 hPh (6 + (dk)) (hw_at (dk) (by omega)) rfl 5 (by decide) fl_143 (fun _ h9 => h9) rfl dX6_doorOf_92 ?_
      refine iv_to (nI (G (56 + dk)) - nI 1) (congrArg (fun z => nI z - nI 1) (hR.d5 (d := dk) (by omega))) ?_
      exact nv_retGX hq hx hb hr hlocks (Nat.le_of_ble_eq_true rfl) (Nat.le_of_ble_eq_true rfl) (nar_i _) (by rw [if_pos c1, if_pos c2]) (by rw [if_pos c1, et_dk, if_pos c2, et_w] <;> rfl) hS (⟨hPo, ⟨u, hR, hk, hPh⟩, hPi, hPs, hPp, hPw, hPt⟩) dX6_doorOf_95
    · refine lv_tableIn (off := 80) (tgt := 96) hx hb dX6_doorOf_16 (by decide +kernel) (by decide +kernel) rfl (by decide) ?_
      have et_w : tN (nI 4) = 4 := rfl
      refine lv_aload_n hx hb dX6_doorOf_96 rfl (lv_at hl 1 rfl) ?_
      refine va_get (D := D) (ci := 8) (v := .ref ((cAd AD 1) 0)) (C := RX6) (T := TX6) (N := 11) hx hb hts in_X6 hown hK.1 hPo 0 rfl rfl 0 (by decide) fl_10 (fun _ h9 => h9) rfl dX6_doorOf_97 ?_
      refine lv_aload_n hx hb dX6_doorOf_100 rfl (lv_at hl 0 rfl) ?_
      refine nv_kS (va_runV (As := [.ref ((cAd AD 1) (6 + dk))]) (rest := []) ⟨hx, hb, hml, hown, hts⟩ (c_X1_caseOf l hR hG dk (by omega)) (cwV 1 hts gX6_doorOf_X1_caseOf rfl rfl rfl (by decide +kernel) ⟨Nat.le_of_ble_eq_true rfl, Nat.le_of_ble_eq_true rfl⟩) (nt_pV hT hS hPh (va_recv hK.1 hPh (ci := 3) (q0 := 0) rfl rfl)) rfl rfl hl.1 rfl (lv_room (Nat.le_of_ble_eq_true rfl)) dX6_doorOf_101 ⟨Nat.le_of_ble_eq_true rfl, Nat.le_of_ble_eq_true rfl⟩) ?_
      exact nv_retGX hq hx hb hr hlocks (Nat.le_of_ble_eq_true rfl) (Nat.le_of_ble_eq_true rfl) (nar_i _) (by rw [if_pos c1, if_pos c2]) (by rw [if_pos c1, et_dk, if_pos c2, et_w] <;> rfl) hS (⟨hPo, ⟨u, hR, hk, hPh⟩, hPi, hPs, hPp, hPw, hPt⟩) dX6_doorOf_104
    · refine lv_tableIn (off := 89) (tgt := 105) hx hb dX6_doorOf_16 (by decide +kernel) (by decide +kernel) rfl (by decide) ?_
      have et_w : tN (nI 5) = 5 := rfl
      refine lv_aload_n hx hb dX6_doorOf_105 rfl (lv_at hl 0 rfl) ?_
      refine va_get (D := D) (ci := 2) (v := .int (nI (hs_d u (dk) 6))) (C := RX0) (T := TX0) (N := 10) hx hb hts in_X0 hown hK.1 hPh (6 + (dk)) (hw_at (dk) (by omega)) rfl 6 (by decide) fl_150 (fun _ h9 => h9) rfl dX6_doorOf_106 ?_
      refine nv_to (G (64 + dk)) (congrArg nI ((hR.d6 (d := dk) (by rw [zq0]; omega)))) ?_
      exact nv_retGX hq hx hb hr hlocks (Nat.le_of_ble_eq_true rfl) (Nat.le_of_ble_eq_true rfl) (nar_i _) (by rw [if_pos c1, if_pos c2]) (by rw [if_pos c1, et_dk, if_pos c2, et_w] <;> rfl) hS (⟨hPo, ⟨u, hR, hk, hPh⟩, hPi, hPs, hPp, hPw, hPt⟩) dX6_doorOf_109
    · refine lv_tableIn (off := 94) (tgt := 110) hx hb dX6_doorOf_16 (by decide +kernel) (by decide +kernel) rfl (by decide) ?_
      have et_w : tN (nI 6) = 6 := rfl
      refine lv_aload_n hx hb dX6_doorOf_110 rfl (lv_at hl 0 rfl) ?_
      refine va_get (D := D) (ci := 2) (v := .int (nI (hs_d u (dk) 8))) (C := RX0) (T := TX0) (N := 10) hx hb hts in_X0 hown hK.1 hPh (6 + (dk)) (hw_at (dk) (by omega)) rfl 8 (by decide) fl_153 (fun _ h9 => h9) rfl dX6_doorOf_111 ?_
      refine nv_to (G (72 + dk)) (congrArg nI ((hR.d8 (d := dk) (by rw [zq0]; omega)))) ?_
      refine nv_jn (α := Nat) (fun r => W p0 l e0 ({ frames := 7, cells := 2, slots := 12, locals := 103 }) s m0 args below meth c0 H locs 1 6 Q (F0 m0 122 ls (.int (nI r) :: []))) ((if G (72 + dk) = 0 then 0 else 1)) (fun r er => ?_) (fun hJ => ?_)
      · subst er
        refine nv_to (G (72 + dk)) (nv_z01 (by omega)) ?_
        exact nv_retGX hq hx hb hr hlocks (Nat.le_of_ble_eq_true rfl) (Nat.le_of_ble_eq_true rfl) (nar_i _) (by rw [if_pos c1, if_pos c2]) (by rw [if_pos c1, et_dk, if_pos c2, et_w] <;> rfl) hS (⟨hPo, ⟨u, hR, hk, hPh⟩, hPi, hPs, hPp, hPw, hPt⟩) dX6_doorOf_122
      · refine nv_if_eq (tgt := 121) hx hb dX6_doorOf_114 (by decide) (by omega) (fun c5 => ?_) (fun c5 => ?_)
        · refine lv_iconst (v := nI 0) hx hb dX6_doorOf_121 (by decide) ?_
          exact hJ _ (if_pos c5).symm
        · refine lv_iconst (v := nI 1) hx hb dX6_doorOf_117 (by decide) ?_
          refine lv_goto (tgt := 122) hx hb dX6_doorOf_118 (by decide) ?_
          exact hJ _ (if_neg c5).symm
    · refine lv_tableIn (off := 107) (tgt := 123) hx hb dX6_doorOf_16 (by decide +kernel) (by decide +kernel) rfl (by decide) ?_
      have et_w : tN (nI 7) = 7 := rfl
      refine lv_aload_n hx hb dX6_doorOf_123 rfl (lv_at hl 0 rfl) ?_
      refine va_get (D := D) (ci := 2) (v := .int (nI (hs_d u (dk) 9))) (C := RX0) (T := TX0) (N := 10) hx hb hts in_X0 hown hK.1 hPh (6 + (dk)) (hw_at (dk) (by omega)) rfl 9 (by decide) fl_156 (fun _ h9 => h9) rfl dX6_doorOf_124 ?_
      refine nv_to (G (80 + dk)) (congrArg nI ((hR.d9 (d := dk) (by rw [zq0]; omega)))) ?_
      refine nv_jn (α := Nat) (fun r => W p0 l e0 ({ frames := 7, cells := 2, slots := 12, locals := 103 }) s m0 args below meth c0 H locs 1 6 Q (F0 m0 135 ls (.int (nI r) :: []))) ((if G (80 + dk) = 0 then 0 else 1)) (fun r er => ?_) (fun hJ => ?_)
      · subst er
        refine nv_to (G (80 + dk)) (nv_z01 (by omega)) ?_
        exact nv_retGX hq hx hb hr hlocks (Nat.le_of_ble_eq_true rfl) (Nat.le_of_ble_eq_true rfl) (nar_i _) (by rw [if_pos c1, if_pos c2]) (by rw [if_pos c1, et_dk, if_pos c2, et_w] <;> rfl) hS (⟨hPo, ⟨u, hR, hk, hPh⟩, hPi, hPs, hPp, hPw, hPt⟩) dX6_doorOf_135
      · refine nv_if_eq (tgt := 134) hx hb dX6_doorOf_127 (by decide) (by omega) (fun c6 => ?_) (fun c6 => ?_)
        · refine lv_iconst (v := nI 0) hx hb dX6_doorOf_134 (by decide) ?_
          exact hJ _ (if_pos c6).symm
        · refine lv_iconst (v := nI 1) hx hb dX6_doorOf_130 (by decide) ?_
          refine lv_goto (tgt := 135) hx hb dX6_doorOf_131 (by decide) ?_
          exact hJ _ (if_neg c6).symm
    · refine lv_tableIn (off := 120) (tgt := 136) hx hb dX6_doorOf_16 (by decide +kernel) (by decide +kernel) rfl (by decide) ?_
      have et_w : tN (nI 8) = 8 := rfl
      refine lv_aload_n hx hb dX6_doorOf_136 rfl (lv_at hl 0 rfl) ?_
      refine va_get (D := D) (ci := 2) (v := .int (nI (hs_d u (dk) 3))) (C := RX0) (T := TX0) (N := 10) hx hb hts in_X0 hown hK.1 hPh (6 + (dk)) (hw_at (dk) (by omega)) rfl 3 (by decide) fl_159 (fun _ h9 => h9) rfl dX6_doorOf_137 ?_
      refine nv_to (G (88 + dk)) (congrArg nI ((hR.d3 (d := dk) (by rw [zq0]; omega)))) ?_
      exact nv_retGX hq hx hb hr hlocks (Nat.le_of_ble_eq_true rfl) (Nat.le_of_ble_eq_true rfl) (nar_i _) (by rw [if_pos c1, if_pos c2]) (by rw [if_pos c1, et_dk, if_pos c2, et_w] <;> rfl) hS (⟨hPo, ⟨u, hR, hk, hPh⟩, hPi, hPs, hPp, hPw, hPt⟩) dX6_doorOf_140
    · refine lv_tableIn (off := 125) (tgt := 141) hx hb dX6_doorOf_16 (by decide +kernel) (by decide +kernel) rfl (by decide) ?_
      have et_w : tN (nI 9) = 9 := rfl
      refine lv_aload_n hx hb dX6_doorOf_141 rfl (lv_at hl 0 rfl) ?_
      refine va_get (D := D) (ci := 2) (v := .int (nI (hs_d u (dk) 4))) (C := RX0) (T := TX0) (N := 10) hx hb hts in_X0 hown hK.1 hPh (6 + (dk)) (hw_at (dk) (by omega)) rfl 4 (by decide) fl_162 (fun _ h9 => h9) rfl dX6_doorOf_142 ?_
      refine nv_to (G (96 + dk)) (congrArg nI ((hR.d4 (d := dk) (by rw [zq0]; omega)))) ?_
      exact nv_retGX hq hx hb hr hlocks (Nat.le_of_ble_eq_true rfl) (Nat.le_of_ble_eq_true rfl) (nar_i _) (by rw [if_pos c1, if_pos c2]) (by rw [if_pos c1, et_dk, if_pos c2, et_w] <;> rfl) hS (⟨hPo, ⟨u, hR, hk, hPh⟩, hPi, hPs, hPp, hPw, hPt⟩) dX6_doorOf_145
    · refine lv_tableIn (off := 130) (tgt := 146) hx hb dX6_doorOf_16 (by decide +kernel) (by decide +kernel) rfl (by decide) ?_
      have et_w : tN (nI 10) = 10 := rfl
      refine lv_aload_n hx hb dX6_doorOf_146 rfl (lv_at hl 0 rfl) ?_
      refine va_get (D := D) (ci := 2) (v := .int (nI (hs_d u (dk) 7))) (C := RX0) (T := TX0) (N := 10) hx hb hts in_X0 hown hK.1 hPh (6 + (dk)) (hw_at (dk) (by omega)) rfl 7 (by decide) fl_165 (fun _ h9 => h9) rfl dX6_doorOf_147 ?_
      refine nv_to (G (104 + dk)) (congrArg nI ((hR.d7 (d := dk) (by rw [zq0]; omega)))) ?_
      exact nv_retGX hq hx hb hr hlocks (Nat.le_of_ble_eq_true rfl) (Nat.le_of_ble_eq_true rfl) (nar_i _) (by rw [if_pos c1, if_pos c2]) (by rw [if_pos c1, et_dk, if_pos c2, et_w] <;> rfl) hS (⟨hPo, ⟨u, hR, hk, hPh⟩, hPi, hPs, hPp, hPw, hPt⟩) dX6_doorOf_150
  · refine lv_tableOut (tgt := 151) hx hb dX6_doorOf_16 (by simp only [iR] at c2; omega) (by decide) ?_
    exact nv_throwS (ws := wsX6_doorOf) (ik := 168) (is := 170) (ic := 172) (cls := "java/lang/IllegalArgumentException") (text := "a door has no such number") (names := ["java/lang/RuntimeException", "java/lang/Exception"]) hq hx hb hl9 hown hts hT xIAE_fit ⟨by decide +kernel, by decide +kernel⟩ ⟨by decide +kernel, by decide +kernel⟩ (fun w hw => List.mem_cons_of_mem _ (List.mem_append_left _ (List.mem_append_left _ (List.mem_append_right _ hw)))) xIAE_bad xIAE_ok hS (hl.1.trans hml.symm) dX6_doorOf_151 dX6_doorOf_154 dX6_doorOf_155 dX6_doorOf_157 dX6_doorOf_160 hout (by decide) (Nat.le_of_ble_eq_true rfl) (Nat.le_of_ble_eq_true rfl) (Nat.le_of_ble_eq_true rfl) hlocks (Nat.le_of_ble_eq_true rfl) (Nat.le_of_ble_eq_true rfl) (by rw [if_pos c1, if_neg c2]; exact Nat.succ_ne_zero _) (by rw [if_pos c1, if_neg c2] <;> rfl) (fun H1 h9 => (cJ.grow (show cJ D cI cC cD cR AD u Sv Hi In Le hs ch ty wy ln ea ra wd _ from ⟨hPo, hPh, hPi, hPs, hPp, hPw, hPt⟩) h9).W hR hk)

set_option maxHeartbeats 1000000 in
set_option maxRecDepth 100000 in
theorem c_X6_thresholdOf (l : Launch) (hl9 : l.stackTraces = false) {D : va_G} {cI cC cD cR : ClassId} {sa : sA} {A : Nat → Prop} {AD : Nat → Nat} {G Sv Hi In Le : Nat → Nat} {b hs ch ty wy ln : Nat} {ea ra wd : Int32} (hG : gWf b G) (hI : cInj AD) (hAA : ∀ i, i < 165 → A (AD i)) (t w : Int32) : vx_Met l yX6_thresholdOf wsX6_thresholdOf ({ frames := 6, cells := 1, slots := 6, locals := 82 }) (va_Pc [.ref (AD 0), .int t, .int w] (tPre D [(cI, .int), (cC, .char), (cD, .object "DoorDialect$Door"), (cR, .object "DoorDialect$House")] nN sa A (cW D cI cC cD cR AD G Sv Hi In Le hs ch ty wy ln ea ra wd))) (gQX (if iR t (G 1) then (if w = nI 0 ∨ w = nI 1 then 0 else 2) else 1) ((if iR t (G 1) then (if w = nI 0 then nI (G (112 + tN t)) else (if w = nI 1 then nI (gStand G (tN t)) else 0)) else 0)) (cW D cI cC cD cR AD G Sv Hi In Le hs ch ty wy ln ea ra wd) A) (xQ ["java/lang/IndexOutOfBoundsException", "java/lang/IllegalArgumentException"] (if iR t (G 1) then (if w = nI 0 ∨ w = nI 1 then 0 else 2) else 1) (cW D cI cC cD cR AD G Sv Hi In Le hs ch ty wy ln ea ra wd) A) 1 6 A := by
  refine nv_metX (cc := cX6_thresholdOf) (maxL := 3) (ret := (some .int)) (by decide) rfl (Nat.le_of_ble_eq_true rfl) ?_
  intro p0 e0 s m0 args below meth c0 Q hq hargs hnA hout hpre ls hl
  obtain ⟨hx, hb, hr, hts, hown, hlocks, hml⟩ := hnA
  obtain ⟨hP, hT⟩ := hpre
  have hK := hT.1
  have hown : s.vm.findClass RX6 = some m0.cls := hown
  obtain ⟨hPo, ⟨u, hR, hk, hPh⟩, hPi, hPs, hPp, hPw, hPt⟩ := hP
  have hPo : va_P D vwCl (cOb AD (hs) (wy) (wd) (ea) (ra)) s.heap := hPo
  have hPh : va_P D vwCl (hw cI cD (cAd AD 1) u) s.heap := hPh
  have hl : lv_has ls 3 [(0, .ref (AD 0)), (1, .int t), (2, .int w)] := hl
  have hS : va_S A s.heap s.heap [] := va_S.rf
  have in_X1 : ∀ w ∈ wsX10, w ∈ wsX6_thresholdOf := by decide +kernel
  have in_X6 : ∀ w ∈ wsX60, w ∈ wsX6_thresholdOf := by decide +kernel
  have fl_10 := hts (.fieldLink RX6 10 "DoorDialect" "house" "LDoorDialect$House;") (by decide +kernel)
  have fl_175 := hts (.fieldLink RX6 175 "DoorDialect$House" "thresholdCount" "I") (by decide +kernel)
  have fl_187 := hts (.fieldLink RX6 187 "DoorDialect$House" "governed" "[I") (by decide +kernel)
  obtain ⟨g_b, g_k, g_0, g_1, g_2, g_e, g_d, g_t, g_y, g_s, g_h⟩ := id hG
  have zq0 : G 0 = G 0 := rfl
  have l3 := hG.lt (k := 3) (by decide)
  have l4 := hG.lt (k := 4) (by decide)
  have l5 := hG.lt (k := 5) (by decide)
  refine lv_iload_n hx hb dX6_thresholdOf_0 rfl (lv_at hl 1 rfl) ?_
  refine lv_aload_n hx hb dX6_thresholdOf_1 rfl (lv_at hl 0 rfl) ?_
  refine va_get (D := D) (ci := 8) (v := .ref ((cAd AD 1) 0)) (C := RX6) (T := TX6) (N := 11) hx hb hts in_X6 hown hK.1 hPo 0 rfl rfl 0 (by decide) fl_10 (fun _ h9 => h9) rfl dX6_thresholdOf_2 ?_
  refine va_get (D := D) (ci := 3) (v := .int (nI (hs_c u 1))) (C := RX1) (T := TX1) (N := 12) hx hb hts in_X1 hown hK.1 hPh 0 rfl rfl 6 (by decide) fl_175 (fun _ h9 => h9) rfl dX6_thresholdOf_5 ?_
  refine nv_to (G 1) (congrArg nI ((hR.c1))) ?_
  refine nv_kS (va_runS (As := [.int t, .int (nI (G 1))]) (rest := []) ⟨hx, hb, hml, hown, hts⟩ (c_X6_isBelow l (t) (G 1) (by omega)) (va_cwS 2 hts gX6_thresholdOf_X6_isBelow rfl rfl rfl (by decide +kernel) ⟨Nat.le_of_ble_eq_true rfl, Nat.le_of_ble_eq_true rfl⟩) (nt_pS hT hS trivial) rfl rfl hl.1 rfl (lv_room (Nat.le_of_ble_eq_true rfl)) dX6_thresholdOf_8 ⟨Nat.le_of_ble_eq_true rfl, Nat.le_of_ble_eq_true rfl⟩) ?_
  refine nv_ifb_ne (tgt := 24) hx hb dX6_thresholdOf_11 (by decide) (fun c1 => ?_) (fun c1 => ?_)
  · obtain ⟨tk, h_tk, rfl⟩ := iR_of c1 (by omega)
    have et_tk : tN (nI tk) = tk := tN_nI (by omega)
    refine lv_iload_n hx hb dX6_thresholdOf_24 rfl (lv_at hl 2 rfl) ?_
    by_cases c2 : w = nI 0
    · subst c2
      refine lv_lookup (off := 27) (tgt := 52) hx hb dX6_thresholdOf_25 (by decide) rfl (by decide) ?_
      refine lv_aload_n hx hb dX6_thresholdOf_52 rfl (lv_at hl 0 rfl) ?_
      refine va_get (D := D) (ci := 8) (v := .ref ((cAd AD 1) 0)) (C := RX6) (T := TX6) (N := 11) hx hb hts in_X6 hown hK.1 hPo 0 rfl rfl 0 (by decide) fl_10 (fun _ h9 => h9) rfl dX6_thresholdOf_53 ?_
      refine va_get (D := D) (ci := 3) (v := .ref ((cAd AD 1) 2)) (C := RX1) (T := TX1) (N := 12) hx hb hts in_X1 hown hK.1 hPh 0 rfl rfl 1 (by decide) fl_187 (fun _ h9 => h9) rfl dX6_thresholdOf_56 ?_
      refine lv_iload_n hx hb dX6_thresholdOf_59 rfl (lv_at hl 1 rfl) ?_
      refine nv_gald (i := tk) hx hb hK.1 hPh 2 0 rfl rfl (by omega) (by decide) dX6_thresholdOf_60 ?_
      refine nv_to (G (112 + tk)) (congrArg nI ((hR.g (t := tk) (by omega)))) ?_
      exact nv_retGX hq hx hb hr hlocks (Nat.le_of_ble_eq_true rfl) (Nat.le_of_ble_eq_true rfl) (nar_i _) (by rw [if_pos c1, if_pos (Or.inl rfl)]) (by rw [if_pos c1, et_tk] <;> rfl) hS (⟨hPo, ⟨u, hR, hk, hPh⟩, hPi, hPs, hPp, hPw, hPt⟩) dX6_thresholdOf_61
    ·
      skip
      by_cases c3 : w = nI 1
      · subst c3
        refine lv_lookup (off := 37) (tgt := 62) hx hb dX6_thresholdOf_25 (by decide) rfl (by decide) ?_
        refine lv_aload_n hx hb dX6_thresholdOf_62 rfl (lv_at hl 0 rfl) ?_
        refine va_get (D := D) (ci := 8) (v := .ref ((cAd AD 1) 0)) (C := RX6) (T := TX6) (N := 11) hx hb hts in_X6 hown hK.1 hPo 0 rfl rfl 0 (by decide) fl_10 (fun _ h9 => h9) rfl dX6_thresholdOf_63 ?_
        refine lv_iload_n hx hb dX6_thresholdOf_66 rfl (lv_at hl 1 rfl) ?_
        refine nv_kS (va_runV (As := [.int (nI tk)]) (rest := []) ⟨hx, hb, hml, hown, hts⟩ (c_X1_doorsOn l hR hG tk (by omega)) (cwV 1 hts gX6_thresholdOf_X1_doorsOn rfl rfl rfl (by decide +kernel) ⟨Nat.le_of_ble_eq_true rfl, Nat.le_of_ble_eq_true rfl⟩) (nt_pV hT hS hPh (va_recv hK.1 hPh (ci := 3) (q0 := 0) rfl rfl)) rfl rfl hl.1 rfl (lv_room (Nat.le_of_ble_eq_true rfl)) dX6_thresholdOf_67 ⟨Nat.le_of_ble_eq_true rfl, Nat.le_of_ble_eq_true rfl⟩) ?_
        exact nv_retGX hq hx hb hr hlocks (Nat.le_of_ble_eq_true rfl) (Nat.le_of_ble_eq_true rfl) (nar_i _) (by rw [if_pos c1, if_pos (Or.inr rfl)]) (by rw [if_pos c1, et_tk] <;> rfl) hS (⟨hPo, ⟨u, hR, hk, hPh⟩, hPi, hPs, hPp, hPw, hPt⟩) dX6_thresholdOf_70
      ·
        skip
        refine lv_lookup (off := 46) (tgt := 71) hx hb dX6_thresholdOf_25 (by decide) ((lv_osw c2 rfl).trans ((lv_osw c3 rfl).trans rfl)) (by decide) ?_
        exact nv_throwS (ws := wsX6_thresholdOf) (ik := 168) (is := 194) (ic := 172) (cls := "java/lang/IllegalArgumentException") (text := "a threshold has no such number") (names := ["java/lang/RuntimeException", "java/lang/Exception"]) hq hx hb hl9 hown hts hT xIAE_fit ⟨by decide +kernel, by decide +kernel⟩ ⟨by decide +kernel, by decide +kernel⟩ (fun w hw => List.mem_cons_of_mem _ (List.mem_append_right _ hw)) xIAE_bad xIAE_ok hS (hl.1.trans hml.symm) dX6_thresholdOf_71 dX6_thresholdOf_74 dX6_thresholdOf_75 dX6_thresholdOf_77 dX6_thresholdOf_80 hout (by decide) (Nat.le_of_ble_eq_true rfl) (Nat.le_of_ble_eq_true rfl) (Nat.le_of_ble_eq_true rfl) hlocks (Nat.le_of_ble_eq_true rfl) (Nat.le_of_ble_eq_true rfl) (by rw [if_pos c1, if_neg (fun q => q.elim c2 c3)]; exact Nat.succ_ne_zero _) (by rw [if_pos c1, if_neg (fun q => q.elim c2 c3)] <;> rfl) (fun H1 h9 => (cJ.grow (show cJ D cI cC cD cR AD u Sv Hi In Le hs ch ty wy ln ea ra wd _ from ⟨hPo, hPh, hPi, hPs, hPp, hPw, hPt⟩) h9).W hR hk)
  · exact nv_throwS (ws := wsX6_thresholdOf) (ik := 182) (is := 184) (ic := 186) (cls := "java/lang/IndexOutOfBoundsException") (text := "there is no such threshold") (names := ["java/lang/RuntimeException", "java/lang/Exception"]) hq hx hb hl9 hown hts hT xIOOBE_fit ⟨by decide +kernel, by decide +kernel⟩ ⟨by decide +kernel, by decide +kernel⟩ (fun w hw => List.mem_cons_of_mem _ (List.mem_append_left _ (List.mem_append_left _ (List.mem_append_right _ hw)))) xIOOBE_bad xIOOBE_ok hS (hl.1.trans hml.symm) dX6_thresholdOf_14 dX6_thresholdOf_17 dX6_thresholdOf_18 dX6_thresholdOf_20 dX6_thresholdOf_23 hout (by decide) (Nat.le_of_ble_eq_true rfl) (Nat.le_of_ble_eq_true rfl) (Nat.le_of_ble_eq_true rfl) hlocks (Nat.le_of_ble_eq_true rfl) (Nat.le_of_ble_eq_true rfl) (by rw [if_neg c1]; exact Nat.succ_ne_zero _) (by rw [if_neg c1] <;> rfl) (fun H1 h9 => (cJ.grow (show cJ D cI cC cD cR AD u Sv Hi In Le hs ch ty wy ln ea ra wd _ from ⟨hPo, hPh, hPi, hPs, hPp, hPw, hPt⟩) h9).W hR hk)

set_option maxHeartbeats 1000000 in
set_option maxRecDepth 100000 in
theorem c_X6_character (l : Launch) (hl9 : l.stackTraces = false) {D : va_G} {cI cC cD cR : ClassId} {sa : sA} {A : Nat → Prop} {AD : Nat → Nat} {G Sv Hi In Le : Nat → Nat} {b hs ch ty wy ln : Nat} {ea ra wd : Int32} (hG : gWf b G) (hI : cInj AD) (hAA : ∀ i, i < 165 → A (AD i)) (x : Int32) (hln : ln ≤ 16) (hLe : ∀ k, k < ln → Le k < 65536) : vx_Met l yX6_character wsX6_character ({ frames := 6, cells := 1, slots := 6, locals := 82 }) (va_Pc [.ref (AD 0), .int x] (tPre D [(cI, .int), (cC, .char), (cD, .object "DoorDialect$Door"), (cR, .object "DoorDialect$House")] nN sa A (cW D cI cC cD cR AD G Sv Hi In Le hs ch ty wy ln ea ra wd))) (gQX (if iR x ln then 0 else 1) ((if iR x ln then nI (Le (tN x)) else 0)) (cW D cI cC cD cR AD G Sv Hi In Le hs ch ty wy ln ea ra wd) A) (xQ ["java/lang/IndexOutOfBoundsException"] (if iR x ln then 0 else 1) (cW D cI cC cD cR AD G Sv Hi In Le hs ch ty wy ln ea ra wd) A) 1 6 A := by
  refine nv_metX (cc := cX6_character) (maxL := 2) (ret := (some .char)) (by decide) rfl (Nat.le_of_ble_eq_true rfl) ?_
  intro p0 e0 s m0 args below meth c0 Q hq hargs hnA hout hpre ls hl
  obtain ⟨hx, hb, hr, hts, hown, hlocks, hml⟩ := hnA
  obtain ⟨hP, hT⟩ := hpre
  have hK := hT.1
  have hown : s.vm.findClass RX6 = some m0.cls := hown
  obtain ⟨hPo, ⟨u, hR, hk, hPh⟩, hPi, hPs, hPp, hPw, hPt⟩ := hP
  have hPo : va_P D vwCl (cOb AD (hs) (wy) (wd) (ea) (ra)) s.heap := hPo
  have hPh : va_P D vwCl (hw cI cD (cAd AD 1) u) s.heap := hPh
  have hl : lv_has ls 2 [(0, .ref (AD 0)), (1, .int x)] := hl
  have hS : va_S A s.heap s.heap [] := va_S.rf
  have in_X4 : ∀ w ∈ wsX40, w ∈ wsX6_character := by decide +kernel
  have in_X6 : ∀ w ∈ wsX60, w ∈ wsX6_character := by decide +kernel
  have fl_36 := hts (.fieldLink RX6 36 "DoorDialect" "text" "LDoorDialect$Text;") (by decide +kernel)
  have fl_309 := hts (.fieldLink RX6 309 "DoorDialect$Text" "length" "I") (by decide +kernel)
  have fl_314 := hts (.fieldLink RX6 314 "DoorDialect$Text" "signs" "[C") (by decide +kernel)
  obtain ⟨g_b, g_k, g_0, g_1, g_2, g_e, g_d, g_t, g_y, g_s, g_h⟩ := id hG
  have zq0 : G 0 = G 0 := rfl
  have l3 := hG.lt (k := 3) (by decide)
  have l4 := hG.lt (k := 4) (by decide)
  have l5 := hG.lt (k := 5) (by decide)
  refine lv_iload_n hx hb dX6_character_0 rfl (lv_at hl 1 rfl) ?_
  refine lv_aload_n hx hb dX6_character_1 rfl (lv_at hl 0 rfl) ?_
  refine va_get (D := D) (ci := 8) (v := .ref ((cAd AD 160) 0)) (C := RX6) (T := TX6) (N := 11) hx hb hts in_X6 hown hK.1 hPo 0 rfl rfl 4 (by decide) fl_36 (fun _ h9 => h9) rfl dX6_character_2 ?_
  obtain ⟨F9, hF9, hln9, hP⟩ := id hPt
  refine va_get (D := D) (ci := 6) (v := .int (nI ln)) (C := RX4) (T := TX4) (N := 2) hx hb hts in_X4 hown hK.1 hP 0 rfl rfl 1 (by decide) fl_309 (fun _ h9 => h9) rfl dX6_character_5 ?_
  refine nv_kS (va_runS (As := [.int x, .int (nI ln)]) (rest := []) ⟨hx, hb, hml, hown, hts⟩ (c_X6_isBelow l (x) ln (by omega)) (va_cwS 2 hts gX6_character_X6_isBelow rfl rfl rfl (by decide +kernel) ⟨Nat.le_of_ble_eq_true rfl, Nat.le_of_ble_eq_true rfl⟩) (nt_pS hT hS trivial) rfl rfl hl.1 rfl (lv_room (Nat.le_of_ble_eq_true rfl)) dX6_character_8 ⟨Nat.le_of_ble_eq_true rfl, Nat.le_of_ble_eq_true rfl⟩) ?_
  refine nv_ifb_ne (tgt := 25) hx hb dX6_character_11 (by decide) (fun c1 => ?_) (fun c1 => ?_)
  · have c1k := c1
    obtain ⟨xk, h_xk, rfl⟩ := iR_of c1k (by omega)
    have et_xk : tN (nI xk) = xk := tN_nI (by omega)
    refine lv_aload_n hx hb dX6_character_25 rfl (lv_at hl 0 rfl) ?_
    refine va_get (D := D) (ci := 8) (v := .ref ((cAd AD 160) 0)) (C := RX6) (T := TX6) (N := 11) hx hb hts in_X6 hown hK.1 hPo 0 rfl rfl 4 (by decide) fl_36 (fun _ h9 => h9) rfl dX6_character_26 ?_
    obtain ⟨F9, hF9, hln9, hP⟩ := id hPt
    refine va_get (D := D) (ci := 6) (v := .ref ((cAd AD 160) 1)) (C := RX4) (T := TX4) (N := 2) hx hb hts in_X4 hown hK.1 hP 0 rfl rfl 0 (by decide) fl_314 (fun _ h9 => h9) rfl dX6_character_29 ?_
    refine lv_iload_n hx hb dX6_character_32 rfl (lv_at hl 1 rfl) ?_
    obtain ⟨F9, hF9, hln9, hP⟩ := id hPt
    refine nv_cald (i := xk) hx hb hK.1 hP 1 1 rfl rfl (by first | omega | (simp only [gEndAt]; omega)) (by decide) dX6_character_33 ?_
    exact nv_retGX hq hx hb hr hlocks (Nat.le_of_ble_eq_true rfl) (Nat.le_of_ble_eq_true rfl) (nar_c (by rw [hF9 _ h_xk]; exact hLe _ h_xk)) (if_pos c1) (by rw [if_pos c1, et_xk, hF9 _ h_xk]) hS (⟨hPo, ⟨u, hR, hk, hPh⟩, hPi, hPs, hPp, hPw, hPt⟩) dX6_character_34
  · exact nv_throwW (ws := wsX6_character) (ik := 182) (is := 312) (ic := 186) (cls := "java/lang/IndexOutOfBoundsException") (text := "the line has no such index") (names := ["java/lang/RuntimeException", "java/lang/Exception"]) hq hx hb hl9 hown hts hT xIOOBE_fit ⟨by decide +kernel, by decide +kernel⟩ ⟨by decide +kernel, by decide +kernel⟩ (fun w hw => List.mem_cons_of_mem _ (List.mem_append_left _ (List.mem_append_right _ hw))) xIOOBE_bad xIOOBE_ok hS (hl.1.trans hml.symm) dX6_character_14 dX6_character_17 dX6_character_18 dX6_character_21 dX6_character_24 hout (by decide) (Nat.le_of_ble_eq_true rfl) (Nat.le_of_ble_eq_true rfl) (Nat.le_of_ble_eq_true rfl) hlocks (Nat.le_of_ble_eq_true rfl) (Nat.le_of_ble_eq_true rfl) (by rw [if_neg c1]; exact Nat.succ_ne_zero _) (by rw [if_neg c1] <;> rfl) (fun H1 h9 => (cJ.grow (show cJ D cI cC cD cR AD u Sv Hi In Le hs ch ty wy ln ea ra wd _ from ⟨hPo, hPh, hPi, hPs, hPp, hPw, hPt⟩) h9).W hR hk)
