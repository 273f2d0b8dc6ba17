/-- the verdict of an order of the kind k with the numbers a b z d e -/
def vOrd (k : Nat) (a b c d e : Int32) (G : Nat → Nat) : V := match k with
  | 0 => vDoor G a b (tN c) d e
  | 1 => vSill G a
  | 2 => vGovern G a b
  | 3 => vSet G a b
  | 4 => vTell G a b (tN c) d
  | 5 => vKey G a b
  | 6 => vKnock G a b (tN c) d
  | 7 => vShut G a
  | _ => vFree G a b

set_option maxHeartbeats 1000000 in
set_option maxRecDepth 100000 in
theorem c_X7_does (l : Launch) {D : va_G} {cI cC : ClassId} {h aG aB aH aS aI aL aT : Nat} {G B Hi Sv In Le : Nat → Nat} {To : Nat → Int32} {ch hs ty wy ln th sp iw : Nat} {ea ra wd : Int32} {A : Nat → Prop} (hD : ∀ (G B Hi Sv In Le : Nat → Nat) (To : Nat → Int32) (fs : List Value), va_D A [(h, .inr (9, fs)), (aG, .inl (cI, 128, .inl (gN G))), (aB, .inl (cI, 128, .inl (gN B))), (aH, .inl (cI, 1024, .inl (gN Hi))), (aS, .inl (cI, 128, .inl (gN Sv))), (aI, .inl (cI, 60, .inl (gN In))), (aL, .inl (cC, 40, .inl (gN Le))), (aT, .inl (cI, 360, .inl To))]) {b : Nat} (hG : gWf b G) (k q : Nat) (hk : k + 5 < 360) (hq9 : q < 9) (hoc : To k = nI (oc q)) (hz : (q = 0 ∨ q = 4 ∨ q = 6) → To (k + 3) = nI (tN (To (k + 3))) ∧ tN (To (k + 3)) ≤ 1) : Met l yX7_does wsX7_does ({ frames := 3, cells := 0, slots := 0, locals := 70 }) (va_Pc [.ref h, .int (nI k)] (sPre D [(cI, .int), (cC, .char)] [] (fun H => va_P D vwCl [(h, .inr (9, [.ref aG, .ref aB, .ref aH, .int (nI ch), .ref aS, .int (nI hs), .ref aI, .int (nI ty), .int ea, .int ra, .int (nI wy), .int wd, .ref aL, .int (nI ln), .int (nI th), .int (nI sp), .int (nI iw), .ref aT])), (aG, .inl (cI, 128, .inl (gN G))), (aB, .inl (cI, 128, .inl (gN B))), (aH, .inl (cI, 1024, .inl (gN Hi))), (aS, .inl (cI, 128, .inl (gN Sv))), (aI, .inl (cI, 60, .inl (gN In))), (aL, .inl (cC, 40, .inl (gN Le))), (aT, .inl (cI, 360, .inl To))] H))) (mQ D ((vOrd q (To (k + 1)) (To (k + 2)) (To (k + 3)) (To (k + 4)) (To (k + 5)) G).2.2.2.1) [(h, .inr (9, [.ref aG, .ref aB, .ref aH, .int (nI ch), .ref aS, .int (nI hs), .ref aI, .int (nI ty), .int ea, .int ra, .int (nI (vWy (vOrd q (To (k + 1)) (To (k + 2)) (To (k + 3)) (To (k + 4)) (To (k + 5)) G) wy)), .int (vWd (vOrd q (To (k + 1)) (To (k + 2)) (To (k + 3)) (To (k + 4)) (To (k + 5)) G) wd), .ref aL, .int (nI ln), .int (nI ((vOrd q (To (k + 1)) (To (k + 2)) (To (k + 3)) (To (k + 4)) (To (k + 5)) G).1)), .int (nI sp), .int (nI iw), .ref aT])), (aG, .inl (cI, 128, .inl (gN ((vOrd q (To (k + 1)) (To (k + 2)) (To (k + 3)) (To (k + 4)) (To (k + 5)) G).2.2.2.2)))), (aB, .inl (cI, 128, .inl (gN B))), (aH, .inl (cI, 1024, .inl (gN Hi))), (aS, .inl (cI, 128, .inl (gN Sv))), (aI, .inl (cI, 60, .inl (gN In))), (aL, .inl (cC, 40, .inl (gN Le))), (aT, .inl (cI, 360, .inl To))] A) 0 0 A := by
  refine nv_met (cc := cX7_does) (maxL := 6) (ret := (some .int)) (by decide) rfl (Nat.le_of_ble_eq_true rfl) ?_
  intro p0 e0 s m0 args below meth c0 Q hq hargs hnA hpre ls hl
  obtain ⟨hx, hb, hr, hts, hown, hlocks, hml⟩ := hnA
  obtain ⟨hP, hK⟩ := hpre
  have hown : s.vm.findClass RX7 = some m0.cls := hown
  have hP : va_P D vwCl [(h, .inr (9, [.ref aG, .ref aB, .ref aH, .int (nI ch), .ref aS, .int (nI hs), .ref aI, .int (nI ty), .int ea, .int ra, .int (nI wy), .int wd, .ref aL, .int (nI ln), .int (nI th), .int (nI sp), .int (nI iw), .ref aT])), (aG, .inl (cI, 128, .inl (gN G))), (aB, .inl (cI, 128, .inl (gN B))), (aH, .inl (cI, 1024, .inl (gN Hi))), (aS, .inl (cI, 128, .inl (gN Sv))), (aI, .inl (cI, 60, .inl (gN In))), (aL, .inl (cC, 40, .inl (gN Le))), (aT, .inl (cI, 360, .inl To))] s.heap := hP
  have hl : lv_has ls 6 [(0, .ref h), (1, .int (nI k))] := hl
  have hS : va_S A s.heap s.heap [] := va_S.rf
  have in_X7 : ∀ w ∈ wsX70, w ∈ wsX7_does := by decide +kernel
  have fl_36 := hts (.fieldLink RX7 36 "DoorDialectModel" "told" "[I") (by decide +kernel)
  refine lv_aload_n hx hb dX7_does_0 rfl (lv_at hl 0 rfl) ?_
  refine va_get (D := D) (ci := 9) (v := .ref aT) (C := RX7) (T := TX7) (N := 18) hx hb hts in_X7 hown hK.1 hP 0 rfl rfl 17 (by decide) fl_36 (fun _ h9 => h9) rfl dX7_does_1 ?_
  refine lv_iload_n hx hb dX7_does_4 rfl (lv_at hl 1 rfl) ?_
  refine lv_iconst (v := nI 1) hx hb dX7_does_5 (by decide) ?_
  refine nv_iadd hx hb dX7_does_6 ?_
  refine nv_iald (i := k + 1) hx hb hK.1 hP 7 0 rfl rfl (by first | omega | (simp only [gEndAt]; omega)) (by decide) dX7_does_7 ?_
  refine lv_istore_n (lv' := [(2, .int (To (k + 1))), (0, .ref h), (1, .int (nI k))]) hx hb dX7_does_8 rfl hl (by decide) rfl (fun ls hl => ?_)
  refine lv_aload_n hx hb dX7_does_9 rfl (lv_at hl 1 rfl) ?_
  refine va_get (D := D) (ci := 9) (v := .ref aT) (C := RX7) (T := TX7) (N := 18) hx hb hts in_X7 hown hK.1 hP 0 rfl rfl 17 (by decide) fl_36 (fun _ h9 => h9) rfl dX7_does_10 ?_
  refine lv_iload_n hx hb dX7_does_13 rfl (lv_at hl 2 rfl) ?_
  refine lv_iconst (v := nI 2) hx hb dX7_does_14 (by decide) ?_
  refine nv_iadd hx hb dX7_does_15 ?_
  refine nv_iald (i := k + 2) hx hb hK.1 hP 7 0 rfl rfl (by first | omega | (simp only [gEndAt]; omega)) (by decide) dX7_does_16 ?_
  refine lv_istore_n (lv' := [(3, .int (To (k + 2))), (2, .int (To (k + 1))), (0, .ref h), (1, .int (nI k))]) hx hb dX7_does_17 rfl hl (by decide) rfl (fun ls hl => ?_)
  refine lv_aload_n hx hb dX7_does_18 rfl (lv_at hl 2 rfl) ?_
  refine va_get (D := D) (ci := 9) (v := .ref aT) (C := RX7) (T := TX7) (N := 18) hx hb hts in_X7 hown hK.1 hP 0 rfl rfl 17 (by decide) fl_36 (fun _ h9 => h9) rfl dX7_does_19 ?_
  refine lv_iload_n hx hb dX7_does_22 rfl (lv_at hl 3 rfl) ?_
  refine lv_iconst (v := nI 3) hx hb dX7_does_23 (by decide) ?_
  refine nv_iadd hx hb dX7_does_24 ?_
  refine nv_iald (i := k + 3) hx hb hK.1 hP 7 0 rfl rfl (by first | omega | (simp only [gEndAt]; omega)) (by decide) dX7_does_25 ?_
  refine lv_istore (lv' := [(4, .int (To (k + 3))), (3, .int (To (k + 2))), (2, .int (To (k + 1))), (0, .ref h), (1, .int (nI k))]) hx hb dX7_does_26 hl (by decide) rfl (fun ls hl => ?_)
  refine lv_aload_n hx hb dX7_does_28 rfl (lv_at hl 3 rfl) ?_
  refine va_get (D := D) (ci := 9) (v := .ref aT) (C := RX7) (T := TX7) (N := 18) hx hb hts in_X7 hown hK.1 hP 0 rfl rfl 17 (by decide) fl_36 (fun _ h9 => h9) rfl dX7_does_29 ?_
  refine lv_iload_n hx hb dX7_does_32 rfl (lv_at hl 4 rfl) ?_
  refine lv_iconst (v := nI 4) hx hb dX7_does_33 (by decide) ?_
  refine nv_iadd hx hb dX7_does_34 ?_
  refine nv_iald (i := k + 4) hx hb hK.1 hP 7 0 rfl rfl (by first | omega | (simp only [gEndAt]; omega)) (by decide) dX7_does_35 ?_
  refine lv_istore (lv' := [(5, .int (To (k + 4))), (4, .int (To (k + 3))), (3, .int (To (k + 2))), (2, .int (To (k + 1))), (0, .ref h), (1, .int (nI k))]) hx hb dX7_does_36 hl (by decide) rfl (fun ls hl => ?_)
  refine lv_aload_n hx hb dX7_does_38 rfl (lv_at hl 4 rfl) ?_
  refine va_get (D := D) (ci := 9) (v := .ref aT) (C := RX7) (T := TX7) (N := 18) hx hb hts in_X7 hown hK.1 hP 0 rfl rfl 17 (by decide) fl_36 (fun _ h9 => h9) rfl dX7_does_39 ?_
  refine lv_iload_n hx hb dX7_does_42 rfl (lv_at hl 5 rfl) ?_
  refine nv_iald (i := k) hx hb hK.1 hP 7 0 rfl rfl (by first | omega | (simp only [gEndAt]; omega)) (by decide) dX7_does_43 ?_
  refine iv_to (nI (oc q)) hoc ?_
  rcases (show q = 0 ∨ q = 1 ∨ q = 2 ∨ q = 3 ∨ q = 4 ∨ q = 5 ∨ q = 6 ∨ q = 7 ∨ q = 8 by omega) with rfl | rfl | rfl | rfl | rfl | rfl | rfl | rfl | rfl
  · refine nv_to 100 rfl ?_
    have hz3 : To (k + 3) = nI (tN (To (k + 3))) ∧ tN (To (k + 3)) ≤ 1 := hz (by decide)
    rw [hz3.1] at hl
    refine lv_tableIn (off := 84) (tgt := 128) hx hb dX7_does_44 (by decide +kernel) (by decide +kernel) rfl (by decide) ?_
    refine lv_aload_n hx hb dX7_does_128 rfl (lv_at hl 4 rfl) ?_
    refine lv_iload_n hx hb dX7_does_129 rfl (lv_at hl 3 rfl) ?_
    refine lv_iload_n hx hb dX7_does_130 rfl (lv_at hl 2 rfl) ?_
    refine lv_iload hx hb dX7_does_131 (lv_at hl 1 rfl) ?_
    refine lv_iload hx hb dX7_does_133 (lv_at hl 0 rfl) ?_
    refine lv_aload_n hx hb dX7_does_135 rfl (lv_at hl 4 rfl) ?_
    refine va_get (D := D) (ci := 9) (v := .ref aT) (C := RX7) (T := TX7) (N := 18) hx hb hts in_X7 hown hK.1 hP 0 rfl rfl 17 (by decide) fl_36 (fun _ h9 => h9) rfl dX7_does_136 ?_
    refine lv_iload_n hx hb dX7_does_139 rfl (lv_at hl 5 rfl) ?_
    refine lv_iconst (v := nI 5) hx hb dX7_does_140 (by decide) ?_
    refine nv_iadd hx hb dX7_does_141 ?_
    refine nv_iald (i := k + 5) hx hb hK.1 hP 7 0 rfl rfl (by first | omega | (simp only [gEndAt]; omega)) (by decide) dX7_does_142 ?_
    refine nv_kM (va_runV (As := [.int (To (k + 1)), .int (To (k + 2)), .int (nI (tN (To (k + 3)))), .int (To (k + 4)), .int (To (k + 5))]) (rest := []) ⟨hx, hb, hml, hown, hts⟩ (c_X7_doorComes l hD hG (To (k + 1)) (To (k + 2)) (tN (To (k + 3))) (To (k + 4)) (To (k + 5))) (cwV 5 hts gX7_does_X7_doorComes rfl rfl rfl (by decide +kernel) ⟨Nat.le_of_ble_eq_true rfl, Nat.le_of_ble_eq_true rfl⟩) (nv_pV hK hP (va_recv hK.1 hP (ci := 9) (q0 := 0) rfl rfl)) rfl rfl hl.1 rfl (lv_room (Nat.le_of_ble_eq_true rfl)) dX7_does_143 ⟨Nat.zero_le _, Nat.zero_le _⟩) hS (fun H locs hP hS => ?_)
    have hP : va_P D vwCl [(h, .inr (9, [.ref aG, .ref aB, .ref aH, .int (nI ch), .ref aS, .int (nI hs), .ref aI, .int (nI ty), .int ea, .int ra, .int (nI (vWy (vDoor G (To (k + 1)) (To (k + 2)) (tN (To (k + 3))) (To (k + 4)) (To (k + 5))) wy)), .int (vWd (vDoor G (To (k + 1)) (To (k + 2)) (tN (To (k + 3))) (To (k + 4)) (To (k + 5))) wd), .ref aL, .int (nI ln), .int (nI ((vDoor G (To (k + 1)) (To (k + 2)) (tN (To (k + 3))) (To (k + 4)) (To (k + 5))).1)), .int (nI sp), .int (nI iw), .ref aT])), (aG, .inl (cI, 128, .inl (gN ((vDoor G (To (k + 1)) (To (k + 2)) (tN (To (k + 3))) (To (k + 4)) (To (k + 5))).2.2.2.2)))), (aB, .inl (cI, 128, .inl (gN B))), (aH, .inl (cI, 1024, .inl (gN Hi))), (aS, .inl (cI, 128, .inl (gN Sv))), (aI, .inl (cI, 60, .inl (gN In))), (aL, .inl (cC, 40, .inl (gN Le))), (aT, .inl (cI, 360, .inl To))] H := hP
    exact nv_retM hq hx hb hr hlocks (nar_i _) (rfl) hS hP (rfl) dX7_does_146
  · refine nv_to 116 rfl ?_
    refine lv_tableIn (off := 103) (tgt := 147) hx hb dX7_does_44 (by decide +kernel) (by decide +kernel) rfl (by decide) ?_
    refine lv_aload_n hx hb dX7_does_147 rfl (lv_at hl 4 rfl) ?_
    refine lv_iload_n hx hb dX7_does_148 rfl (lv_at hl 3 rfl) ?_
    refine nv_kM (va_runV (As := [.int (To (k + 1))]) (rest := []) ⟨hx, hb, hml, hown, hts⟩ (c_X7_sillComes l hD hG (To (k + 1))) (cwV 1 hts gX7_does_X7_sillComes rfl rfl rfl (by decide +kernel) ⟨Nat.le_of_ble_eq_true rfl, Nat.le_of_ble_eq_true rfl⟩) (nv_pV hK hP (va_recv hK.1 hP (ci := 9) (q0 := 0) rfl rfl)) rfl rfl hl.1 rfl (lv_room (Nat.le_of_ble_eq_true rfl)) dX7_does_149 ⟨Nat.zero_le _, Nat.zero_le _⟩) hS (fun H locs hP hS => ?_)
    have hP : va_P D vwCl [(h, .inr (9, [.ref aG, .ref aB, .ref aH, .int (nI ch), .ref aS, .int (nI hs), .ref aI, .int (nI ty), .int ea, .int ra, .int (nI (vWy (vSill G (To (k + 1))) wy)), .int (vWd (vSill G (To (k + 1))) wd), .ref aL, .int (nI ln), .int (nI ((vSill G (To (k + 1))).1)), .int (nI sp), .int (nI iw), .ref aT])), (aG, .inl (cI, 128, .inl (gN ((vSill G (To (k + 1))).2.2.2.2)))), (aB, .inl (cI, 128, .inl (gN B))), (aH, .inl (cI, 1024, .inl (gN Hi))), (aS, .inl (cI, 128, .inl (gN Sv))), (aI, .inl (cI, 60, .inl (gN In))), (aL, .inl (cC, 40, .inl (gN Le))), (aT, .inl (cI, 360, .inl To))] H := hP
    exact nv_retM hq hx hb hr hlocks (nar_i _) (rfl) hS hP (rfl) dX7_does_152
  · refine nv_to 103 rfl ?_
    refine lv_tableIn (off := 109) (tgt := 153) hx hb dX7_does_44 (by decide +kernel) (by decide +kernel) rfl (by decide) ?_
    refine lv_aload_n hx hb dX7_does_153 rfl (lv_at hl 4 rfl) ?_
    refine lv_iload_n hx hb dX7_does_154 rfl (lv_at hl 3 rfl) ?_
    refine lv_iload_n hx hb dX7_does_155 rfl (lv_at hl 2 rfl) ?_
    refine nv_kM (va_runV (As := [.int (To (k + 1)), .int (To (k + 2))]) (rest := []) ⟨hx, hb, hml, hown, hts⟩ (c_X7_governs l hD hG (To (k + 1)) (To (k + 2))) (cwV 2 hts gX7_does_X7_governs rfl rfl rfl (by decide +kernel) ⟨Nat.le_of_ble_eq_true rfl, Nat.le_of_ble_eq_true rfl⟩) (nv_pV hK hP (va_recv hK.1 hP (ci := 9) (q0 := 0) rfl rfl)) rfl rfl hl.1 rfl (lv_room (Nat.le_of_ble_eq_true rfl)) dX7_does_156 ⟨Nat.zero_le _, Nat.zero_le _⟩) hS (fun H locs hP hS => ?_)
    have hP : va_P D vwCl [(h, .inr (9, [.ref aG, .ref aB, .ref aH, .int (nI ch), .ref aS, .int (nI hs), .ref aI, .int (nI ty), .int ea, .int ra, .int (nI (vWy (vGovern G (To (k + 1)) (To (k + 2))) wy)), .int (vWd (vGovern G (To (k + 1)) (To (k + 2))) wd), .ref aL, .int (nI ln), .int (nI ((vGovern G (To (k + 1)) (To (k + 2))).1)), .int (nI sp), .int (nI iw), .ref aT])), (aG, .inl (cI, 128, .inl (gN ((vGovern G (To (k + 1)) (To (k + 2))).2.2.2.2)))), (aB, .inl (cI, 128, .inl (gN B))), (aH, .inl (cI, 1024, .inl (gN Hi))), (aS, .inl (cI, 128, .inl (gN Sv))), (aI, .inl (cI, 60, .inl (gN In))), (aL, .inl (cC, 40, .inl (gN Le))), (aT, .inl (cI, 360, .inl To))] H := hP
    exact nv_retM hq hx hb hr hlocks (nar_i _) (rfl) hS hP (rfl) dX7_does_159
  · refine nv_to 115 rfl ?_
    refine lv_tableIn (off := 116) (tgt := 160) hx hb dX7_does_44 (by decide +kernel) (by decide +kernel) rfl (by decide) ?_
    refine lv_aload_n hx hb dX7_does_160 rfl (lv_at hl 4 rfl) ?_
    refine lv_iload_n hx hb dX7_does_161 rfl (lv_at hl 3 rfl) ?_
    refine lv_iload_n hx hb dX7_does_162 rfl (lv_at hl 2 rfl) ?_
    refine nv_kM (va_runV (As := [.int (To (k + 1)), .int (To (k + 2))]) (rest := []) ⟨hx, hb, hml, hown, hts⟩ (c_X7_sets l hD hG (To (k + 1)) (To (k + 2))) (cwV 2 hts gX7_does_X7_sets rfl rfl rfl (by decide +kernel) ⟨Nat.le_of_ble_eq_true rfl, Nat.le_of_ble_eq_true rfl⟩) (nv_pV hK hP (va_recv hK.1 hP (ci := 9) (q0 := 0) rfl rfl)) rfl rfl hl.1 rfl (lv_room (Nat.le_of_ble_eq_true rfl)) dX7_does_163 ⟨Nat.zero_le _, Nat.zero_le _⟩) hS (fun H locs hP hS => ?_)
    have hP : va_P D vwCl [(h, .inr (9, [.ref aG, .ref aB, .ref aH, .int (nI ch), .ref aS, .int (nI hs), .ref aI, .int (nI ty), .int ea, .int ra, .int (nI (vWy (vSet G (To (k + 1)) (To (k + 2))) wy)), .int (vWd (vSet G (To (k + 1)) (To (k + 2))) wd), .ref aL, .int (nI ln), .int (nI ((vSet G (To (k + 1)) (To (k + 2))).1)), .int (nI sp), .int (nI iw), .ref aT])), (aG, .inl (cI, 128, .inl (gN ((vSet G (To (k + 1)) (To (k + 2))).2.2.2.2)))), (aB, .inl (cI, 128, .inl (gN B))), (aH, .inl (cI, 1024, .inl (gN Hi))), (aS, .inl (cI, 128, .inl (gN Sv))), (aI, .inl (cI, 60, .inl (gN In))), (aL, .inl (cC, 40, .inl (gN Le))), (aT, .inl (cI, 360, .inl To))] H := hP
    exact nv_retM hq hx hb hr hlocks (nar_i _) (rfl) hS hP (rfl) dX7_does_166
  · refine nv_to 101 rfl ?_
    have hz3 : To (k + 3) = nI (tN (To (k + 3))) ∧ tN (To (k + 3)) ≤ 1 := hz (by decide)
    rw [hz3.1] at hl
    refine lv_tableIn (off := 123) (tgt := 167) hx hb dX7_does_44 (by decide +kernel) (by decide +kernel) rfl (by decide) ?_
    refine lv_aload_n hx hb dX7_does_167 rfl (lv_at hl 4 rfl) ?_
    refine lv_iload_n hx hb dX7_does_168 rfl (lv_at hl 3 rfl) ?_
    refine lv_iload_n hx hb dX7_does_169 rfl (lv_at hl 2 rfl) ?_
    refine lv_iload hx hb dX7_does_170 (lv_at hl 1 rfl) ?_
    refine lv_iload hx hb dX7_does_172 (lv_at hl 0 rfl) ?_
    refine nv_kM (va_runV (As := [.int (To (k + 1)), .int (To (k + 2)), .int (nI (tN (To (k + 3)))), .int (To (k + 4))]) (rest := []) ⟨hx, hb, hml, hown, hts⟩ (c_X7_tells l hD hG (To (k + 1)) (To (k + 2)) (tN (To (k + 3))) (To (k + 4)) (by first | exact bI_le _ | omega)) (cwV 4 hts gX7_does_X7_tells rfl rfl rfl (by decide +kernel) ⟨Nat.le_of_ble_eq_true rfl, Nat.le_of_ble_eq_true rfl⟩) (nv_pV hK hP (va_recv hK.1 hP (ci := 9) (q0 := 0) rfl rfl)) rfl rfl hl.1 rfl (lv_room (Nat.le_of_ble_eq_true rfl)) dX7_does_174 ⟨Nat.zero_le _, Nat.zero_le _⟩) hS (fun H locs hP hS => ?_)
    have hP : va_P D vwCl [(h, .inr (9, [.ref aG, .ref aB, .ref aH, .int (nI ch), .ref aS, .int (nI hs), .ref aI, .int (nI ty), .int ea, .int ra, .int (nI (vWy (vTell G (To (k + 1)) (To (k + 2)) (tN (To (k + 3))) (To (k + 4))) wy)), .int (vWd (vTell G (To (k + 1)) (To (k + 2)) (tN (To (k + 3))) (To (k + 4))) wd), .ref aL, .int (nI ln), .int (nI ((vTell G (To (k + 1)) (To (k + 2)) (tN (To (k + 3))) (To (k + 4))).1)), .int (nI sp), .int (nI iw), .ref aT])), (aG, .inl (cI, 128, .inl (gN ((vTell G (To (k + 1)) (To (k + 2)) (tN (To (k + 3))) (To (k + 4))).2.2.2.2)))), (aB, .inl (cI, 128, .inl (gN B))), (aH, .inl (cI, 1024, .inl (gN Hi))), (aS, .inl (cI, 128, .inl (gN Sv))), (aI, .inl (cI, 60, .inl (gN In))), (aL, .inl (cC, 40, .inl (gN Le))), (aT, .inl (cI, 360, .inl To))] H := hP
    exact nv_retM hq hx hb hr hlocks (nar_i _) (rfl) hS hP (rfl) dX7_does_177
  · refine nv_to 107 rfl ?_
    refine lv_tableIn (off := 134) (tgt := 178) hx hb dX7_does_44 (by decide +kernel) (by decide +kernel) rfl (by decide) ?_
    refine lv_aload_n hx hb dX7_does_178 rfl (lv_at hl 4 rfl) ?_
    refine lv_iload_n hx hb dX7_does_179 rfl (lv_at hl 3 rfl) ?_
    refine lv_iload_n hx hb dX7_does_180 rfl (lv_at hl 2 rfl) ?_
    refine nv_kM (va_runV (As := [.int (To (k + 1)), .int (To (k + 2))]) (rest := []) ⟨hx, hb, hml, hown, hts⟩ (c_X7_keyComes l hD hG (To (k + 1)) (To (k + 2))) (cwV 2 hts gX7_does_X7_keyComes rfl rfl rfl (by decide +kernel) ⟨Nat.le_of_ble_eq_true rfl, Nat.le_of_ble_eq_true rfl⟩) (nv_pV hK hP (va_recv hK.1 hP (ci := 9) (q0 := 0) rfl rfl)) rfl rfl hl.1 rfl (lv_room (Nat.le_of_ble_eq_true rfl)) dX7_does_181 ⟨Nat.zero_le _, Nat.zero_le _⟩) hS (fun H locs hP hS => ?_)
    have hP : va_P D vwCl [(h, .inr (9, [.ref aG, .ref aB, .ref aH, .int (nI ch), .ref aS, .int (nI hs), .ref aI, .int (nI ty), .int ea, .int ra, .int (nI (vWy (vKey G (To (k + 1)) (To (k + 2))) wy)), .int (vWd (vKey G (To (k + 1)) (To (k + 2))) wd), .ref aL, .int (nI ln), .int (nI ((vKey G (To (k + 1)) (To (k + 2))).1)), .int (nI sp), .int (nI iw), .ref aT])), (aG, .inl (cI, 128, .inl (gN ((vKey G (To (k + 1)) (To (k + 2))).2.2.2.2)))), (aB, .inl (cI, 128, .inl (gN B))), (aH, .inl (cI, 1024, .inl (gN Hi))), (aS, .inl (cI, 128, .inl (gN Sv))), (aI, .inl (cI, 60, .inl (gN In))), (aL, .inl (cC, 40, .inl (gN Le))), (aT, .inl (cI, 360, .inl To))] H := hP
    exact nv_retM hq hx hb hr hlocks (nar_i _) (rfl) hS hP (rfl) dX7_does_184
  · refine nv_to 110 rfl ?_
    have hz3 : To (k + 3) = nI (tN (To (k + 3))) ∧ tN (To (k + 3)) ≤ 1 := hz (by decide)
    rw [hz3.1] at hl
    refine lv_tableIn (off := 141) (tgt := 185) hx hb dX7_does_44 (by decide +kernel) (by decide +kernel) rfl (by decide) ?_
    refine lv_aload_n hx hb dX7_does_185 rfl (lv_at hl 4 rfl) ?_
    refine lv_iload_n hx hb dX7_does_186 rfl (lv_at hl 3 rfl) ?_
    refine lv_iload_n hx hb dX7_does_187 rfl (lv_at hl 2 rfl) ?_
    refine lv_iload hx hb dX7_does_188 (lv_at hl 1 rfl) ?_
    refine lv_iload hx hb dX7_does_190 (lv_at hl 0 rfl) ?_
    refine nv_kM (va_runV (As := [.int (To (k + 1)), .int (To (k + 2)), .int (nI (tN (To (k + 3)))), .int (To (k + 4))]) (rest := []) ⟨hx, hb, hml, hown, hts⟩ (c_X7_knocks l hD hG (To (k + 1)) (To (k + 2)) (tN (To (k + 3))) (To (k + 4)) (by first | exact bI_le _ | omega)) (cwV 4 hts gX7_does_X7_knocks rfl rfl rfl (by decide +kernel) ⟨Nat.le_of_ble_eq_true rfl, Nat.le_of_ble_eq_true rfl⟩) (nv_pV hK hP (va_recv hK.1 hP (ci := 9) (q0 := 0) rfl rfl)) rfl rfl hl.1 rfl (lv_room (Nat.le_of_ble_eq_true rfl)) dX7_does_192 ⟨Nat.zero_le _, Nat.zero_le _⟩) hS (fun H locs hP hS => ?_)
    have hP : va_P D vwCl [(h, .inr (9, [.ref aG, .ref aB, .ref aH, .int (nI ch), .ref aS, .int (nI hs), .ref aI, .int (nI ty), .int ea, .int ra, .int (nI (vWy (vKnock G (To (k + 1)) (To (k + 2)) (tN (To (k + 3))) (To (k + 4))) wy)), .int (vWd (vKnock G (To (k + 1)) (To (k + 2)) (tN (To (k + 3))) (To (k + 4))) wd), .ref aL, .int (nI ln), .int (nI ((vKnock G (To (k + 1)) (To (k + 2)) (tN (To (k + 3))) (To (k + 4))).1)), .int (nI sp), .int (nI iw), .ref aT])), (aG, .inl (cI, 128, .inl (gN ((vKnock G (To (k + 1)) (To (k + 2)) (tN (To (k + 3))) (To (k + 4))).2.2.2.2)))), (aB, .inl (cI, 128, .inl (gN B))), (aH, .inl (cI, 1024, .inl (gN Hi))), (aS, .inl (cI, 128, .inl (gN Sv))), (aI, .inl (cI, 60, .inl (gN In))), (aL, .inl (cC, 40, .inl (gN Le))), (aT, .inl (cI, 360, .inl To))] H := hP
    exact nv_retM hq hx hb hr hlocks (nar_i _) (rfl) hS hP (rfl) dX7_does_195
  · refine nv_to 104 rfl ?_
    refine lv_tableIn (off := 152) (tgt := 196) hx hb dX7_does_44 (by decide +kernel) (by decide +kernel) rfl (by decide) ?_
    refine lv_aload_n hx hb dX7_does_196 rfl (lv_at hl 4 rfl) ?_
    refine lv_iload_n hx hb dX7_does_197 rfl (lv_at hl 3 rfl) ?_
    refine nv_kM (va_runV (As := [.int (To (k + 1))]) (rest := []) ⟨hx, hb, hml, hown, hts⟩ (c_X7_shuts l hD hG (To (k + 1))) (cwV 1 hts gX7_does_X7_shuts rfl rfl rfl (by decide +kernel) ⟨Nat.le_of_ble_eq_true rfl, Nat.le_of_ble_eq_true rfl⟩) (nv_pV hK hP (va_recv hK.1 hP (ci := 9) (q0 := 0) rfl rfl)) rfl rfl hl.1 rfl (lv_room (Nat.le_of_ble_eq_true rfl)) dX7_does_198 ⟨Nat.zero_le _, Nat.zero_le _⟩) hS (fun H locs hP hS => ?_)
    have hP : va_P D vwCl [(h, .inr (9, [.ref aG, .ref aB, .ref aH, .int (nI ch), .ref aS, .int (nI hs), .ref aI, .int (nI ty), .int ea, .int ra, .int (nI (vWy (vShut G (To (k + 1))) wy)), .int (vWd (vShut G (To (k + 1))) wd), .ref aL, .int (nI ln), .int (nI ((vShut G (To (k + 1))).1)), .int (nI sp), .int (nI iw), .ref aT])), (aG, .inl (cI, 128, .inl (gN ((vShut G (To (k + 1))).2.2.2.2)))), (aB, .inl (cI, 128, .inl (gN B))), (aH, .inl (cI, 1024, .inl (gN Hi))), (aS, .inl (cI, 128, .inl (gN Sv))), (aI, .inl (cI, 60, .inl (gN In))), (aL, .inl (cC, 40, .inl (gN Le))), (aT, .inl (cI, 360, .inl To))] H := hP
    exact nv_retM hq hx hb hr hlocks (nar_i _) (rfl) hS hP (rfl) dX7_does_201
  · refine nv_to 102 rfl ?_
    refine lv_tableIn (off := 158) (tgt := 202) hx hb dX7_does_44 (by decide +kernel) (by decide +kernel) rfl (by decide) ?_
    refine lv_aload_n hx hb dX7_does_202 rfl (lv_at hl 4 rfl) ?_
    refine lv_iload_n hx hb dX7_does_203 rfl (lv_at hl 3 rfl) ?_
    refine lv_iload_n hx hb dX7_does_204 rfl (lv_at hl 2 rfl) ?_
    refine nv_kM (va_runV (As := [.int (To (k + 1)), .int (To (k + 2))]) (rest := []) ⟨hx, hb, hml, hown, hts⟩ (c_X7_frees l hD hG (To (k + 1)) (To (k + 2))) (cwV 2 hts gX7_does_X7_frees rfl rfl rfl (by decide +kernel) ⟨Nat.le_of_ble_eq_true rfl, Nat.le_of_ble_eq_true rfl⟩) (nv_pV hK hP (va_recv hK.1 hP (ci := 9) (q0 := 0) rfl rfl)) rfl rfl hl.1 rfl (lv_room (Nat.le_of_ble_eq_true rfl)) dX7_does_205 ⟨Nat.zero_le _, Nat.zero_le _⟩) hS (fun H locs hP hS => ?_)
    have hP : va_P D vwCl [(h, .inr (9, [.ref aG, .ref aB, .ref aH, .int (nI ch), .ref aS, .int (nI hs), .ref aI, .int (nI ty), .int ea, .int ra, .int (nI (vWy (vFree G (To (k + 1)) (To (k + 2))) wy)), .int (vWd (vFree G (To (k + 1)) (To (k + 2))) wd), .ref aL, .int (nI ln), .int (nI ((vFree G (To (k + 1)) (To (k + 2))).1)), .int (nI sp), .int (nI iw), .ref aT])), (aG, .inl (cI, 128, .inl (gN ((vFree G (To (k + 1)) (To (k + 2))).2.2.2.2)))), (aB, .inl (cI, 128, .inl (gN B))), (aH, .inl (cI, 1024, .inl (gN Hi))), (aS, .inl (cI, 128, .inl (gN Sv))), (aI, .inl (cI, 60, .inl (gN In))), (aL, .inl (cC, 40, .inl (gN Le))), (aT, .inl (cI, 360, .inl To))] H := hP
    exact nv_retM hq hx hb hr hlocks (nar_i _) (rfl) hS hP (rfl) dX7_does_208
