def vow (k : Nat) : Nat := if k = 0 then 0 else (if k = 1 then 4 else (if k = 2 then 8 else (if k = 3 then 14 else 20)))
theorem nv_in0 {P : Prop} [Decidable P] (h : ¬ P) : nI 0 = nI (bI P) := by rw [bI_f h]
theorem nv_in1 {P : Prop} [Decidable P] (h : P) : nI 1 = nI (bI P) := by rw [bI_t h]
/-- a cell's content may be told by another function that agrees where the array is -/
theorem arr_congr {cA : ClassId} {n : Nat} {f g : Nat → Int32} (h : ∀ k, k < n → f k = g k) : vp_cell cA (n, .inl f) = vp_cell cA (n, .inl g) := by
  rw [vp_cell_i, vp_cell_i]
  unfold arrV
  congr 1
  congr 1
  funext j
  show Value.int (f j.val) = Value.int (g j.val)
  rw [h j.val j.isLt]
theorem va_P_arr {D : va_G} {cl : List vw_C} {ws : va_W} {H : Heap} (hP : va_P D cl ws H) (q : Nat) {a : Nat} {cA : ClassId} {n : Nat} {f : Nat → Int32} (g : Nat → Int32) (ha : ws[q]? = some (a, .inl (cA, n, .inl f))) (h : ∀ k, k < n → f k = g k) : va_P D cl (ws.set q (a, .inl (cA, n, .inl g))) H := by
  have hl := (List.getElem?_eq_some_iff.mp ha).1
  intro k x hk
  by_cases hkq : k = q
  · subst hkq
    rw [List.getElem?_set_self hl] at hk
    cases hk
    have h1 := hP k _ ha
    show H[a]? = some (vp_cell cA (n, .inl g))
    rw [← arr_congr h]
    exact h1
  · rw [List.getElem?_set_ne (Ne.symm hkq)] at hk
    exact hP k x hk
theorem gN_cpy (F T : Nat → Nat) (sp dp n : Nat) : gN (va_cpy F T sp dp n) = va_cpy (gN F) (gN T) sp dp n := by
  funext j
  unfold gN va_cpy
  split <;> rfl

set_option maxHeartbeats 1000000 in
set_option maxRecDepth 100000 in
theorem c_X7_thrown (l : Launch) {D : va_G} {cI cC : ClassId} {h aG aB aH aS aI aL aT : Nat} {G B Hi Sv In Le : Nat → Nat} {To : Nat → Int32} {ch hs ty wy ln th sp iw : Nat} {ea ra wd : Int32}  : Met l yX7_thrown wsX7_thrown ({ frames := 0, cells := 0, slots := 0, locals := 0 }) (va_Pc [.ref h] (sPre D [(cI, .int), (cC, .char)] [] (fun H => va_P D vwCl [(h, .inr (9, [.ref aG, .ref aB, .ref aH, .int (nI ch), .ref aS, .int (nI hs), .ref aI, .int (nI ty), .int ea, .int ra, .int (nI wy), .int wd, .ref aL, .int (nI ln), .int (nI th), .int (nI sp), .int (nI iw), .ref aT])), (aG, .inl (cI, 128, .inl (gN G))), (aB, .inl (cI, 128, .inl (gN B))), (aH, .inl (cI, 1024, .inl (gN Hi))), (aS, .inl (cI, 128, .inl (gN Sv))), (aI, .inl (cI, 60, .inl (gN In))), (aL, .inl (cC, 40, .inl (gN Le))), (aT, .inl (cI, 360, .inl To))] H))) (sQ (nI (th))) 0 0 (fun _ => False) := by
  refine nv_met (cc := cX7_thrown) (maxL := 1) (ret := (some .int)) (by decide) rfl (Nat.le_of_ble_eq_true rfl) ?_
  intro p0 e0 s m0 args below meth c0 Q hq hargs hnA hpre ls hl
  obtain ⟨hx, hb, hr, hts, hown, hlocks, hml⟩ := hnA
  obtain ⟨hP, hK⟩ := hpre
  have hown : s.vm.findClass RX7 = some m0.cls := hown
  have hP : va_P D vwCl [(h, .inr (9, [.ref aG, .ref aB, .ref aH, .int (nI ch), .ref aS, .int (nI hs), .ref aI, .int (nI ty), .int ea, .int ra, .int (nI wy), .int wd, .ref aL, .int (nI ln), .int (nI th), .int (nI sp), .int (nI iw), .ref aT])), (aG, .inl (cI, 128, .inl (gN G))), (aB, .inl (cI, 128, .inl (gN B))), (aH, .inl (cI, 1024, .inl (gN Hi))), (aS, .inl (cI, 128, .inl (gN Sv))), (aI, .inl (cI, 60, .inl (gN In))), (aL, .inl (cC, 40, .inl (gN Le))), (aT, .inl (cI, 360, .inl To))] s.heap := hP
  have hl : lv_has ls 1 [(0, .ref h)] := hl
  have in_X7 : ∀ w ∈ wsX70, w ∈ wsX7_thrown := by decide +kernel
  have fl_42 := hts (.fieldLink RX7 42 "DoorDialectModel" "thrown" "I") (by decide +kernel)
  refine lv_aload_n hx hb dX7_thrown_0 rfl (lv_at hl 0 rfl) ?_
  refine va_get (D := D) (ci := 9) (v := .int (nI th)) (C := RX7) (T := TX7) (N := 18) hx hb hts in_X7 hown hK.1 hP 0 rfl rfl 14 (by decide) fl_42 (fun _ h9 => h9) rfl dX7_thrown_1 ?_
  exact nv_retS hq hx hb hr hlocks (nar_i _) (rfl) dX7_thrown_4

set_option maxHeartbeats 1000000 in
set_option maxRecDepth 100000 in
theorem c_X7_in (l : Launch) {D : va_G} {cI cC : ClassId} (v lo hi : Int32) : Met l yX7_in wsX7_in ({ frames := 0, cells := 0, slots := 0, locals := 0 }) (va_Pc [.int v, .int lo, .int hi] (sPre D [(cI, .int), (cC, .char)] [] (fun _ => True))) (sQ (nI (bI (lo ≤ v ∧ v ≤ hi)))) 0 0 (fun _ => False) := by
  refine nv_met (cc := cX7_in) (maxL := 3) (ret := (some .boolean)) (by decide) rfl (Nat.le_of_ble_eq_true rfl) ?_
  intro p0 e0 s m0 args below meth c0 Q hq hargs hnA hpre ls hl
  obtain ⟨hx, hb, hr, hts, hown, hlocks, hml⟩ := hnA
  obtain ⟨hP, hK⟩ := hpre
  have hown : s.vm.findClass RX7 = some m0.cls := hown
  have hl : lv_has ls 3 [(0, .int v), (1, .int lo), (2, .int hi)] := hl
  refine lv_iload_n hx hb dX7_in_0 rfl (lv_at hl 0 rfl) ?_
  refine lv_iload_n hx hb dX7_in_1 rfl (lv_at hl 1 rfl) ?_
  refine lv_icmp_lt (tgt := 14) hx hb dX7_in_2 (by decide) (fun c1 => ?_) (fun c1 => ?_)
  · refine lv_iconst (v := nI 0) hx hb dX7_in_14 (by decide) ?_
    exact nv_retS hq hx hb hr hlocks (nar_z (by omega)) (nv_in0 (by rw [Int32.le_iff_toInt_le, Int32.le_iff_toInt_le]; rw [Int32.lt_iff_toInt_lt] at c1; omega)) dX7_in_15
  · refine lv_iload_n hx hb dX7_in_5 rfl (lv_at hl 0 rfl) ?_
    refine lv_iload_n hx hb dX7_in_6 rfl (lv_at hl 2 rfl) ?_
    refine lv_icmp_gt (tgt := 14) hx hb dX7_in_7 (by decide) (fun c2 => ?_) (fun c2 => ?_)
    · refine lv_iconst (v := nI 0) hx hb dX7_in_14 (by decide) ?_
      exact nv_retS hq hx hb hr hlocks (nar_z (by omega)) (nv_in0 (by rw [Int32.le_iff_toInt_le, Int32.le_iff_toInt_le]; rw [Int32.lt_iff_toInt_lt] at c2; omega)) dX7_in_15
    · refine lv_iconst (v := nI 1) hx hb dX7_in_10 (by decide) ?_
      refine lv_goto (tgt := 15) hx hb dX7_in_11 (by decide) ?_
      exact nv_retS hq hx hb hr hlocks (nar_z (by omega)) (nv_in1 (by rw [Int32.le_iff_toInt_le, Int32.le_iff_toInt_le]; rw [Int32.lt_iff_toInt_lt] at c1 c2; omega)) dX7_in_15

set_option maxHeartbeats 1000000 in
set_option maxRecDepth 100000 in
theorem c_X7_done (l : Launch) {D : va_G} {cI cC : ClassId} {h aG aB aH aS aI aL aT : Nat} {G B Hi Sv In Le : Nat → Nat} {To : Nat → Int32} {ch hs ty wy ln th sp iw : Nat} {ea ra wd : Int32} {A : Nat → Prop} (hD : ∀ (G B Hi Sv In Le : Nat → Nat) (To : Nat → Int32) (fs : List Value), va_D A [(h, .inr (9, fs)), (aG, .inl (cI, 128, .inl (gN G))), (aB, .inl (cI, 128, .inl (gN B))), (aH, .inl (cI, 1024, .inl (gN Hi))), (aS, .inl (cI, 128, .inl (gN Sv))), (aI, .inl (cI, 60, .inl (gN In))), (aL, .inl (cC, 40, .inl (gN Le))), (aT, .inl (cI, 360, .inl To))]) (v : Int32) : Met l yX7_done wsX7_done ({ frames := 0, cells := 0, slots := 0, locals := 0 }) (va_Pc [.ref h, .int v] (sPre D [(cI, .int), (cC, .char)] [] (fun H => va_P D vwCl [(h, .inr (9, [.ref aG, .ref aB, .ref aH, .int (nI ch), .ref aS, .int (nI hs), .ref aI, .int (nI ty), .int ea, .int ra, .int (nI wy), .int wd, .ref aL, .int (nI ln), .int (nI th), .int (nI sp), .int (nI iw), .ref aT])), (aG, .inl (cI, 128, .inl (gN G))), (aB, .inl (cI, 128, .inl (gN B))), (aH, .inl (cI, 1024, .inl (gN Hi))), (aS, .inl (cI, 128, .inl (gN Sv))), (aI, .inl (cI, 60, .inl (gN In))), (aL, .inl (cC, 40, .inl (gN Le))), (aT, .inl (cI, 360, .inl To))] H))) (mQ D (v) [(h, .inr (9, [.ref aG, .ref aB, .ref aH, .int (nI ch), .ref aS, .int (nI hs), .ref aI, .int (nI ty), .int ea, .int ra, .int (nI wy), .int wd, .ref aL, .int (nI ln), .int (nI 0), .int (nI sp), .int (nI iw), .ref aT])), (aG, .inl (cI, 128, .inl (gN G))), (aB, .inl (cI, 128, .inl (gN B))), (aH, .inl (cI, 1024, .inl (gN Hi))), (aS, .inl (cI, 128, .inl (gN Sv))), (aI, .inl (cI, 60, .inl (gN In))), (aL, .inl (cC, 40, .inl (gN Le))), (aT, .inl (cI, 360, .inl To))] A) 0 0 A := by
  refine nv_met (cc := cX7_done) (maxL := 2) (ret := (some .int)) (by decide) rfl (Nat.le_of_ble_eq_true rfl) ?_
  intro p0 e0 s m0 args below meth c0 Q hq hargs hnA hpre ls hl
  obtain ⟨hx, hb, hr, hts, hown, hlocks, hml⟩ := hnA
  obtain ⟨hP, hK⟩ := hpre
  have hown : s.vm.findClass RX7 = some m0.cls := hown
  have hP : va_P D vwCl [(h, .inr (9, [.ref aG, .ref aB, .ref aH, .int (nI ch), .ref aS, .int (nI hs), .ref aI, .int (nI ty), .int ea, .int ra, .int (nI wy), .int wd, .ref aL, .int (nI ln), .int (nI th), .int (nI sp), .int (nI iw), .ref aT])), (aG, .inl (cI, 128, .inl (gN G))), (aB, .inl (cI, 128, .inl (gN B))), (aH, .inl (cI, 1024, .inl (gN Hi))), (aS, .inl (cI, 128, .inl (gN Sv))), (aI, .inl (cI, 60, .inl (gN In))), (aL, .inl (cC, 40, .inl (gN Le))), (aT, .inl (cI, 360, .inl To))] s.heap := hP
  have hl : lv_has ls 2 [(0, .ref h), (1, .int v)] := hl
  have hS : va_S A s.heap s.heap [] := va_S.rf
  have in_X7 : ∀ w ∈ wsX70, w ∈ wsX7_done := by decide +kernel
  have fl_42 := hts (.fieldLink RX7 42 "DoorDialectModel" "thrown" "I") (by decide +kernel)
  refine lv_aload_n hx hb dX7_done_0 rfl (lv_at hl 0 rfl) ?_
  refine lv_iconst (v := nI 0) hx hb dX7_done_1 (by decide) ?_
  refine va_put (D := D) (ci := 9) (v := .int (nI 0)) (ty := .int) (C := RX7) (T := TX7) (N := 18) hx hb hts in_X7 tyX7 tyX7_ok nmX7 hown hK.1 hP (hD _ _ _ _ _ _ _ _) hS 0 rfl rfl 14 (by decide) fl_42 (fun _ h9 => h9) rfl (by decide +kernel) rfl rfl (Nat.le_of_ble_eq_true rfl) dX7_done_2 (fun H locs hP _ hS => ?_)
  have hP : va_P D vwCl [(h, .inr (9, [.ref aG, .ref aB, .ref aH, .int (nI ch), .ref aS, .int (nI hs), .ref aI, .int (nI ty), .int ea, .int ra, .int (nI wy), .int wd, .ref aL, .int (nI ln), .int (nI 0), .int (nI sp), .int (nI iw), .ref aT])), (aG, .inl (cI, 128, .inl (gN G))), (aB, .inl (cI, 128, .inl (gN B))), (aH, .inl (cI, 1024, .inl (gN Hi))), (aS, .inl (cI, 128, .inl (gN Sv))), (aI, .inl (cI, 60, .inl (gN In))), (aL, .inl (cC, 40, .inl (gN Le))), (aT, .inl (cI, 360, .inl To))] H := hP
  refine lv_iload_n hx hb dX7_done_5 rfl (lv_at hl 1 rfl) ?_
  exact nv_retM hq hx hb hr hlocks (nar_i _) (rfl) hS hP (rfl) dX7_done_6

set_option maxHeartbeats 1000000 in
set_option maxRecDepth 100000 in
theorem c_X7_fails (l : Launch) {D : va_G} {cI cC : ClassId} {h aG aB aH aS aI aL aT : Nat} {G B Hi Sv In Le : Nat → Nat} {To : Nat → Int32} {ch hs ty wy ln th sp iw : Nat} {ea ra wd : Int32} {A : Nat → Prop} (hD : ∀ (G B Hi Sv In Le : Nat → Nat) (To : Nat → Int32) (fs : List Value), va_D A [(h, .inr (9, fs)), (aG, .inl (cI, 128, .inl (gN G))), (aB, .inl (cI, 128, .inl (gN B))), (aH, .inl (cI, 1024, .inl (gN Hi))), (aS, .inl (cI, 128, .inl (gN Sv))), (aI, .inl (cI, 60, .inl (gN In))), (aL, .inl (cC, 40, .inl (gN Le))), (aT, .inl (cI, 360, .inl To))]) (n : Nat) : Met l yX7_fails wsX7_fails ({ frames := 0, cells := 0, slots := 0, locals := 0 }) (va_Pc [.ref h, .int (nI n)] (sPre D [(cI, .int), (cC, .char)] [] (fun H => va_P D vwCl [(h, .inr (9, [.ref aG, .ref aB, .ref aH, .int (nI ch), .ref aS, .int (nI hs), .ref aI, .int (nI ty), .int ea, .int ra, .int (nI wy), .int wd, .ref aL, .int (nI ln), .int (nI th), .int (nI sp), .int (nI iw), .ref aT])), (aG, .inl (cI, 128, .inl (gN G))), (aB, .inl (cI, 128, .inl (gN B))), (aH, .inl (cI, 1024, .inl (gN Hi))), (aS, .inl (cI, 128, .inl (gN Sv))), (aI, .inl (cI, 60, .inl (gN In))), (aL, .inl (cC, 40, .inl (gN Le))), (aT, .inl (cI, 360, .inl To))] H))) (mQ D (nI (0)) [(h, .inr (9, [.ref aG, .ref aB, .ref aH, .int (nI ch), .ref aS, .int (nI hs), .ref aI, .int (nI ty), .int ea, .int ra, .int (nI wy), .int wd, .ref aL, .int (nI ln), .int (nI n), .int (nI sp), .int (nI iw), .ref aT])), (aG, .inl (cI, 128, .inl (gN G))), (aB, .inl (cI, 128, .inl (gN B))), (aH, .inl (cI, 1024, .inl (gN Hi))), (aS, .inl (cI, 128, .inl (gN Sv))), (aI, .inl (cI, 60, .inl (gN In))), (aL, .inl (cC, 40, .inl (gN Le))), (aT, .inl (cI, 360, .inl To))] A) 0 0 A := by
  refine nv_met (cc := cX7_fails) (maxL := 2) (ret := (some .int)) (by decide) rfl (Nat.le_of_ble_eq_true rfl) ?_
  intro p0 e0 s m0 args below meth c0 Q hq hargs hnA hpre ls hl
  obtain ⟨hx, hb, hr, hts, hown, hlocks, hml⟩ := hnA
  obtain ⟨hP, hK⟩ := hpre
  have hown : s.vm.findClass RX7 = some m0.cls := hown
  have hP : va_P D vwCl [(h, .inr (9, [.ref aG, .ref aB, .ref aH, .int (nI ch), .ref aS, .int (nI hs), .ref aI, .int (nI ty), .int ea, .int ra, .int (nI wy), .int wd, .ref aL, .int (nI ln), .int (nI th), .int (nI sp), .int (nI iw), .ref aT])), (aG, .inl (cI, 128, .inl (gN G))), (aB, .inl (cI, 128, .inl (gN B))), (aH, .inl (cI, 1024, .inl (gN Hi))), (aS, .inl (cI, 128, .inl (gN Sv))), (aI, .inl (cI, 60, .inl (gN In))), (aL, .inl (cC, 40, .inl (gN Le))), (aT, .inl (cI, 360, .inl To))] s.heap := hP
  have hl : lv_has ls 2 [(0, .ref h), (1, .int (nI n))] := hl
  have hS : va_S A s.heap s.heap [] := va_S.rf
  have in_X7 : ∀ w ∈ wsX70, w ∈ wsX7_fails := by decide +kernel
  have fl_42 := hts (.fieldLink RX7 42 "DoorDialectModel" "thrown" "I") (by decide +kernel)
  refine lv_aload_n hx hb dX7_fails_0 rfl (lv_at hl 0 rfl) ?_
  refine lv_iload_n hx hb dX7_fails_1 rfl (lv_at hl 1 rfl) ?_
  refine va_put (D := D) (ci := 9) (v := .int (nI n)) (ty := .int) (C := RX7) (T := TX7) (N := 18) hx hb hts in_X7 tyX7 tyX7_ok nmX7 hown hK.1 hP (hD _ _ _ _ _ _ _ _) hS 0 rfl rfl 14 (by decide) fl_42 (fun _ h9 => h9) rfl (by decide +kernel) rfl rfl (Nat.le_of_ble_eq_true rfl) dX7_fails_2 (fun H locs hP _ hS => ?_)
  have hP : va_P D vwCl [(h, .inr (9, [.ref aG, .ref aB, .ref aH, .int (nI ch), .ref aS, .int (nI hs), .ref aI, .int (nI ty), .int ea, .int ra, .int (nI wy), .int wd, .ref aL, .int (nI ln), .int (nI n), .int (nI sp), .int (nI iw), .ref aT])), (aG, .inl (cI, 128, .inl (gN G))), (aB, .inl (cI, 128, .inl (gN B))), (aH, .inl (cI, 1024, .inl (gN Hi))), (aS, .inl (cI, 128, .inl (gN Sv))), (aI, .inl (cI, 60, .inl (gN In))), (aL, .inl (cC, 40, .inl (gN Le))), (aT, .inl (cI, 360, .inl To))] H := hP
  refine lv_iconst (v := nI 0) hx hb dX7_fails_5 (by decide) ?_
  exact nv_retM hq hx hb hr hlocks (nar_i _) (rfl) hS hP (rfl) dX7_fails_6

set_option maxHeartbeats 1000000 in
set_option maxRecDepth 100000 in
theorem c_X7_refused (l : Launch) {D : va_G} {cI cC : ClassId} {h aG aB aH aS aI aL aT : Nat} {G B Hi Sv In Le : Nat → Nat} {To : Nat → Int32} {ch hs ty wy ln th sp iw : Nat} {ea ra wd : Int32} {A : Nat → Prop} (hD : ∀ (G B Hi Sv In Le : Nat → Nat) (To : Nat → Int32) (fs : List Value), va_D A [(h, .inr (9, fs)), (aG, .inl (cI, 128, .inl (gN G))), (aB, .inl (cI, 128, .inl (gN B))), (aH, .inl (cI, 1024, .inl (gN Hi))), (aS, .inl (cI, 128, .inl (gN Sv))), (aI, .inl (cI, 60, .inl (gN In))), (aL, .inl (cC, 40, .inl (gN Le))), (aT, .inl (cI, 360, .inl To))]) (r : Nat) (x : Int32) (n : Nat) : Met l yX7_refused wsX7_refused ({ frames := 1, cells := 0, slots := 0, locals := 21 }) (va_Pc [.ref h, .int (nI r), .int x, .int (nI n)] (sPre D [(cI, .int), (cC, .char)] [] (fun H => va_P D vwCl [(h, .inr (9, [.ref aG, .ref aB, .ref aH, .int (nI ch), .ref aS, .int (nI hs), .ref aI, .int (nI ty), .int ea, .int ra, .int (nI wy), .int wd, .ref aL, .int (nI ln), .int (nI th), .int (nI sp), .int (nI iw), .ref aT])), (aG, .inl (cI, 128, .inl (gN G))), (aB, .inl (cI, 128, .inl (gN B))), (aH, .inl (cI, 1024, .inl (gN Hi))), (aS, .inl (cI, 128, .inl (gN Sv))), (aI, .inl (cI, 60, .inl (gN In))), (aL, .inl (cC, 40, .inl (gN Le))), (aT, .inl (cI, 360, .inl To))] H))) (mQ D (nI (0)) [(h, .inr (9, [.ref aG, .ref aB, .ref aH, .int (nI ch), .ref aS, .int (nI hs), .ref aI, .int (nI ty), .int ea, .int ra, .int (nI r), .int x, .ref aL, .int (nI ln), .int (nI n), .int (nI sp), .int (nI iw), .ref aT])), (aG, .inl (cI, 128, .inl (gN G))), (aB, .inl (cI, 128, .inl (gN B))), (aH, .inl (cI, 1024, .inl (gN Hi))), (aS, .inl (cI, 128, .inl (gN Sv))), (aI, .inl (cI, 60, .inl (gN In))), (aL, .inl (cC, 40, .inl (gN Le))), (aT, .inl (cI, 360, .inl To))] A) 0 0 A := by
  refine nv_met (cc := cX7_refused) (maxL := 4) (ret := (some .int)) (by decide) rfl (Nat.le_of_ble_eq_true rfl) ?_
  intro p0 e0 s m0 args below meth c0 Q hq hargs hnA hpre ls hl
  obtain ⟨hx, hb, hr, hts, hown, hlocks, hml⟩ := hnA
  obtain ⟨hP, hK⟩ := hpre
  have hown : s.vm.findClass RX7 = some m0.cls := hown
  have hP : va_P D vwCl [(h, .inr (9, [.ref aG, .ref aB, .ref aH, .int (nI ch), .ref aS, .int (nI hs), .ref aI, .int (nI ty), .int ea, .int ra, .int (nI wy), .int wd, .ref aL, .int (nI ln), .int (nI th), .int (nI sp), .int (nI iw), .ref aT])), (aG, .inl (cI, 128, .inl (gN G))), (aB, .inl (cI, 128, .inl (gN B))), (aH, .inl (cI, 1024, .inl (gN Hi))), (aS, .inl (cI, 128, .inl (gN Sv))), (aI, .inl (cI, 60, .inl (gN In))), (aL, .inl (cC, 40, .inl (gN Le))), (aT, .inl (cI, 360, .inl To))] s.heap := hP
  have hl : lv_has ls 4 [(0, .ref h), (1, .int (nI r)), (2, .int x), (3, .int (nI n))] := hl
  have hS : va_S A s.heap s.heap [] := va_S.rf
  have in_X7 : ∀ w ∈ wsX70, w ∈ wsX7_refused := by decide +kernel
  have fl_45 := hts (.fieldLink RX7 45 "DoorDialectModel" "why" "I") (by decide +kernel)
  have fl_48 := hts (.fieldLink RX7 48 "DoorDialectModel" "whyDetail" "I") (by decide +kernel)
  refine lv_aload_n hx hb dX7_refused_0 rfl (lv_at hl 0 rfl) ?_
  refine lv_iload_n hx hb dX7_refused_1 rfl (lv_at hl 1 rfl) ?_
  refine va_put (D := D) (ci := 9) (v := .int (nI r)) (ty := .int) (C := RX7) (T := TX7) (N := 18) hx hb hts in_X7 tyX7 tyX7_ok nmX7 hown hK.1 hP (hD _ _ _ _ _ _ _ _) hS 0 rfl rfl 10 (by decide) fl_45 (fun _ h9 => h9) rfl (by decide +kernel) rfl rfl (Nat.le_of_ble_eq_true rfl) dX7_refused_2 (fun H locs hP _ hS => ?_)
  have hP : va_P D vwCl [(h, .inr (9, [.ref aG, .ref aB, .ref aH, .int (nI ch), .ref aS, .int (nI hs), .ref aI, .int (nI ty), .int ea, .int ra, .int (nI r), .int wd, .ref aL, .int (nI ln), .int (nI th), .int (nI sp), .int (nI iw), .ref aT])), (aG, .inl (cI, 128, .inl (gN G))), (aB, .inl (cI, 128, .inl (gN B))), (aH, .inl (cI, 1024, .inl (gN Hi))), (aS, .inl (cI, 128, .inl (gN Sv))), (aI, .inl (cI, 60, .inl (gN In))), (aL, .inl (cC, 40, .inl (gN Le))), (aT, .inl (cI, 360, .inl To))] H := hP
  refine lv_aload_n hx hb dX7_refused_5 rfl (lv_at hl 0 rfl) ?_
  refine lv_iload_n hx hb dX7_refused_6 rfl (lv_at hl 2 rfl) ?_
  refine va_put (D := D) (ci := 9) (v := .int x) (ty := .int) (C := RX7) (T := TX7) (N := 18) hx hb hts in_X7 tyX7 tyX7_ok nmX7 hown hK.1 hP (hD _ _ _ _ _ _ _ _) hS 0 rfl rfl 11 (by decide) fl_48 (fun _ h9 => h9) rfl (by decide +kernel) rfl rfl (Nat.le_of_ble_eq_true rfl) dX7_refused_7 (fun H locs hP _ hS => ?_)
  have hP : va_P D vwCl [(h, .inr (9, [.ref aG, .ref aB, .ref aH, .int (nI ch), .ref aS, .int (nI hs), .ref aI, .int (nI ty), .int ea, .int ra, .int (nI r), .int x, .ref aL, .int (nI ln), .int (nI th), .int (nI sp), .int (nI iw), .ref aT])), (aG, .inl (cI, 128, .inl (gN G))), (aB, .inl (cI, 128, .inl (gN B))), (aH, .inl (cI, 1024, .inl (gN Hi))), (aS, .inl (cI, 128, .inl (gN Sv))), (aI, .inl (cI, 60, .inl (gN In))), (aL, .inl (cC, 40, .inl (gN Le))), (aT, .inl (cI, 360, .inl To))] H := hP
  refine lv_aload_n hx hb dX7_refused_10 rfl (lv_at hl 0 rfl) ?_
  refine lv_iload_n hx hb dX7_refused_11 rfl (lv_at hl 3 rfl) ?_
  refine nv_kM (va_runV (As := [.int (nI n)]) (rest := []) ⟨hx, hb, hml, hown, hts⟩ (c_X7_fails l hD n) (cwV 1 hts gX7_refused_X7_fails rfl rfl rfl (by decide +kernel) ⟨Nat.le_of_ble_eq_true rfl, Nat.le_of_ble_eq_true rfl⟩) (nv_pV hK hP (va_recv hK.1 hP (ci := 9) (q0 := 0) rfl rfl)) rfl rfl hl.1 rfl (lv_room (Nat.le_of_ble_eq_true rfl)) dX7_refused_12 ⟨Nat.zero_le _, Nat.zero_le _⟩) hS (fun H locs hP hS => ?_)
  have hP : va_P D vwCl [(h, .inr (9, [.ref aG, .ref aB, .ref aH, .int (nI ch), .ref aS, .int (nI hs), .ref aI, .int (nI ty), .int ea, .int ra, .int (nI r), .int x, .ref aL, .int (nI ln), .int (nI n), .int (nI sp), .int (nI iw), .ref aT])), (aG, .inl (cI, 128, .inl (gN G))), (aB, .inl (cI, 128, .inl (gN B))), (aH, .inl (cI, 1024, .inl (gN Hi))), (aS, .inl (cI, 128, .inl (gN Sv))), (aI, .inl (cI, 60, .inl (gN In))), (aL, .inl (cC, 40, .inl (gN Le))), (aT, .inl (cI, 360, .inl To))] H := hP
  exact nv_retM hq hx hb hr hlocks (nar_i _) (rfl) hS hP (rfl) dX7_refused_15

set_option maxHeartbeats 1000000 in
set_option maxRecDepth 100000 in
theorem c_X7_vowel (l : Launch) {D : va_G} {cI cC : ClassId} (k : Nat) (hk : k < 5) : Met l yX7_vowel wsX7_vowel ({ frames := 0, cells := 0, slots := 0, locals := 0 }) (va_Pc [.int (nI k)] (sPre D [(cI, .int), (cC, .char)] [] (fun _ => True))) (sQ (nI (vow k))) 0 0 (fun _ => False) := by
  refine nv_met (cc := cX7_vowel) (maxL := 1) (ret := (some .int)) (by decide) rfl (Nat.le_of_ble_eq_true rfl) ?_
  intro p0 e0 s m0 args below meth c0 Q hq hargs hnA hpre ls hl
  obtain ⟨hx, hb, hr, hts, hown, hlocks, hml⟩ := hnA
  obtain ⟨hP, hK⟩ := hpre
  have hown : s.vm.findClass RX7 = some m0.cls := hown
  have hl : lv_has ls 1 [(0, .int (nI k))] := hl
  refine lv_iload_n hx hb dX7_vowel_0 rfl (lv_at hl 0 rfl) ?_
  refine nv_jn (α := Nat) (fun r => W p0 l e0 ({ frames := 0, cells := 0, slots := 0, locals := 0 }) s m0 args below meth c0 s.heap [] 0 0 Q (F0 m0 39 ls (.int (nI r) :: []))) ((if k = 0 then 0 else (if k = 1 then 4 else (if k = 2 then 8 else (if k = 3 then 14 else 20))))) (fun r er => ?_) (fun hJ => ?_)
  · subst er
    exact nv_retS hq hx hb hr hlocks (nar_i _) (rfl) dX7_vowel_39
  · refine nv_if_ne (tgt := 8) hx hb dX7_vowel_1 (by decide) (by omega) (fun c1 => ?_) (fun c1 => ?_)
    · refine lv_iload_n hx hb dX7_vowel_8 rfl (lv_at hl 0 rfl) ?_
      refine lv_iconst (v := nI 1) hx hb dX7_vowel_9 (by decide) ?_
      refine nv_icmp_ne (tgt := 17) hx hb dX7_vowel_10 (by decide) (by omega) (by omega) (fun c2 => ?_) (fun c2 => ?_)
      · refine lv_iload_n hx hb dX7_vowel_17 rfl (lv_at hl 0 rfl) ?_
        refine lv_iconst (v := nI 2) hx hb dX7_vowel_18 (by decide) ?_
        refine nv_icmp_ne (tgt := 27) hx hb dX7_vowel_19 (by decide) (by omega) (by omega) (fun c3 => ?_) (fun c3 => ?_)
        · refine lv_iload_n hx hb dX7_vowel_27 rfl (lv_at hl 0 rfl) ?_
          refine lv_iconst (v := nI 3) hx hb dX7_vowel_28 (by decide) ?_
          refine nv_icmp_ne (tgt := 37) hx hb dX7_vowel_29 (by decide) (by omega) (by omega) (fun c4 => ?_) (fun c4 => ?_)
          · refine lv_bipush (v := nI 20) hx hb dX7_vowel_37 (by decide) ?_
            exact hJ _ (by rw [if_neg c1, if_neg c2, if_neg c3, if_neg c4])
          · refine lv_bipush (v := nI 14) hx hb dX7_vowel_32 (by decide) ?_
            refine lv_goto (tgt := 39) hx hb dX7_vowel_34 (by decide) ?_
            exact hJ _ (by rw [if_neg c1, if_neg c2, if_neg c3, if_pos c4])
        · refine lv_bipush (v := nI 8) hx hb dX7_vowel_22 (by decide) ?_
          refine lv_goto (tgt := 39) hx hb dX7_vowel_24 (by decide) ?_
          exact hJ _ (by rw [if_neg c1, if_neg c2, if_pos c3])
      · refine lv_iconst (v := nI 4) hx hb dX7_vowel_13 (by decide) ?_
        refine lv_goto (tgt := 39) hx hb dX7_vowel_14 (by decide) ?_
        exact hJ _ (by rw [if_neg c1, if_pos c2])
    · refine lv_iconst (v := nI 0) hx hb dX7_vowel_4 (by decide) ?_
      refine lv_goto (tgt := 39) hx hb dX7_vowel_5 (by decide) ?_
      exact hJ _ (if_pos c1).symm

set_option maxHeartbeats 1000000 in
set_option maxRecDepth 100000 in
theorem c_X7_endingAt (l : Launch) {D : va_G} {cI cC : ClassId} (a c n : Nat) : Met l yX7_endingAt wsX7_endingAt ({ frames := 0, cells := 0, slots := 0, locals := 0 }) (va_Pc [.int (nI a), .int (nI c), .int (nI n)] (sPre D [(cI, .int), (cC, .char)] [] (fun _ => True))) (sQ (nI (gEndAt a c n))) 0 0 (fun _ => False) := by
  refine nv_met (cc := cX7_endingAt) (maxL := 3) (ret := (some .int)) (by decide) rfl (Nat.le_of_ble_eq_true rfl) ?_
  intro p0 e0 s m0 args below meth c0 Q hq hargs hnA hpre ls hl
  obtain ⟨hx, hb, hr, hts, hown, hlocks, hml⟩ := hnA
  obtain ⟨hP, hK⟩ := hpre
  have hown : s.vm.findClass RX7 = some m0.cls := hown
  have hl : lv_has ls 3 [(0, .int (nI a)), (1, .int (nI c)), (2, .int (nI n))] := hl
  refine lv_bipush (v := nI 8) hx hb dX7_endingAt_0 (by decide) ?_
  refine lv_iconst (v := nI 2) hx hb dX7_endingAt_2 (by decide) ?_
  refine lv_iconst (v := nI 4) hx hb dX7_endingAt_3 (by decide) ?_
  refine lv_iload_n hx hb dX7_endingAt_4 rfl (lv_at hl 0 rfl) ?_
  refine nv_imul hx hb dX7_endingAt_5 ?_
  refine lv_iload_n hx hb dX7_endingAt_6 rfl (lv_at hl 1 rfl) ?_
  refine nv_iadd hx hb dX7_endingAt_7 ?_
  refine nv_imul hx hb dX7_endingAt_8 ?_
  refine nv_iadd hx hb dX7_endingAt_9 ?_
  refine lv_iload_n hx hb dX7_endingAt_10 rfl (lv_at hl 2 rfl) ?_
  refine nv_iadd hx hb dX7_endingAt_11 ?_
  exact nv_retS hq hx hb hr hlocks (nar_i _) (rfl) dX7_endingAt_12

set_option maxHeartbeats 1000000 in
set_option maxRecDepth 100000 in
theorem c_X7_isThird (l : Launch) {D : va_G} {cI cC : ClassId} (v : Int32) : Met l yX7_isThird wsX7_isThird ({ frames := 1, cells := 0, slots := 0, locals := 22 }) (va_Pc [.int v] (sPre D [(cI, .int), (cC, .char)] [] (fun _ => True))) (sQ (nI (bI (iR v 3)))) 0 0 (fun _ => False) := by
  refine nv_met (cc := cX7_isThird) (maxL := 1) (ret := (some .boolean)) (by decide) rfl (Nat.le_of_ble_eq_true rfl) ?_
  intro p0 e0 s m0 args below meth c0 Q hq hargs hnA hpre ls hl
  obtain ⟨hx, hb, hr, hts, hown, hlocks, hml⟩ := hnA
  obtain ⟨hP, hK⟩ := hpre
  have hown : s.vm.findClass RX7 = some m0.cls := hown
  have hl : lv_has ls 1 [(0, .int v)] := hl
  refine lv_iload_n hx hb dX7_isThird_0 rfl (lv_at hl 0 rfl) ?_
  refine lv_iconst (v := nI 0) hx hb dX7_isThird_1 (by decide) ?_
  refine lv_iconst (v := nI 2) hx hb dX7_isThird_2 (by decide) ?_
  refine nv_kS (va_runS (As := [.int v, .int (nI 0), .int (nI 2)]) (rest := []) ⟨hx, hb, hml, hown, hts⟩ (c_X7_in l (v) (nI (0)) (nI (2))) (va_cwS 3 hts gX7_isThird_X7_in rfl rfl rfl (by decide +kernel) ⟨Nat.le_of_ble_eq_true rfl, Nat.le_of_ble_eq_true rfl⟩) (nv_pS hK trivial) rfl rfl hl.1 rfl (lv_room (Nat.le_of_ble_eq_true rfl)) dX7_isThird_3 ⟨Nat.zero_le _, Nat.zero_le _⟩) ?_
  exact nv_retS hq hx hb hr hlocks (nar_zb _) (congrArg nI (bI_congr (iR_in2 (n := 2) (by decide)))) dX7_isThird_6

set_option maxHeartbeats 1000000 in
set_option maxRecDepth 100000 in
theorem c_X7_isCase (l : Launch) {D : va_G} {cI cC : ClassId} (v : Int32) : Met l yX7_isCase wsX7_isCase ({ frames := 1, cells := 0, slots := 0, locals := 22 }) (va_Pc [.int v] (sPre D [(cI, .int), (cC, .char)] [] (fun _ => True))) (sQ (nI (bI (iR v 4)))) 0 0 (fun _ => False) := by
  refine nv_met (cc := cX7_isCase) (maxL := 1) (ret := (some .boolean)) (by decide) rfl (Nat.le_of_ble_eq_true rfl) ?_
  intro p0 e0 s m0 args below meth c0 Q hq hargs hnA hpre ls hl
  obtain ⟨hx, hb, hr, hts, hown, hlocks, hml⟩ := hnA
  obtain ⟨hP, hK⟩ := hpre
  have hown : s.vm.findClass RX7 = some m0.cls := hown
  have hl : lv_has ls 1 [(0, .int v)] := hl
  refine lv_iload_n hx hb dX7_isCase_0 rfl (lv_at hl 0 rfl) ?_
  refine lv_iconst (v := nI 0) hx hb dX7_isCase_1 (by decide) ?_
  refine lv_iconst (v := nI 3) hx hb dX7_isCase_2 (by decide) ?_
  refine nv_kS (va_runS (As := [.int v, .int (nI 0), .int (nI 3)]) (rest := []) ⟨hx, hb, hml, hown, hts⟩ (c_X7_in l (v) (nI (0)) (nI (3))) (va_cwS 3 hts gX7_isCase_X7_in rfl rfl rfl (by decide +kernel) ⟨Nat.le_of_ble_eq_true rfl, Nat.le_of_ble_eq_true rfl⟩) (nv_pS hK trivial) rfl rfl hl.1 rfl (lv_room (Nat.le_of_ble_eq_true rfl)) dX7_isCase_3 ⟨Nat.zero_le _, Nat.zero_le _⟩) ?_
  exact nv_retS hq hx hb hr hlocks (nar_zb _) (congrArg nI (bI_congr (iR_in2 (n := 3) (by decide)))) dX7_isCase_6

set_option maxHeartbeats 1000000 in
set_option maxRecDepth 100000 in
theorem c_X7_isRoom (l : Launch) {D : va_G} {cI cC : ClassId} (v : Int32) : Met l yX7_isRoom wsX7_isRoom ({ frames := 1, cells := 0, slots := 0, locals := 22 }) (va_Pc [.int v] (sPre D [(cI, .int), (cC, .char)] [] (fun _ => True))) (sQ (nI (bI (iR v 6)))) 0 0 (fun _ => False) := by
  refine nv_met (cc := cX7_isRoom) (maxL := 1) (ret := (some .boolean)) (by decide) rfl (Nat.le_of_ble_eq_true rfl) ?_
  intro p0 e0 s m0 args below meth c0 Q hq hargs hnA hpre ls hl
  obtain ⟨hx, hb, hr, hts, hown, hlocks, hml⟩ := hnA
  obtain ⟨hP, hK⟩ := hpre
  have hown : s.vm.findClass RX7 = some m0.cls := hown
  have hl : lv_has ls 1 [(0, .int v)] := hl
  refine lv_iload_n hx hb dX7_isRoom_0 rfl (lv_at hl 0 rfl) ?_
  refine lv_iconst (v := nI 0) hx hb dX7_isRoom_1 (by decide) ?_
  refine lv_iconst (v := nI 5) hx hb dX7_isRoom_2 (by decide) ?_
  refine nv_kS (va_runS (As := [.int v, .int (nI 0), .int (nI 5)]) (rest := []) ⟨hx, hb, hml, hown, hts⟩ (c_X7_in l (v) (nI (0)) (nI (5))) (va_cwS 3 hts gX7_isRoom_X7_in rfl rfl rfl (by decide +kernel) ⟨Nat.le_of_ble_eq_true rfl, Nat.le_of_ble_eq_true rfl⟩) (nv_pS hK trivial) rfl rfl hl.1 rfl (lv_room (Nat.le_of_ble_eq_true rfl)) dX7_isRoom_3 ⟨Nat.zero_le _, Nat.zero_le _⟩) ?_
  exact nv_retS hq hx hb hr hlocks (nar_zb _) (congrArg nI (bI_congr (iR_in2 (n := 5) (by decide)))) dX7_isRoom_6

set_option maxHeartbeats 1000000 in
set_option maxRecDepth 100000 in
theorem c_X7_isDoor (l : Launch) {D : va_G} {cI cC : ClassId} {h aG aB aH aS aI aL aT : Nat} {G B Hi Sv In Le : Nat → Nat} {To : Nat → Int32} {ch hs ty wy ln th sp iw : Nat} {ea ra wd : Int32} (v : Int32) (h0 : G 0 < 2 ^ 31) : Met l yX7_isDoor wsX7_isDoor ({ frames := 1, cells := 0, slots := 0, locals := 22 }) (va_Pc [.ref h, .int v] (sPre D [(cI, .int), (cC, .char)] [] (fun H => va_P D vwCl [(h, .inr (9, [.ref aG, .ref aB, .ref aH, .int (nI ch), .ref aS, .int (nI hs), .ref aI, .int (nI ty), .int ea, .int ra, .int (nI wy), .int wd, .ref aL, .int (nI ln), .int (nI th), .int (nI sp), .int (nI iw), .ref aT])), (aG, .inl (cI, 128, .inl (gN G))), (aB, .inl (cI, 128, .inl (gN B))), (aH, .inl (cI, 1024, .inl (gN Hi))), (aS, .inl (cI, 128, .inl (gN Sv))), (aI, .inl (cI, 60, .inl (gN In))), (aL, .inl (cC, 40, .inl (gN Le))), (aT, .inl (cI, 360, .inl To))] H))) (sQ (nI (bI (iR v (G 0))))) 0 0 (fun _ => False) := by
  refine nv_met (cc := cX7_isDoor) (maxL := 2) (ret := (some .boolean)) (by decide) rfl (Nat.le_of_ble_eq_true rfl) ?_
  intro p0 e0 s m0 args below meth c0 Q hq hargs hnA hpre ls hl
  obtain ⟨hx, hb, hr, hts, hown, hlocks, hml⟩ := hnA
  obtain ⟨hP, hK⟩ := hpre
  have hown : s.vm.findClass RX7 = some m0.cls := hown
  have hP : va_P D vwCl [(h, .inr (9, [.ref aG, .ref aB, .ref aH, .int (nI ch), .ref aS, .int (nI hs), .ref aI, .int (nI ty), .int ea, .int ra, .int (nI wy), .int wd, .ref aL, .int (nI ln), .int (nI th), .int (nI sp), .int (nI iw), .ref aT])), (aG, .inl (cI, 128, .inl (gN G))), (aB, .inl (cI, 128, .inl (gN B))), (aH, .inl (cI, 1024, .inl (gN Hi))), (aS, .inl (cI, 128, .inl (gN Sv))), (aI, .inl (cI, 60, .inl (gN In))), (aL, .inl (cC, 40, .inl (gN Le))), (aT, .inl (cI, 360, .inl To))] s.heap := hP
  have hl : lv_has ls 2 [(0, .ref h), (1, .int v)] := hl
  have in_X7 : ∀ w ∈ wsX70, w ∈ wsX7_isDoor := by decide +kernel
  have fl_7 := hts (.fieldLink RX7 7 "DoorDialectModel" "g" "[I") (by decide +kernel)
  refine lv_iload_n hx hb dX7_isDoor_0 rfl (lv_at hl 1 rfl) ?_
  refine lv_iconst (v := nI 0) hx hb dX7_isDoor_1 (by decide) ?_
  refine lv_aload_n hx hb dX7_isDoor_2 rfl (lv_at hl 0 rfl) ?_
  refine va_get (D := D) (ci := 9) (v := .ref aG) (C := RX7) (T := TX7) (N := 18) hx hb hts in_X7 hown hK.1 hP 0 rfl rfl 0 (by decide) fl_7 (fun _ h9 => h9) rfl dX7_isDoor_3 ?_
  refine lv_iconst (v := nI 0) hx hb dX7_isDoor_6 (by decide) ?_
  refine nv_gald (i := 0) hx hb hK.1 hP 1 0 rfl rfl (by first | omega | (simp only [gEndAt]; omega)) (by decide) dX7_isDoor_7 ?_
  refine lv_iconst (v := nI 1) hx hb dX7_isDoor_8 (by decide) ?_
  refine lv_isub hx hb dX7_isDoor_9 ?_
  refine nv_kS (va_runS (As := [.int v, .int (nI 0), .int ((nI (G 0)) - (nI (1)))]) (rest := []) ⟨hx, hb, hml, hown, hts⟩ (c_X7_in l (v) (nI (0)) ((nI (G 0)) - (nI (1)))) (va_cwS 3 hts gX7_isDoor_X7_in rfl rfl rfl (by decide +kernel) ⟨Nat.le_of_ble_eq_true rfl, Nat.le_of_ble_eq_true rfl⟩) (nv_pS hK trivial) rfl rfl hl.1 rfl (lv_room (Nat.le_of_ble_eq_true rfl)) dX7_isDoor_10 ⟨Nat.zero_le _, Nat.zero_le _⟩) ?_
  exact nv_retS hq hx hb hr hlocks (nar_zb _) (congrArg nI (bI_congr (iR_in h0))) dX7_isDoor_13

set_option maxHeartbeats 1000000 in
set_option maxRecDepth 100000 in
theorem c_X7_isSill (l : Launch) {D : va_G} {cI cC : ClassId} {h aG aB aH aS aI aL aT : Nat} {G B Hi Sv In Le : Nat → Nat} {To : Nat → Int32} {ch hs ty wy ln th sp iw : Nat} {ea ra wd : Int32} (v : Int32) (h0 : G 1 < 2 ^ 31) : Met l yX7_isSill wsX7_isSill ({ frames := 1, cells := 0, slots := 0, locals := 22 }) (va_Pc [.ref h, .int v] (sPre D [(cI, .int), (cC, .char)] [] (fun H => va_P D vwCl [(h, .inr (9, [.ref aG, .ref aB, .ref aH, .int (nI ch), .ref aS, .int (nI hs), .ref aI, .int (nI ty), .int ea, .int ra, .int (nI wy), .int wd, .ref aL, .int (nI ln), .int (nI th), .int (nI sp), .int (nI iw), .ref aT])), (aG, .inl (cI, 128, .inl (gN G))), (aB, .inl (cI, 128, .inl (gN B))), (aH, .inl (cI, 1024, .inl (gN Hi))), (aS, .inl (cI, 128, .inl (gN Sv))), (aI, .inl (cI, 60, .inl (gN In))), (aL, .inl (cC, 40, .inl (gN Le))), (aT, .inl (cI, 360, .inl To))] H))) (sQ (nI (bI (iR v (G 1))))) 0 0 (fun _ => False) := by
  refine nv_met (cc := cX7_isSill) (maxL := 2) (ret := (some .boolean)) (by decide) rfl (Nat.le_of_ble_eq_true rfl) ?_
  intro p0 e0 s m0 args below meth c0 Q hq hargs hnA hpre ls hl
  obtain ⟨hx, hb, hr, hts, hown, hlocks, hml⟩ := hnA
  obtain ⟨hP, hK⟩ := hpre
  have hown : s.vm.findClass RX7 = some m0.cls := hown
  have hP : va_P D vwCl [(h, .inr (9, [.ref aG, .ref aB, .ref aH, .int (nI ch), .ref aS, .int (nI hs), .ref aI, .int (nI ty), .int ea, .int ra, .int (nI wy), .int wd, .ref aL, .int (nI ln), .int (nI th), .int (nI sp), .int (nI iw), .ref aT])), (aG, .inl (cI, 128, .inl (gN G))), (aB, .inl (cI, 128, .inl (gN B))), (aH, .inl (cI, 1024, .inl (gN Hi))), (aS, .inl (cI, 128, .inl (gN Sv))), (aI, .inl (cI, 60, .inl (gN In))), (aL, .inl (cC, 40, .inl (gN Le))), (aT, .inl (cI, 360, .inl To))] s.heap := hP
  have hl : lv_has ls 2 [(0, .ref h), (1, .int v)] := hl
  have in_X7 : ∀ w ∈ wsX70, w ∈ wsX7_isSill := by decide +kernel
  have fl_7 := hts (.fieldLink RX7 7 "DoorDialectModel" "g" "[I") (by decide +kernel)
  refine lv_iload_n hx hb dX7_isSill_0 rfl (lv_at hl 1 rfl) ?_
  refine lv_iconst (v := nI 0) hx hb dX7_isSill_1 (by decide) ?_
  refine lv_aload_n hx hb dX7_isSill_2 rfl (lv_at hl 0 rfl) ?_
  refine va_get (D := D) (ci := 9) (v := .ref aG) (C := RX7) (T := TX7) (N := 18) hx hb hts in_X7 hown hK.1 hP 0 rfl rfl 0 (by decide) fl_7 (fun _ h9 => h9) rfl dX7_isSill_3 ?_
  refine lv_iconst (v := nI 1) hx hb dX7_isSill_6 (by decide) ?_
  refine nv_gald (i := 1) hx hb hK.1 hP 1 0 rfl rfl (by first | omega | (simp only [gEndAt]; omega)) (by decide) dX7_isSill_7 ?_
  refine lv_iconst (v := nI 1) hx hb dX7_isSill_8 (by decide) ?_
  refine lv_isub hx hb dX7_isSill_9 ?_
  refine nv_kS (va_runS (As := [.int v, .int (nI 0), .int ((nI (G 1)) - (nI (1)))]) (rest := []) ⟨hx, hb, hml, hown, hts⟩ (c_X7_in l (v) (nI (0)) ((nI (G 1)) - (nI (1)))) (va_cwS 3 hts gX7_isSill_X7_in rfl rfl rfl (by decide +kernel) ⟨Nat.le_of_ble_eq_true rfl, Nat.le_of_ble_eq_true rfl⟩) (nv_pS hK trivial) rfl rfl hl.1 rfl (lv_room (Nat.le_of_ble_eq_true rfl)) dX7_isSill_10 ⟨Nat.zero_le _, Nat.zero_le _⟩) ?_
  exact nv_retS hq hx hb hr hlocks (nar_zb _) (congrArg nI (bI_congr (iR_in h0))) dX7_isSill_13

set_option maxHeartbeats 1000000 in
set_option maxRecDepth 100000 in
theorem c_X7_isKey (l : Launch) {D : va_G} {cI cC : ClassId} {h aG aB aH aS aI aL aT : Nat} {G B Hi Sv In Le : Nat → Nat} {To : Nat → Int32} {ch hs ty wy ln th sp iw : Nat} {ea ra wd : Int32} (v : Int32) (h0 : G 2 < 2 ^ 31) : Met l yX7_isKey wsX7_isKey ({ frames := 1, cells := 0, slots := 0, locals := 22 }) (va_Pc [.ref h, .int v] (sPre D [(cI, .int), (cC, .char)] [] (fun H => va_P D vwCl [(h, .inr (9, [.ref aG, .ref aB, .ref aH, .int (nI ch), .ref aS, .int (nI hs), .ref aI, .int (nI ty), .int ea, .int ra, .int (nI wy), .int wd, .ref aL, .int (nI ln), .int (nI th), .int (nI sp), .int (nI iw), .ref aT])), (aG, .inl (cI, 128, .inl (gN G))), (aB, .inl (cI, 128, .inl (gN B))), (aH, .inl (cI, 1024, .inl (gN Hi))), (aS, .inl (cI, 128, .inl (gN Sv))), (aI, .inl (cI, 60, .inl (gN In))), (aL, .inl (cC, 40, .inl (gN Le))), (aT, .inl (cI, 360, .inl To))] H))) (sQ (nI (bI (iR v (G 2))))) 0 0 (fun _ => False) := by
  refine nv_met (cc := cX7_isKey) (maxL := 2) (ret := (some .boolean)) (by decide) rfl (Nat.le_of_ble_eq_true rfl) ?_
  intro p0 e0 s m0 args below meth c0 Q hq hargs hnA hpre ls hl
  obtain ⟨hx, hb, hr, hts, hown, hlocks, hml⟩ := hnA
  obtain ⟨hP, hK⟩ := hpre
  have hown : s.vm.findClass RX7 = some m0.cls := hown
  have hP : va_P D vwCl [(h, .inr (9, [.ref aG, .ref aB, .ref aH, .int (nI ch), .ref aS, .int (nI hs), .ref aI, .int (nI ty), .int ea, .int ra, .int (nI wy), .int wd, .ref aL, .int (nI ln), .int (nI th), .int (nI sp), .int (nI iw), .ref aT])), (aG, .inl (cI, 128, .inl (gN G))), (aB, .inl (cI, 128, .inl (gN B))), (aH, .inl (cI, 1024, .inl (gN Hi))), (aS, .inl (cI, 128, .inl (gN Sv))), (aI, .inl (cI, 60, .inl (gN In))), (aL, .inl (cC, 40, .inl (gN Le))), (aT, .inl (cI, 360, .inl To))] s.heap := hP
  have hl : lv_has ls 2 [(0, .ref h), (1, .int v)] := hl
  have in_X7 : ∀ w ∈ wsX70, w ∈ wsX7_isKey := by decide +kernel
  have fl_7 := hts (.fieldLink RX7 7 "DoorDialectModel" "g" "[I") (by decide +kernel)
  refine lv_iload_n hx hb dX7_isKey_0 rfl (lv_at hl 1 rfl) ?_
  refine lv_iconst (v := nI 0) hx hb dX7_isKey_1 (by decide) ?_
  refine lv_aload_n hx hb dX7_isKey_2 rfl (lv_at hl 0 rfl) ?_
  refine va_get (D := D) (ci := 9) (v := .ref aG) (C := RX7) (T := TX7) (N := 18) hx hb hts in_X7 hown hK.1 hP 0 rfl rfl 0 (by decide) fl_7 (fun _ h9 => h9) rfl dX7_isKey_3 ?_
  refine lv_iconst (v := nI 2) hx hb dX7_isKey_6 (by decide) ?_
  refine nv_gald (i := 2) hx hb hK.1 hP 1 0 rfl rfl (by first | omega | (simp only [gEndAt]; omega)) (by decide) dX7_isKey_7 ?_
  refine lv_iconst (v := nI 1) hx hb dX7_isKey_8 (by decide) ?_
  refine lv_isub hx hb dX7_isKey_9 ?_
  refine nv_kS (va_runS (As := [.int v, .int (nI 0), .int ((nI (G 2)) - (nI (1)))]) (rest := []) ⟨hx, hb, hml, hown, hts⟩ (c_X7_in l (v) (nI (0)) ((nI (G 2)) - (nI (1)))) (va_cwS 3 hts gX7_isKey_X7_in rfl rfl rfl (by decide +kernel) ⟨Nat.le_of_ble_eq_true rfl, Nat.le_of_ble_eq_true rfl⟩) (nv_pS hK trivial) rfl rfl hl.1 rfl (lv_room (Nat.le_of_ble_eq_true rfl)) dX7_isKey_10 ⟨Nat.zero_le _, Nat.zero_le _⟩) ?_
  exact nv_retS hq hx hb hr hlocks (nar_zb _) (congrArg nI (bI_congr (iR_in h0))) dX7_isKey_13

set_option maxHeartbeats 1000000 in
set_option maxRecDepth 100000 in
theorem c_X7_caseOf (l : Launch) {D : va_G} {cI cC : ClassId} {h aG aB aH aS aI aL aT : Nat} {G B Hi Sv In Le : Nat → Nat} {To : Nat → Int32} {ch hs ty wy ln th sp iw : Nat} {ea ra wd : Int32} (d : Nat) (hd : d < 8) (h1 : G (56 + d) ≤ 6) : Met l yX7_caseOf wsX7_caseOf ({ frames := 0, cells := 0, slots := 0, locals := 0 }) (va_Pc [.ref h, .int (nI d)] (sPre D [(cI, .int), (cC, .char)] [] (fun H => va_P D vwCl [(h, .inr (9, [.ref aG, .ref aB, .ref aH, .int (nI ch), .ref aS, .int (nI hs), .ref aI, .int (nI ty), .int ea, .int ra, .int (nI wy), .int wd, .ref aL, .int (nI ln), .int (nI th), .int (nI sp), .int (nI iw), .ref aT])), (aG, .inl (cI, 128, .inl (gN G))), (aB, .inl (cI, 128, .inl (gN B))), (aH, .inl (cI, 1024, .inl (gN Hi))), (aS, .inl (cI, 128, .inl (gN Sv))), (aI, .inl (cI, 60, .inl (gN In))), (aL, .inl (cC, 40, .inl (gN Le))), (aT, .inl (cI, 360, .inl To))] H))) (sQ (nI (gCase G d))) 0 0 (fun _ => False) := by
  refine nv_met (cc := cX7_caseOf) (maxL := 2) (ret := (some .int)) (by decide) rfl (Nat.le_of_ble_eq_true rfl) ?_
  intro p0 e0 s m0 args below meth c0 Q hq hargs hnA hpre ls hl
  obtain ⟨hx, hb, hr, hts, hown, hlocks, hml⟩ := hnA
  obtain ⟨hP, hK⟩ := hpre
  have hown : s.vm.findClass RX7 = some m0.cls := hown
  have hP : va_P D vwCl [(h, .inr (9, [.ref aG, .ref aB, .ref aH, .int (nI ch), .ref aS, .int (nI hs), .ref aI, .int (nI ty), .int ea, .int ra, .int (nI wy), .int wd, .ref aL, .int (nI ln), .int (nI th), .int (nI sp), .int (nI iw), .ref aT])), (aG, .inl (cI, 128, .inl (gN G))), (aB, .inl (cI, 128, .inl (gN B))), (aH, .inl (cI, 1024, .inl (gN Hi))), (aS, .inl (cI, 128, .inl (gN Sv))), (aI, .inl (cI, 60, .inl (gN In))), (aL, .inl (cC, 40, .inl (gN Le))), (aT, .inl (cI, 360, .inl To))] s.heap := hP
  have hl : lv_has ls 2 [(0, .ref h), (1, .int (nI d))] := hl
  have in_X7 : ∀ w ∈ wsX70, w ∈ wsX7_caseOf := by decide +kernel
  have fl_7 := hts (.fieldLink RX7 7 "DoorDialectModel" "g" "[I") (by decide +kernel)
  refine lv_aload_n hx hb dX7_caseOf_0 rfl (lv_at hl 0 rfl) ?_
  refine va_get (D := D) (ci := 9) (v := .ref aG) (C := RX7) (T := TX7) (N := 18) hx hb hts in_X7 hown hK.1 hP 0 rfl rfl 0 (by decide) fl_7 (fun _ h9 => h9) rfl dX7_caseOf_1 ?_
  refine lv_bipush (v := nI 56) hx hb dX7_caseOf_4 (by decide) ?_
  refine lv_iload_n hx hb dX7_caseOf_6 rfl (lv_at hl 1 rfl) ?_
  refine nv_iadd hx hb dX7_caseOf_7 ?_
  refine nv_gald (i := 56 + d) hx hb hK.1 hP 1 0 rfl rfl (by first | omega | (simp only [gEndAt]; omega)) (by decide) dX7_caseOf_8 ?_
  refine nv_if_ne (tgt := 16) hx hb dX7_caseOf_9 (by decide) (by omega) (fun c1 => ?_) (fun c1 => ?_)
  · refine lv_aload_n hx hb dX7_caseOf_16 rfl (lv_at hl 0 rfl) ?_
    refine va_get (D := D) (ci := 9) (v := .ref aG) (C := RX7) (T := TX7) (N := 18) hx hb hts in_X7 hown hK.1 hP 0 rfl rfl 0 (by decide) fl_7 (fun _ h9 => h9) rfl dX7_caseOf_17 ?_
    refine lv_bipush (v := nI 112) hx hb dX7_caseOf_20 (by decide) ?_
    refine lv_aload_n hx hb dX7_caseOf_22 rfl (lv_at hl 0 rfl) ?_
    refine va_get (D := D) (ci := 9) (v := .ref aG) (C := RX7) (T := TX7) (N := 18) hx hb hts in_X7 hown hK.1 hP 0 rfl rfl 0 (by decide) fl_7 (fun _ h9 => h9) rfl dX7_caseOf_23 ?_
    refine lv_bipush (v := nI 56) hx hb dX7_caseOf_26 (by decide) ?_
    refine lv_iload_n hx hb dX7_caseOf_28 rfl (lv_at hl 1 rfl) ?_
    refine nv_iadd hx hb dX7_caseOf_29 ?_
    refine nv_gald (i := 56 + d) hx hb hK.1 hP 1 0 rfl rfl (by first | omega | (simp only [gEndAt]; omega)) (by decide) dX7_caseOf_30 ?_
    refine nv_iadd hx hb dX7_caseOf_31 ?_
    refine lv_iconst (v := nI 1) hx hb dX7_caseOf_32 (by decide) ?_
    refine nv_isub hx hb dX7_caseOf_33 (by omega) ?_
    refine nv_gald (i := 112 + (G (56 + d)) - 1) hx hb hK.1 hP 1 0 rfl rfl (by first | omega | (simp only [gEndAt]; omega)) (by decide) dX7_caseOf_34 ?_
    exact nv_retS hq hx hb hr hlocks (nar_i _) (congrArg nI (if_neg c1).symm) dX7_caseOf_35
  · refine lv_iconst (v := nI 0) hx hb dX7_caseOf_12 (by decide) ?_
    refine lv_goto (tgt := 35) hx hb dX7_caseOf_13 (by decide) ?_
    exact nv_retS hq hx hb hr hlocks (nar_i _) (congrArg nI (if_pos c1).symm) dX7_caseOf_35

set_option maxHeartbeats 1000000 in
set_option maxRecDepth 100000 in
theorem c_X7_endingOf (l : Launch) {D : va_G} {cI cC : ClassId} {h aG aB aH aS aI aL aT : Nat} {G B Hi Sv In Le : Nat → Nat} {To : Nat → Int32} {ch hs ty wy ln th sp iw : Nat} {ea ra wd : Int32} {b : Nat} (hG : gWf b G) (d : Nat) (hd : d < 8) : Met l yX7_endingOf wsX7_endingOf ({ frames := 1, cells := 0, slots := 0, locals := 22 }) (va_Pc [.ref h, .int (nI d)] (sPre D [(cI, .int), (cC, .char)] [] (fun H => va_P D vwCl [(h, .inr (9, [.ref aG, .ref aB, .ref aH, .int (nI ch), .ref aS, .int (nI hs), .ref aI, .int (nI ty), .int ea, .int ra, .int (nI wy), .int wd, .ref aL, .int (nI ln), .int (nI th), .int (nI sp), .int (nI iw), .ref aT])), (aG, .inl (cI, 128, .inl (gN G))), (aB, .inl (cI, 128, .inl (gN B))), (aH, .inl (cI, 1024, .inl (gN Hi))), (aS, .inl (cI, 128, .inl (gN Sv))), (aI, .inl (cI, 60, .inl (gN In))), (aL, .inl (cC, 40, .inl (gN Le))), (aT, .inl (cI, 360, .inl To))] H))) (sQ (nI (gEnd G d))) 0 0 (fun _ => False) := by
  refine nv_met (cc := cX7_endingOf) (maxL := 2) (ret := (some .int)) (by decide) rfl (Nat.le_of_ble_eq_true rfl) ?_
  intro p0 e0 s m0 args below meth c0 Q hq hargs hnA hpre ls hl
  obtain ⟨hx, hb, hr, hts, hown, hlocks, hml⟩ := hnA
  obtain ⟨hP, hK⟩ := hpre
  have hown : s.vm.findClass RX7 = some m0.cls := hown
  have hP : va_P D vwCl [(h, .inr (9, [.ref aG, .ref aB, .ref aH, .int (nI ch), .ref aS, .int (nI hs), .ref aI, .int (nI ty), .int ea, .int ra, .int (nI wy), .int wd, .ref aL, .int (nI ln), .int (nI th), .int (nI sp), .int (nI iw), .ref aT])), (aG, .inl (cI, 128, .inl (gN G))), (aB, .inl (cI, 128, .inl (gN B))), (aH, .inl (cI, 1024, .inl (gN Hi))), (aS, .inl (cI, 128, .inl (gN Sv))), (aI, .inl (cI, 60, .inl (gN In))), (aL, .inl (cC, 40, .inl (gN Le))), (aT, .inl (cI, 360, .inl To))] s.heap := hP
  have hl : lv_has ls 2 [(0, .ref h), (1, .int (nI d))] := hl
  have in_X7 : ∀ w ∈ wsX70, w ∈ wsX7_endingOf := by decide +kernel
  have fl_7 := hts (.fieldLink RX7 7 "DoorDialectModel" "g" "[I") (by decide +kernel)
  obtain ⟨g_b, g_k, g_0, g_1, g_2, g_e, g_d, g_t, g_y, g_s, g_h⟩ := id hG
  obtain ⟨w_a, w_g, w_n, w_s, w_w, w_l, w_o, w_x, w_y, w_1, w_2, w_3, w_4⟩ := hG.door hd
  have hc := gWf_case hG hd
  refine lv_aload_n hx hb dX7_endingOf_0 rfl (lv_at hl 0 rfl) ?_
  refine va_get (D := D) (ci := 9) (v := .ref aG) (C := RX7) (T := TX7) (N := 18) hx hb hts in_X7 hown hK.1 hP 0 rfl rfl 0 (by decide) fl_7 (fun _ h9 => h9) rfl dX7_endingOf_1 ?_
  refine lv_aload_n hx hb dX7_endingOf_4 rfl (lv_at hl 0 rfl) ?_
  refine va_get (D := D) (ci := 9) (v := .ref aG) (C := RX7) (T := TX7) (N := 18) hx hb hts in_X7 hown hK.1 hP 0 rfl rfl 0 (by decide) fl_7 (fun _ h9 => h9) rfl dX7_endingOf_5 ?_
  refine lv_bipush (v := nI 32) hx hb dX7_endingOf_8 (by decide) ?_
  refine lv_iload_n hx hb dX7_endingOf_10 rfl (lv_at hl 1 rfl) ?_
  refine nv_iadd hx hb dX7_endingOf_11 ?_
  refine nv_gald (i := 32 + d) hx hb hK.1 hP 1 0 rfl rfl (by first | omega | (simp only [gEndAt]; omega)) (by decide) dX7_endingOf_12 ?_
  refine lv_aload_n hx hb dX7_endingOf_13 rfl (lv_at hl 0 rfl) ?_
  refine lv_iload_n hx hb dX7_endingOf_14 rfl (lv_at hl 1 rfl) ?_
  refine nv_kS (va_runV (As := [.int (nI d)]) (rest := [.int (nI (G (32 + d))), .ref aG]) ⟨hx, hb, hml, hown, hts⟩ (c_X7_caseOf l d (by omega) (by omega)) (cwV 1 hts gX7_endingOf_X7_caseOf rfl rfl rfl (by decide +kernel) ⟨Nat.le_of_ble_eq_true rfl, Nat.le_of_ble_eq_true rfl⟩) (nv_pV hK hP (va_recv hK.1 hP (ci := 9) (q0 := 0) rfl rfl)) rfl rfl hl.1 rfl (lv_room (Nat.le_of_ble_eq_true rfl)) dX7_endingOf_15 ⟨Nat.zero_le _, Nat.zero_le _⟩) ?_
  refine lv_aload_n hx hb dX7_endingOf_18 rfl (lv_at hl 0 rfl) ?_
  refine va_get (D := D) (ci := 9) (v := .ref aG) (C := RX7) (T := TX7) (N := 18) hx hb hts in_X7 hown hK.1 hP 0 rfl rfl 0 (by decide) fl_7 (fun _ h9 => h9) rfl dX7_endingOf_19 ?_
  refine lv_bipush (v := nI 48) hx hb dX7_endingOf_22 (by decide) ?_
  refine lv_iload_n hx hb dX7_endingOf_24 rfl (lv_at hl 1 rfl) ?_
  refine nv_iadd hx hb dX7_endingOf_25 ?_
  refine nv_gald (i := 48 + d) hx hb hK.1 hP 1 0 rfl rfl (by first | omega | (simp only [gEndAt]; omega)) (by decide) dX7_endingOf_26 ?_
  refine nv_kS (va_runS (As := [.int (nI (G (32 + d))), .int (nI (gCase G d)), .int (nI (G (48 + d)))]) (rest := [.ref aG]) ⟨hx, hb, hml, hown, hts⟩ (c_X7_endingAt l (G (32 + d)) (gCase G d) (G (48 + d))) (va_cwS 3 hts gX7_endingOf_X7_endingAt rfl rfl rfl (by decide +kernel) ⟨Nat.le_of_ble_eq_true rfl, Nat.le_of_ble_eq_true rfl⟩) (nv_pS hK trivial) rfl rfl hl.1 rfl (lv_room (Nat.le_of_ble_eq_true rfl)) dX7_endingOf_27 ⟨Nat.zero_le _, Nat.zero_le _⟩) ?_
  refine nv_gald (i := gEndAt (G (32 + d)) (gCase G d) (G (48 + d))) hx hb hK.1 hP 1 0 rfl rfl (by first | omega | (simp only [gEndAt]; omega)) (by decide) dX7_endingOf_30 ?_
  exact nv_retS hq hx hb hr hlocks (nar_i _) (rfl) dX7_endingOf_31

set_option maxHeartbeats 1000000 in
set_option maxRecDepth 100000 in
theorem c_X7_many (l : Launch) {D : va_G} {cI cC : ClassId} {h aG aB aH aS aI aL aT : Nat} {G B Hi Sv In Le : Nat → Nat} {To : Nat → Int32} {ch hs ty wy ln th sp iw : Nat} {ea ra wd : Int32} (k : Nat) (hk : k + 8 ≤ 128) (h0 : G 0 ≤ 8) : Met l yX7_many wsX7_many ({ frames := 0, cells := 0, slots := 0, locals := 0 }) (va_Pc [.ref h, .int (nI k)] (sPre D [(cI, .int), (cC, .char)] [] (fun H => va_P D vwCl [(h, .inr (9, [.ref aG, .ref aB, .ref aH, .int (nI ch), .ref aS, .int (nI hs), .ref aI, .int (nI ty), .int ea, .int ra, .int (nI wy), .int wd, .ref aL, .int (nI ln), .int (nI th), .int (nI sp), .int (nI iw), .ref aT])), (aG, .inl (cI, 128, .inl (gN G))), (aB, .inl (cI, 128, .inl (gN B))), (aH, .inl (cI, 1024, .inl (gN Hi))), (aS, .inl (cI, 128, .inl (gN Sv))), (aI, .inl (cI, 60, .inl (gN In))), (aL, .inl (cC, 40, .inl (gN Le))), (aT, .inl (cI, 360, .inl To))] H))) (sQ (nI (gMany G k))) 0 0 (fun _ => False) := by
  refine nv_met (cc := cX7_many) (maxL := 4) (ret := (some .int)) (by decide) rfl (Nat.le_of_ble_eq_true rfl) ?_
  intro p0 e0 s m0 args below meth c0 Q hq hargs hnA hpre ls hl
  obtain ⟨hx, hb, hr, hts, hown, hlocks, hml⟩ := hnA
  obtain ⟨hP, hK⟩ := hpre
  have hown : s.vm.findClass RX7 = some m0.cls := hown
  have hP : va_P D vwCl [(h, .inr (9, [.ref aG, .ref aB, .ref aH, .int (nI ch), .ref aS, .int (nI hs), .ref aI, .int (nI ty), .int ea, .int ra, .int (nI wy), .int wd, .ref aL, .int (nI ln), .int (nI th), .int (nI sp), .int (nI iw), .ref aT])), (aG, .inl (cI, 128, .inl (gN G))), (aB, .inl (cI, 128, .inl (gN B))), (aH, .inl (cI, 1024, .inl (gN Hi))), (aS, .inl (cI, 128, .inl (gN Sv))), (aI, .inl (cI, 60, .inl (gN In))), (aL, .inl (cC, 40, .inl (gN Le))), (aT, .inl (cI, 360, .inl To))] s.heap := hP
  have hl : lv_has ls 4 [(0, .ref h), (1, .int (nI k))] := hl
  have in_X7 : ∀ w ∈ wsX70, w ∈ wsX7_many := by decide +kernel
  have fl_7 := hts (.fieldLink RX7 7 "DoorDialectModel" "g" "[I") (by decide +kernel)
  refine lv_iconst (v := nI 0) hx hb dX7_many_0 (by decide) ?_
  refine lv_istore_n (lv' := [(2, .int (nI 0)), (0, .ref h), (1, .int (nI k))]) hx hb dX7_many_1 rfl hl (by decide) rfl (fun ls hl => ?_)
  refine lv_iconst (v := nI 0) hx hb dX7_many_2 (by decide) ?_
  refine lv_istore_n (lv' := [(3, .int (nI 0)), (2, .int (nI 0)), (0, .ref h), (1, .int (nI k))]) hx hb dX7_many_3 rfl hl (by decide) rfl (fun ls hl => ?_)
  have hloop1 : ∀ (nn : Nat) (d : Nat), (d ≤ G 0) → G 0 - d < nn → ∀ (ls : Array Slot), lv_has ls 4 [(3, .int (nI d)), (2, .int (nI (sm (fun d => G (k + d)) d))), (0, .ref h), (1, .int (nI k))] → W p0 l e0 ({ frames := 0, cells := 0, slots := 0, locals := 0 }) s m0 args below meth c0 s.heap [] 0 0 Q (F0 m0 4 ls []) := by
    intro nn4
    induction nn4 with
    | zero => intro d hd hn0  _ _; exact absurd hn0 (Nat.not_lt_zero _)
    | succ nn4 ih4 =>
      intro d hd hn4  ls hl
      refine lv_iload_n hx hb dX7_many_4 rfl (lv_at hl 0 rfl) ?_
      refine lv_aload_n hx hb dX7_many_5 rfl (lv_at hl 2 rfl) ?_
      refine va_get (D := D) (ci := 9) (v := .ref aG) (C := RX7) (T := TX7) (N := 18) hx hb hts in_X7 hown hK.1 hP 0 rfl rfl 0 (by decide) fl_7 (fun _ h9 => h9) rfl dX7_many_6 ?_
      refine lv_iconst (v := nI 0) hx hb dX7_many_9 (by decide) ?_
      refine nv_gald (i := 0) hx hb hK.1 hP 1 0 rfl rfl (by first | omega | (simp only [gEndAt]; omega)) (by decide) dX7_many_10 ?_
      refine nv_icmp_ge (tgt := 31) hx hb dX7_many_11 (by decide) (by omega) (by omega) (fun c2 => ?_) (fun c2 => ?_)
      · refine lv_iload_n hx hb dX7_many_31 rfl (lv_at hl 1 rfl) ?_
        exact nv_retS hq hx hb hr hlocks (nar_i _) (by rw [show d = G 0 by omega] <;> rfl) dX7_many_32
      · refine lv_iload_n hx hb dX7_many_14 rfl (lv_at hl 1 rfl) ?_
        refine lv_aload_n hx hb dX7_many_15 rfl (lv_at hl 2 rfl) ?_
        refine va_get (D := D) (ci := 9) (v := .ref aG) (C := RX7) (T := TX7) (N := 18) hx hb hts in_X7 hown hK.1 hP 0 rfl rfl 0 (by decide) fl_7 (fun _ h9 => h9) rfl dX7_many_16 ?_
        refine lv_iload_n hx hb dX7_many_19 rfl (lv_at hl 3 rfl) ?_
        refine lv_iload_n hx hb dX7_many_20 rfl (lv_at hl 0 rfl) ?_
        refine nv_iadd hx hb dX7_many_21 ?_
        refine nv_gald (i := k + d) hx hb hK.1 hP 1 0 rfl rfl (by first | omega | (simp only [gEndAt]; omega)) (by decide) dX7_many_22 ?_
        refine nv_iadd hx hb dX7_many_23 ?_
        refine lv_istore_n (lv' := [(2, .int (nI (sm (fun d => G (k + d)) d + (G (k + d))))), (3, .int (nI d)), (0, .ref h), (1, .int (nI k))]) hx hb dX7_many_24 rfl hl (by decide) rfl (fun ls hl => ?_)
        refine lv_iinc (v := nI (d + 1)) (lv' := [(3, .int (nI (d + 1))), (2, .int (nI (sm (fun d => G (k + d)) d + (G (k + d))))), (0, .ref h), (1, .int (nI k))]) hx hb dX7_many_25 hl (k := 1) rfl (by show nI _ + Int32.ofInt 1 = _; exact nI_add _ 1) (by decide) rfl (fun ls hl => ?_)
        refine lv_goto (tgt := 4) hx hb dX7_many_28 (by decide) ?_
        exact ih4  (d + 1) ((by omega)) (by omega) ls (lv_sub hl [0, 1, 2, 3] rfl)
  exact hloop1 _ 0 ((Nat.zero_le _)) (Nat.lt_succ_self _) ls (lv_sub hl [0, 1, 2, 3] rfl)
