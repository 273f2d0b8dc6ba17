theorem iv9_to {p : Program} {l : Launch} {e : Env} {R : Room} {s : State} {m : MethodId} {args : Array Value} {below : List Frame} {meth : Method} {c : Code} {H : Heap} {locs : List Loc} {cells slots : Nat} {Q : State → Prop} {pc : Nat} {ls : Array Slot} {rest : List Value} (y : Int32) {x : Int32} (h : x = y) (k : W p l e R s m args below meth c H locs cells slots Q (F0 m pc ls (.int y :: rest))) : W p l e R s m args below meth c H locs cells slots Q (F0 m pc ls (.int x :: rest)) := by rw [h]; exact k
abbrev hv_g (u : hS) (f : Nat → Nat) : hS := (u.1, f, u.2.2)
abbrev hv_kd (u : hS) (f : Nat → Nat) : hS := (u.1, u.2.1, f, u.2.2.2)
abbrev hv_kg (u : hS) (f : Nat → Nat) : hS := (u.1, u.2.1, u.2.2.1, f, u.2.2.2.2)
abbrev hv_e (u : hS) (f : Nat → Nat) : hS := (u.1, u.2.1, u.2.2.1, u.2.2.2.1, f, u.2.2.2.2.2)
theorem cpy0 {F T : Nat → Nat} {n j : Nat} (h : j < n) : va_cpy F T 0 0 n j = F j := by unfold va_cpy; rw [if_pos (by omega)]; congr 1; omega
/-- the signs of a door's form -/
def fSg (G : Nat → Nat) (d k : Nat) : Nat := if k = 0 then sch 0 (G (40 + d)) else (if k = 1 then sch 1 (G (48 + d)) else 97 + gEnd G d)
theorem sch0_i : ∀ a, a < 3 → ∀ b, b < 3 → sch 0 a = sch 0 b → a = b := by decide +kernel
theorem sch1_i : ∀ a, a < 2 → ∀ b, b < 2 → sch 1 a = sch 1 b → a = b := by decide +kernel
theorem sch_lt {i k : Nat} (hi : i < 13) (hk : k < sLen.getD i 0) : sch i k < 127 := (sch_eq i hi k hk).2.2

theorem hu_dd (u : hS) (d : Nat) (f : Nat → Nat) : hs_d (hu_d u d f) d = f := if_pos rfl
theorem hu_dd2 (u : hS) (d : Nat) (f g : Nat → Nat) : hu_d (hu_d u d f) d g = hu_d u d g := by
  have e : hu_f (hu_f u.2.2.2.2.2 d f) d g = hu_f u.2.2.2.2.2 d g := by
    funext j
    unfold hu_f
    by_cases q : j = d
    · rw [if_pos q, if_pos q]
    · rw [if_neg q, if_neg q, if_neg q]
  show (u.1, u.2.1, u.2.2.1, u.2.2.2.1, u.2.2.2.2.1, hu_f (hu_f u.2.2.2.2.2 d f) d g) = _
  rw [e]

section HWD
variable {D : va_G} {cl : List vw_C} {H : Heap} {cI cD : ClassId} {ad : Nat → Nat} {u : hS} {w : va_W} {f g : Nat → Nat}
theorem hwd_at (i : Nat) (h : i < 8) : (hw cI cD ad (hu_d u i f))[6 + i]? = some (ad (6 + i), dc f) := by
  have e := hw_at (cI := cI) (cD := cD) (ad := ad) (u := hu_d u i f) i h
  rw [hu_dd] at e; exact e
theorem hwad_at (i : Nat) (h : i < 8) : (hw cI cD ad (hu_d u i f) ++ w)[6 + i]? = some (ad (6 + i), dc f) := by
  have e := hwa_at (cI := cI) (cD := cD) (ad := ad) (u := hu_d u i f) (w := w) i h
  rw [hu_dd] at e; exact e
theorem hwd_put (i : Nat) (h : i < 8) (hP : va_P D cl ((hw cI cD ad (hu_d u i f)).set (6 + i) (ad (6 + i), dc g)) H) : va_P D cl (hw cI cD ad (hu_d u i g)) H := by
  have e := hw_put i h hP
  rw [hu_dd2] at e; exact e
theorem hwad_put (i : Nat) (h : i < 8) (hP : va_P D cl ((hw cI cD ad (hu_d u i f) ++ w).set (6 + i) (ad (6 + i), dc g)) H) : va_P D cl (hw cI cD ad (hu_d u i g) ++ w) H := by
  have e := hwa_put i h hP
  rw [hu_dd2] at e; exact e
end HWD

set_option maxHeartbeats 1000000 in
set_option maxRecDepth 100000 in
theorem c_X0_makeNew (l : Launch) {D : va_G} {cI cC cD cR : ClassId} {sa : sA} {A : Nat → Prop} {ad : Nat → Nat} {u : hS} (hD : ∀ v : hS, va_D A (hw cI cD ad v)) (d a g n x y : Nat) (hd : d < 8) : Met l yX0_makeNew wsX0_makeNew ({ frames := 0, cells := 0, slots := 0, locals := 0 }) (va_Pc [.ref (ad (6 + d)), .int (nI a), .int (nI g), .int (nI n), .int (nI x), .int (nI y)] (tPre D [(cI, .int), (cC, .char), (cD, .object "DoorDialect$Door"), (cR, .object "DoorDialect$House")] nN sa A (fun H => va_P D vwCl (hw cI cD ad u) H))) (gQv ((fun H => va_P D vwCl (hw cI cD ad (hu_d u d (va_up (va_up (va_up (va_up (va_up (va_up (va_up (va_up (va_up (va_up (hs_d u d) 0 a) 1 g) 2 n) 3 x) 4 y) 5 0) 6 0) 7 0) 8 0) 9 0))) H)) A) 0 0 A := by
  refine nv_met (cc := cX0_makeNew) (maxL := 6) (ret := none) (by decide) rfl (Nat.le_of_ble_eq_true rfl) ?_
  intro p0 e0 s m0 args below meth c0 Q hq hargs hnA hpre ls hl
  obtain ⟨hx, hb, hr, hts, hown, hlocks, hml⟩ := hnA
  obtain ⟨hP, hT⟩ := hpre
  have hK := hT.1
  have hown : s.vm.findClass RX0 = some m0.cls := hown
  have hP : va_P D vwCl (hw cI cD ad u) s.heap := hP
  have hl : lv_has ls 6 [(0, .ref (ad (6 + d))), (1, .int (nI a)), (2, .int (nI g)), (3, .int (nI n)), (4, .int (nI x)), (5, .int (nI y))] := hl
  have hS : va_S A s.heap s.heap [] := va_S.rf
  have in_X0 : ∀ w ∈ wsX00, w ∈ wsX0_makeNew := by decide +kernel
  have fl_9 := hts (.fieldLink RX0 9 "DoorDialect$Door" "threshold" "I") (by decide +kernel)
  have fl_15 := hts (.fieldLink RX0 15 "DoorDialect$Door" "declension" "I") (by decide +kernel)
  have fl_18 := hts (.fieldLink RX0 18 "DoorDialect$Door" "gender" "I") (by decide +kernel)
  have fl_21 := hts (.fieldLink RX0 21 "DoorDialect$Door" "number" "I") (by decide +kernel)
  have fl_24 := hts (.fieldLink RX0 24 "DoorDialect$Door" "oneRoom" "I") (by decide +kernel)
  have fl_27 := hts (.fieldLink RX0 27 "DoorDialect$Door" "otherRoom" "I") (by decide +kernel)
  have fl_30 := hts (.fieldLink RX0 30 "DoorDialect$Door" "wrongKnocks" "I") (by decide +kernel)
  have fl_33 := hts (.fieldLink RX0 33 "DoorDialect$Door" "knocks" "I") (by decide +kernel)
  have fl_36 := hts (.fieldLink RX0 36 "DoorDialect$Door" "isLatched" "Z") (by decide +kernel)
  have fl_40 := hts (.fieldLink RX0 40 "DoorDialect$Door" "isOpen" "Z") (by decide +kernel)
  refine lv_aload_n hx hb dX0_makeNew_0 rfl (lv_at hl 0 rfl) ?_
  refine lv_iload_n hx hb dX0_makeNew_1 rfl (lv_at hl 1 rfl) ?_
  refine va_put (D := D) (ci := 2) (v := .int (nI a)) (ty := .int) (C := RX0) (T := TX0) (N := 10) hx hb hts in_X0 tyX0 tyX0_ok nmX0 hown hK.1 hP (hD _) hS (6 + (d)) (hw_at (d) (by omega)) rfl 0 (by decide) fl_15 (fun _ h9 => h9) rfl (by decide +kernel) rfl rfl (Nat.le_of_ble_eq_true rfl) dX0_makeNew_2 (fun H locs hP _ hS => ?_)
  have hP : va_P D vwCl (hw cI cD ad (hu_d u (d) (va_up (hs_d u (d)) 0 a))) H := hw_put (d) (by omega) hP
  refine lv_aload_n hx hb dX0_makeNew_5 rfl (lv_at hl 0 rfl) ?_
  refine lv_iload_n hx hb dX0_makeNew_6 rfl (lv_at hl 2 rfl) ?_
  refine va_put (D := D) (ci := 2) (v := .int (nI g)) (ty := .int) (C := RX0) (T := TX0) (N := 10) hx hb hts in_X0 tyX0 tyX0_ok nmX0 hown hK.1 hP (hD _) hS (6 + (d)) (hwd_at (d) (by omega)) rfl 1 (by decide) fl_18 (fun _ h9 => h9) rfl (by decide +kernel) rfl rfl (Nat.le_of_ble_eq_true rfl) dX0_makeNew_7 (fun H locs hP _ hS => ?_)
  have hP : va_P D vwCl (hw cI cD ad (hu_d u (d) (va_up (va_up (hs_d u (d)) 0 a) 1 g))) H := hwd_put (d) (by omega) hP
  refine lv_aload_n hx hb dX0_makeNew_10 rfl (lv_at hl 0 rfl) ?_
  refine lv_iload_n hx hb dX0_makeNew_11 rfl (lv_at hl 3 rfl) ?_
  refine va_put (D := D) (ci := 2) (v := .int (nI n)) (ty := .int) (C := RX0) (T := TX0) (N := 10) hx hb hts in_X0 tyX0 tyX0_ok nmX0 hown hK.1 hP (hD _) hS (6 + (d)) (hwd_at (d) (by omega)) rfl 2 (by decide) fl_21 (fun _ h9 => h9) rfl (by decide +kernel) rfl rfl (Nat.le_of_ble_eq_true rfl) dX0_makeNew_12 (fun H locs hP _ hS => ?_)
  have hP : va_P D vwCl (hw cI cD ad (hu_d u (d) (va_up (va_up (va_up (hs_d u (d)) 0 a) 1 g) 2 n))) H := hwd_put (d) (by omega) hP
  refine lv_aload_n hx hb dX0_makeNew_15 rfl (lv_at hl 0 rfl) ?_
  refine lv_iload hx hb dX0_makeNew_16 (lv_at hl 4 rfl) ?_
  refine va_put (D := D) (ci := 2) (v := .int (nI x)) (ty := .int) (C := RX0) (T := TX0) (N := 10) hx hb hts in_X0 tyX0 tyX0_ok nmX0 hown hK.1 hP (hD _) hS (6 + (d)) (hwd_at (d) (by omega)) rfl 3 (by decide) fl_24 (fun _ h9 => h9) rfl (by decide +kernel) rfl rfl (Nat.le_of_ble_eq_true rfl) dX0_makeNew_18 (fun H locs hP _ hS => ?_)
  have hP : va_P D vwCl (hw cI cD ad (hu_d u (d) (va_up (va_up (va_up (va_up (hs_d u (d)) 0 a) 1 g) 2 n) 3 x))) H := hwd_put (d) (by omega) hP
  refine lv_aload_n hx hb dX0_makeNew_21 rfl (lv_at hl 0 rfl) ?_
  refine lv_iload hx hb dX0_makeNew_22 (lv_at hl 5 rfl) ?_
  refine va_put (D := D) (ci := 2) (v := .int (nI y)) (ty := .int) (C := RX0) (T := TX0) (N := 10) hx hb hts in_X0 tyX0 tyX0_ok nmX0 hown hK.1 hP (hD _) hS (6 + (d)) (hwd_at (d) (by omega)) rfl 4 (by decide) fl_27 (fun _ h9 => h9) rfl (by decide +kernel) rfl rfl (Nat.le_of_ble_eq_true rfl) dX0_makeNew_24 (fun H locs hP _ hS => ?_)
  have hP : va_P D vwCl (hw cI cD ad (hu_d u (d) (va_up (va_up (va_up (va_up (va_up (hs_d u (d)) 0 a) 1 g) 2 n) 3 x) 4 y))) H := hwd_put (d) (by omega) hP
  refine lv_aload_n hx hb dX0_makeNew_27 rfl (lv_at hl 0 rfl) ?_
  refine lv_iconst (v := (-1)) hx hb dX0_makeNew_28 (by decide) ?_
  refine iv9_to (nI (0) - nI 1) (by decide) ?_
  refine va_put (D := D) (ci := 2) (v := .int (nI (0) - nI 1)) (ty := .int) (C := RX0) (T := TX0) (N := 10) hx hb hts in_X0 tyX0 tyX0_ok nmX0 hown hK.1 hP (hD _) hS (6 + (d)) (hwd_at (d) (by omega)) rfl 5 (by decide) fl_9 (fun _ h9 => h9) rfl (by decide +kernel) rfl rfl (Nat.le_of_ble_eq_true rfl) dX0_makeNew_29 (fun H locs hP _ hS => ?_)
  have hP : va_P D vwCl (hw cI cD ad (hu_d u (d) (va_up (va_up (va_up (va_up (va_up (va_up (hs_d u (d)) 0 a) 1 g) 2 n) 3 x) 4 y) 5 0))) H := hwd_put (d) (by omega) hP
  refine lv_aload_n hx hb dX0_makeNew_32 rfl (lv_at hl 0 rfl) ?_
  refine lv_iconst (v := nI 0) hx hb dX0_makeNew_33 (by decide) ?_
  refine va_put (D := D) (ci := 2) (v := .int (nI 0)) (ty := .int) (C := RX0) (T := TX0) (N := 10) hx hb hts in_X0 tyX0 tyX0_ok nmX0 hown hK.1 hP (hD _) hS (6 + (d)) (hwd_at (d) (by omega)) rfl 6 (by decide) fl_30 (fun _ h9 => h9) rfl (by decide +kernel) rfl rfl (Nat.le_of_ble_eq_true rfl) dX0_makeNew_34 (fun H locs hP _ hS => ?_)
  have hP : va_P D vwCl (hw cI cD ad (hu_d u (d) (va_up (va_up (va_up (va_up (va_up (va_up (va_up (hs_d u (d)) 0 a) 1 g) 2 n) 3 x) 4 y) 5 0) 6 0))) H := hwd_put (d) (by omega) hP
  refine lv_aload_n hx hb dX0_makeNew_37 rfl (lv_at hl 0 rfl) ?_
  refine lv_iconst (v := nI 0) hx hb dX0_makeNew_38 (by decide) ?_
  refine va_put (D := D) (ci := 2) (v := .int (nI 0)) (ty := .int) (C := RX0) (T := TX0) (N := 10) hx hb hts in_X0 tyX0 tyX0_ok nmX0 hown hK.1 hP (hD _) hS (6 + (d)) (hwd_at (d) (by omega)) rfl 7 (by decide) fl_33 (fun _ h9 => h9) rfl (by decide +kernel) rfl rfl (Nat.le_of_ble_eq_true rfl) dX0_makeNew_39 (fun H locs hP _ hS => ?_)
  have hP : va_P D vwCl (hw cI cD ad (hu_d u (d) (va_up (va_up (va_up (va_up (va_up (va_up (va_up (va_up (hs_d u (d)) 0 a) 1 g) 2 n) 3 x) 4 y) 5 0) 6 0) 7 0))) H := hwd_put (d) (by omega) hP
  refine lv_aload_n hx hb dX0_makeNew_42 rfl (lv_at hl 0 rfl) ?_
  refine lv_iconst (v := nI 0) hx hb dX0_makeNew_43 (by decide) ?_
  refine va_put (D := D) (ci := 2) (v := .int (nI 0)) (ty := .boolean) (C := RX0) (T := TX0) (N := 10) hx hb hts in_X0 tyX0 tyX0_ok nmX0 hown hK.1 hP (hD _) hS (6 + (d)) (hwd_at (d) (by omega)) rfl 8 (by decide) fl_36 (fun _ h9 => h9) rfl (by decide +kernel) (nar_z (by omega)) (fit_z (by omega)) (Nat.le_of_ble_eq_true rfl) dX0_makeNew_44 (fun H locs hP _ hS => ?_)
  have hP : va_P D vwCl (hw cI cD ad (hu_d u (d) (va_up (va_up (va_up (va_up (va_up (va_up (va_up (va_up (va_up (hs_d u (d)) 0 a) 1 g) 2 n) 3 x) 4 y) 5 0) 6 0) 7 0) 8 0))) H := hwd_put (d) (by omega) hP
  refine lv_aload_n hx hb dX0_makeNew_47 rfl (lv_at hl 0 rfl) ?_
  refine lv_iconst (v := nI 0) hx hb dX0_makeNew_48 (by decide) ?_
  refine va_put (D := D) (ci := 2) (v := .int (nI 0)) (ty := .boolean) (C := RX0) (T := TX0) (N := 10) hx hb hts in_X0 tyX0 tyX0_ok nmX0 hown hK.1 hP (hD _) hS (6 + (d)) (hwd_at (d) (by omega)) rfl 9 (by decide) fl_40 (fun _ h9 => h9) rfl (by decide +kernel) (nar_z (by omega)) (fit_z (by omega)) (Nat.le_of_ble_eq_true rfl) dX0_makeNew_49 (fun H locs hP _ hS => ?_)
  have hP : va_P D vwCl (hw cI cD ad (hu_d u (d) (va_up (va_up (va_up (va_up (va_up (va_up (va_up (va_up (va_up (va_up (hs_d u (d)) 0 a) 1 g) 2 n) 3 x) 4 y) 5 0) 6 0) 7 0) 8 0) 9 0))) H := hwd_put (d) (by omega) hP
  exact nv_retGv hq hx hb hr hlocks hS (hP) dX0_makeNew_52

set_option maxHeartbeats 1000000 in
set_option maxRecDepth 100000 in
theorem c_X0_copyFrom (l : Launch) {D : va_G} {cI cC cD cR : ClassId} {sa : sA} {A : Nat → Prop} {ad ad2 : Nat → Nat} {u v : hS} (hD : ∀ z : hS, va_D A (hw cI cD ad z ++ hw cI cD ad2 v)) (d : Nat) (hd : d < 8) (hw8 : hs_d v d 8 ≤ 1) (hw9 : hs_d v d 9 ≤ 1) : Met l yX0_copyFrom wsX0_copyFrom ({ frames := 0, cells := 0, slots := 0, locals := 0 }) (va_Pc [.ref (ad (6 + d)), .ref (ad2 (6 + d))] (tPre D [(cI, .int), (cC, .char), (cD, .object "DoorDialect$Door"), (cR, .object "DoorDialect$House")] nN sa A (fun H => va_P D vwCl (hw cI cD ad u ++ hw cI cD ad2 v) H))) (gQv ((fun H => va_P D vwCl (hw cI cD ad (hu_d u d (va_up (va_up (va_up (va_up (va_up (va_up (va_up (va_up (va_up (va_up (hs_d u d) 0 (hs_d v d 0)) 1 (hs_d v d 1)) 2 (hs_d v d 2)) 3 (hs_d v d 3)) 4 (hs_d v d 4)) 5 (hs_d v d 5)) 6 (hs_d v d 6)) 7 (hs_d v d 7)) 8 (hs_d v d 8)) 9 (hs_d v d 9))) ++ hw cI cD ad2 v) H)) A) 0 0 A := by
  refine nv_met (cc := cX0_copyFrom) (maxL := 2) (ret := none) (by decide) rfl (Nat.le_of_ble_eq_true rfl) ?_
  intro p0 e0 s m0 args below meth c0 Q hq hargs hnA hpre ls hl
  obtain ⟨hx, hb, hr, hts, hown, hlocks, hml⟩ := hnA
  obtain ⟨hP, hT⟩ := hpre
  have hK := hT.1
  have hown : s.vm.findClass RX0 = some m0.cls := hown
  have hP : va_P D vwCl (hw cI cD ad u ++ hw cI cD ad2 v) s.heap := hP
  have hl : lv_has ls 2 [(0, .ref (ad (6 + d))), (1, .ref (ad2 (6 + d)))] := hl
  have hS : va_S A s.heap s.heap [] := va_S.rf
  have in_X0 : ∀ w ∈ wsX00, w ∈ wsX0_copyFrom := by decide +kernel
  have fl_9 := hts (.fieldLink RX0 9 "DoorDialect$Door" "threshold" "I") (by decide +kernel)
  have fl_15 := hts (.fieldLink RX0 15 "DoorDialect$Door" "declension" "I") (by decide +kernel)
  have fl_18 := hts (.fieldLink RX0 18 "DoorDialect$Door" "gender" "I") (by decide +kernel)
  have fl_21 := hts (.fieldLink RX0 21 "DoorDialect$Door" "number" "I") (by decide +kernel)
  have fl_24 := hts (.fieldLink RX0 24 "DoorDialect$Door" "oneRoom" "I") (by decide +kernel)
  have fl_27 := hts (.fieldLink RX0 27 "DoorDialect$Door" "otherRoom" "I") (by decide +kernel)
  have fl_30 := hts (.fieldLink RX0 30 "DoorDialect$Door" "wrongKnocks" "I") (by decide +kernel)
  have fl_33 := hts (.fieldLink RX0 33 "DoorDialect$Door" "knocks" "I") (by decide +kernel)
  have fl_36 := hts (.fieldLink RX0 36 "DoorDialect$Door" "isLatched" "Z") (by decide +kernel)
  have fl_40 := hts (.fieldLink RX0 40 "DoorDialect$Door" "isOpen" "Z") (by decide +kernel)
  refine lv_aload_n hx hb dX0_copyFrom_0 rfl (lv_at hl 0 rfl) ?_
  refine lv_aload_n hx hb dX0_copyFrom_1 rfl (lv_at hl 1 rfl) ?_
  refine va_get (D := D) (ci := 2) (v := .int (nI (hs_d v (d) 0))) (C := RX0) (T := TX0) (N := 10) hx hb hts in_X0 hown hK.1 hP (20 + (d)) (hwb_at (d) (by omega)) rfl 0 (by decide) fl_15 (fun _ h9 => h9) rfl dX0_copyFrom_2 ?_
  refine va_put (D := D) (ci := 2) (v := .int (nI (hs_d v (d) 0))) (ty := .int) (C := RX0) (T := TX0) (N := 10) hx hb hts in_X0 tyX0 tyX0_ok nmX0 hown hK.1 hP (hD _) hS (6 + (d)) (hwa_at (d) (by omega)) rfl 0 (by decide) fl_15 (fun _ h9 => h9) rfl (by decide +kernel) rfl rfl (Nat.le_of_ble_eq_true rfl) dX0_copyFrom_5 (fun H locs hP _ hS => ?_)
  have hP : va_P D vwCl (hw cI cD ad (hu_d u (d) (va_up (hs_d u (d)) 0 (hs_d v (d) 0))) ++ hw cI cD ad2 v) H := hwa_put (d) (by omega) hP
  refine lv_aload_n hx hb dX0_copyFrom_8 rfl (lv_at hl 0 rfl) ?_
  refine lv_aload_n hx hb dX0_copyFrom_9 rfl (lv_at hl 1 rfl) ?_
  refine va_get (D := D) (ci := 2) (v := .int (nI (hs_d v (d) 1))) (C := RX0) (T := TX0) (N := 10) hx hb hts in_X0 hown hK.1 hP (20 + (d)) (hwb_at (d) (by omega)) rfl 1 (by decide) fl_18 (fun _ h9 => h9) rfl dX0_copyFrom_10 ?_
  refine va_put (D := D) (ci := 2) (v := .int (nI (hs_d v (d) 1))) (ty := .int) (C := RX0) (T := TX0) (N := 10) hx hb hts in_X0 tyX0 tyX0_ok nmX0 hown hK.1 hP (hD _) hS (6 + (d)) (hwad_at (d) (by omega)) rfl 1 (by decide) fl_18 (fun _ h9 => h9) rfl (by decide +kernel) rfl rfl (Nat.le_of_ble_eq_true rfl) dX0_copyFrom_13 (fun H locs hP _ hS => ?_)
  have hP : va_P D vwCl (hw cI cD ad (hu_d u (d) (va_up (va_up (hs_d u (d)) 0 (hs_d v (d) 0)) 1 (hs_d v (d) 1))) ++ hw cI cD ad2 v) H := hwad_put (d) (by omega) hP
  refine lv_aload_n hx hb dX0_copyFrom_16 rfl (lv_at hl 0 rfl) ?_
  refine lv_aload_n hx hb dX0_copyFrom_17 rfl (lv_at hl 1 rfl) ?_
  refine va_get (D := D) (ci := 2) (v := .int (nI (hs_d v (d) 2))) (C := RX0) (T := TX0) (N := 10) hx hb hts in_X0 hown hK.1 hP (20 + (d)) (hwb_at (d) (by omega)) rfl 2 (by decide) fl_21 (fun _ h9 => h9) rfl dX0_copyFrom_18 ?_
  refine va_put (D := D) (ci := 2) (v := .int (nI (hs_d v (d) 2))) (ty := .int) (C := RX0) (T := TX0) (N := 10) hx hb hts in_X0 tyX0 tyX0_ok nmX0 hown hK.1 hP (hD _) hS (6 + (d)) (hwad_at (d) (by omega)) rfl 2 (by decide) fl_21 (fun _ h9 => h9) rfl (by decide +kernel) rfl rfl (Nat.le_of_ble_eq_true rfl) dX0_copyFrom_21 (fun H locs hP _ hS => ?_)
  have hP : va_P D vwCl (hw cI cD ad (hu_d u (d) (va_up (va_up (va_up (hs_d u (d)) 0 (hs_d v (d) 0)) 1 (hs_d v (d) 1)) 2 (hs_d v (d) 2))) ++ hw cI cD ad2 v) H := hwad_put (d) (by omega) hP
  refine lv_aload_n hx hb dX0_copyFrom_24 rfl (lv_at hl 0 rfl) ?_
  refine lv_aload_n hx hb dX0_copyFrom_25 rfl (lv_at hl 1 rfl) ?_
  refine va_get (D := D) (ci := 2) (v := .int (nI (hs_d v (d) 3))) (C := RX0) (T := TX0) (N := 10) hx hb hts in_X0 hown hK.1 hP (20 + (d)) (hwb_at (d) (by omega)) rfl 3 (by decide) fl_24 (fun _ h9 => h9) rfl dX0_copyFrom_26 ?_
  refine va_put (D := D) (ci := 2) (v := .int (nI (hs_d v (d) 3))) (ty := .int) (C := RX0) (T := TX0) (N := 10) hx hb hts in_X0 tyX0 tyX0_ok nmX0 hown hK.1 hP (hD _) hS (6 + (d)) (hwad_at (d) (by omega)) rfl 3 (by decide) fl_24 (fun _ h9 => h9) rfl (by decide +kernel) rfl rfl (Nat.le_of_ble_eq_true rfl) dX0_copyFrom_29 (fun H locs hP _ hS => ?_)
  have hP : va_P D vwCl (hw cI cD ad (hu_d u (d) (va_up (va_up (va_up (va_up (hs_d u (d)) 0 (hs_d v (d) 0)) 1 (hs_d v (d) 1)) 2 (hs_d v (d) 2)) 3 (hs_d v (d) 3))) ++ hw cI cD ad2 v) H := hwad_put (d) (by omega) hP
  refine lv_aload_n hx hb dX0_copyFrom_32 rfl (lv_at hl 0 rfl) ?_
  refine lv_aload_n hx hb dX0_copyFrom_33 rfl (lv_at hl 1 rfl) ?_
  refine va_get (D := D) (ci := 2) (v := .int (nI (hs_d v (d) 4))) (C := RX0) (T := TX0) (N := 10) hx hb hts in_X0 hown hK.1 hP (20 + (d)) (hwb_at (d) (by omega)) rfl 4 (by decide) fl_27 (fun _ h9 => h9) rfl dX0_copyFrom_34 ?_
  refine va_put (D := D) (ci := 2) (v := .int (nI (hs_d v (d) 4))) (ty := .int) (C := RX0) (T := TX0) (N := 10) hx hb hts in_X0 tyX0 tyX0_ok nmX0 hown hK.1 hP (hD _) hS (6 + (d)) (hwad_at (d) (by omega)) rfl 4 (by decide) fl_27 (fun _ h9 => h9) rfl (by decide +kernel) rfl rfl (Nat.le_of_ble_eq_true rfl) dX0_copyFrom_37 (fun H locs hP _ hS => ?_)
  have hP : va_P D vwCl (hw cI cD ad (hu_d u (d) (va_up (va_up (va_up (va_up (va_up (hs_d u (d)) 0 (hs_d v (d) 0)) 1 (hs_d v (d) 1)) 2 (hs_d v (d) 2)) 3 (hs_d v (d) 3)) 4 (hs_d v (d) 4))) ++ hw cI cD ad2 v) H := hwad_put (d) (by omega) hP
  refine lv_aload_n hx hb dX0_copyFrom_40 rfl (lv_at hl 0 rfl) ?_
  refine lv_aload_n hx hb dX0_copyFrom_41 rfl (lv_at hl 1 rfl) ?_
  refine va_get (D := D) (ci := 2) (v := .int (nI (hs_d v (d) 5) - nI 1)) (C := RX0) (T := TX0) (N := 10) hx hb hts in_X0 hown hK.1 hP (20 + (d)) (hwb_at (d) (by omega)) rfl 5 (by decide) fl_9 (fun _ h9 => h9) rfl dX0_copyFrom_42 ?_
  refine iv9_to (nI (hs_d v (d) 5) - nI 1) (rfl) ?_
  refine va_put (D := D) (ci := 2) (v := .int (nI (hs_d v (d) 5) - nI 1)) (ty := .int) (C := RX0) (T := TX0) (N := 10) hx hb hts in_X0 tyX0 tyX0_ok nmX0 hown hK.1 hP (hD _) hS (6 + (d)) (hwad_at (d) (by omega)) rfl 5 (by decide) fl_9 (fun _ h9 => h9) rfl (by decide +kernel) rfl rfl (Nat.le_of_ble_eq_true rfl) dX0_copyFrom_45 (fun H locs hP _ hS => ?_)
  have hP : va_P D vwCl (hw cI cD ad (hu_d u (d) (va_up (va_up (va_up (va_up (va_up (va_up (hs_d u (d)) 0 (hs_d v (d) 0)) 1 (hs_d v (d) 1)) 2 (hs_d v (d) 2)) 3 (hs_d v (d) 3)) 4 (hs_d v (d) 4)) 5 (hs_d v (d) 5))) ++ hw cI cD ad2 v) H := hwad_put (d) (by omega) hP
  refine lv_aload_n hx hb dX0_copyFrom_48 rfl (lv_at hl 0 rfl) ?_
  refine lv_aload_n hx hb dX0_copyFrom_49 rfl (lv_at hl 1 rfl) ?_
  refine va_get (D := D) (ci := 2) (v := .int (nI (hs_d v (d) 6))) (C := RX0) (T := TX0) (N := 10) hx hb hts in_X0 hown hK.1 hP (20 + (d)) (hwb_at (d) (by omega)) rfl 6 (by decide) fl_30 (fun _ h9 => h9) rfl dX0_copyFrom_50 ?_
  refine va_put (D := D) (ci := 2) (v := .int (nI (hs_d v (d) 6))) (ty := .int) (C := RX0) (T := TX0) (N := 10) hx hb hts in_X0 tyX0 tyX0_ok nmX0 hown hK.1 hP (hD _) hS (6 + (d)) (hwad_at (d) (by omega)) rfl 6 (by decide) fl_30 (fun _ h9 => h9) rfl (by decide +kernel) rfl rfl (Nat.le_of_ble_eq_true rfl) dX0_copyFrom_53 (fun H locs hP _ hS => ?_)
  have hP : va_P D vwCl (hw cI cD ad (hu_d u (d) (va_up (va_up (va_up (va_up (va_up (va_up (va_up (hs_d u (d)) 0 (hs_d v (d) 0)) 1 (hs_d v (d) 1)) 2 (hs_d v (d) 2)) 3 (hs_d v (d) 3)) 4 (hs_d v (d) 4)) 5 (hs_d v (d) 5)) 6 (hs_d v (d) 6))) ++ hw cI cD ad2 v) H := hwad_put (d) (by omega) hP
  refine lv_aload_n hx hb dX0_copyFrom_56 rfl (lv_at hl 0 rfl) ?_
  refine lv_aload_n hx hb dX0_copyFrom_57 rfl (lv_at hl 1 rfl) ?_
  refine va_get (D := D) (ci := 2) (v := .int (nI (hs_d v (d) 7))) (C := RX0) (T := TX0) (N := 10) hx hb hts in_X0 hown hK.1 hP (20 + (d)) (hwb_at (d) (by omega)) rfl 7 (by decide) fl_33 (fun _ h9 => h9) rfl dX0_copyFrom_58 ?_
  refine va_put (D := D) (ci := 2) (v := .int (nI (hs_d v (d) 7))) (ty := .int) (C := RX0) (T := TX0) (N := 10) hx hb hts in_X0 tyX0 tyX0_ok nmX0 hown hK.1 hP (hD _) hS (6 + (d)) (hwad_at (d) (by omega)) rfl 7 (by decide) fl_33 (fun _ h9 => h9) rfl (by decide +kernel) rfl rfl (Nat.le_of_ble_eq_true rfl) dX0_copyFrom_61 (fun H locs hP _ hS => ?_)
  have hP : va_P D vwCl (hw cI cD ad (hu_d u (d) (va_up (va_up (va_up (va_up (va_up (va_up (va_up (va_up (hs_d u (d)) 0 (hs_d v (d) 0)) 1 (hs_d v (d) 1)) 2 (hs_d v (d) 2)) 3 (hs_d v (d) 3)) 4 (hs_d v (d) 4)) 5 (hs_d v (d) 5)) 6 (hs_d v (d) 6)) 7 (hs_d v (d) 7))) ++ hw cI cD ad2 v) H := hwad_put (d) (by omega) hP
  refine lv_aload_n hx hb dX0_copyFrom_64 rfl (lv_at hl 0 rfl) ?_
  refine lv_aload_n hx hb dX0_copyFrom_65 rfl (lv_at hl 1 rfl) ?_
  refine va_get (D := D) (ci := 2) (v := .int (nI (hs_d v (d) 8))) (C := RX0) (T := TX0) (N := 10) hx hb hts in_X0 hown hK.1 hP (20 + (d)) (hwb_at (d) (by omega)) rfl 8 (by decide) fl_36 (fun _ h9 => h9) rfl dX0_copyFrom_66 ?_
  refine va_put (D := D) (ci := 2) (v := .int (nI (hs_d v (d) 8))) (ty := .boolean) (C := RX0) (T := TX0) (N := 10) hx hb hts in_X0 tyX0 tyX0_ok nmX0 hown hK.1 hP (hD _) hS (6 + (d)) (hwad_at (d) (by omega)) rfl 8 (by decide) fl_36 (fun _ h9 => h9) rfl (by decide +kernel) (nar_z (by omega)) (fit_z (by omega)) (Nat.le_of_ble_eq_true rfl) dX0_copyFrom_69 (fun H locs hP _ hS => ?_)
  have hP : va_P D vwCl (hw cI cD ad (hu_d u (d) (va_up (va_up (va_up (va_up (va_up (va_up (va_up (va_up (va_up (hs_d u (d)) 0 (hs_d v (d) 0)) 1 (hs_d v (d) 1)) 2 (hs_d v (d) 2)) 3 (hs_d v (d) 3)) 4 (hs_d v (d) 4)) 5 (hs_d v (d) 5)) 6 (hs_d v (d) 6)) 7 (hs_d v (d) 7)) 8 (hs_d v (d) 8))) ++ hw cI cD ad2 v) H := hwad_put (d) (by omega) hP
  refine lv_aload_n hx hb dX0_copyFrom_72 rfl (lv_at hl 0 rfl) ?_
  refine lv_aload_n hx hb dX0_copyFrom_73 rfl (lv_at hl 1 rfl) ?_
  refine va_get (D := D) (ci := 2) (v := .int (nI (hs_d v (d) 9))) (C := RX0) (T := TX0) (N := 10) hx hb hts in_X0 hown hK.1 hP (20 + (d)) (hwb_at (d) (by omega)) rfl 9 (by decide) fl_40 (fun _ h9 => h9) rfl dX0_copyFrom_74 ?_
  refine va_put (D := D) (ci := 2) (v := .int (nI (hs_d v (d) 9))) (ty := .boolean) (C := RX0) (T := TX0) (N := 10) hx hb hts in_X0 tyX0 tyX0_ok nmX0 hown hK.1 hP (hD _) hS (6 + (d)) (hwad_at (d) (by omega)) rfl 9 (by decide) fl_40 (fun _ h9 => h9) rfl (by decide +kernel) (nar_z (by omega)) (fit_z (by omega)) (Nat.le_of_ble_eq_true rfl) dX0_copyFrom_77 (fun H locs hP _ hS => ?_)
  have hP : va_P D vwCl (hw cI cD ad (hu_d u (d) (va_up (va_up (va_up (va_up (va_up (va_up (va_up (va_up (va_up (va_up (hs_d u (d)) 0 (hs_d v (d) 0)) 1 (hs_d v (d) 1)) 2 (hs_d v (d) 2)) 3 (hs_d v (d) 3)) 4 (hs_d v (d) 4)) 5 (hs_d v (d) 5)) 6 (hs_d v (d) 6)) 7 (hs_d v (d) 7)) 8 (hs_d v (d) 8)) 9 (hs_d v (d) 9))) ++ hw cI cD ad2 v) H := hwad_put (d) (by omega) hP
  exact nv_retGv hq hx hb hr hlocks hS (hP) dX0_copyFrom_80

/-- the signs that the class's line shows, in two parts -/
theorem gAlike_f {b : Nat} {G : Nat → Nat} (hG : gWf b G) {a d : Nat} (ha : a < 8) (hd : d < 8) : gAlike G a d ↔ ∀ k, k < 3 → fSg G a k = fSg G d k := by
  have x := hG.door ha
  have y := hG.door hd
  constructor
  · rintro ⟨h1, h2, h3⟩ k hk
    unfold fSg
    rw [h1, h2, h3]
  · intro h
    refine ⟨sch0_i _ (by have := x.2.1; omega) _ (by have := y.2.1; omega) (h 0 (by decide)), sch1_i _ (by have := x.2.2.1; omega) _ (by have := y.2.2.1; omega) (h 1 (by decide)), ?_⟩
    have h2 : 97 + gEnd G a = 97 + gEnd G d := h 2 (by decide)
    omega
theorem fSg_lt {b : Nat} {G : Nat → Nat} (hG : gWf b G) {d : Nat} (hd : d < 8) (k : Nat) : fSg G d k < 127 := by
  have x := hG.door hd
  have y := gEnd_le hG hd
  unfold fSg
  split
  · exact sch_lt (by decide) (Nat.lt_of_le_of_lt x.2.1 (by decide))
  · split
    · exact sch_lt (by decide) (Nat.lt_of_le_of_lt x.2.2.1 (by decide))
    · omega

set_option maxHeartbeats 1000000 in
set_option maxRecDepth 100000 in
theorem c_X1_formSign (l : Launch) {D : va_G} {cI cC cD cR : ClassId} {sa : sA} {A : Nat → Prop} {ad : Nat → Nat} {u : hS} {G : Nat → Nat} {b : Nat} (hR : hRel u G) (hG : gWf b G) (d k : Nat) (hd : d < G 0) (hk3 : k < 3) : Met l yX1_formSign wsX1_formSign ({ frames := 4, cells := 0, slots := 0, locals := 85 }) (va_Pc [.ref (ad 0), .ref (ad (6 + d)), .int (nI k)] (tPre D [(cI, .int), (cC, .char), (cD, .object "DoorDialect$Door"), (cR, .object "DoorDialect$House")] nN sa A (fun H => va_P D vwCl (hw cI cD ad u) H))) (sQ (nI (fSg G d k))) 0 0 (fun _ => False) := by
  refine nv_met (cc := cX1_formSign) (maxL := 3) (ret := (some .char)) (by decide) rfl (Nat.le_of_ble_eq_true rfl) ?_
  intro p0 e0 s m0 args below meth c0 Q hq hargs hnA hpre ls hl
  obtain ⟨hx, hb, hr, hts, hown, hlocks, hml⟩ := hnA
  obtain ⟨hP, hT⟩ := hpre
  have hK := hT.1
  have hown : s.vm.findClass RX1 = some m0.cls := hown
  have hP : va_P D vwCl (hw cI cD ad u) s.heap := hP
  have hl : lv_has ls 3 [(0, .ref (ad 0)), (1, .ref (ad (6 + d))), (2, .int (nI k))] := hl
  have hS : va_S A s.heap s.heap [] := va_S.rf
  have in_X0 : ∀ w ∈ wsX00, w ∈ wsX1_formSign := by decide +kernel
  have fl_99 := hts (.fieldLink RX1 99 "DoorDialect$Door" "declension" "I") (by decide +kernel)
  have fl_102 := hts (.fieldLink RX1 102 "DoorDialect$Door" "number" "I") (by decide +kernel)
  have fl_110 := hts (.fieldLink RX1 110 "DoorDialect$Door" "gender" "I") (by decide +kernel)
  obtain ⟨g_b, g_k, g_0, g_1, g_2, g_e, g_d, g_t, g_y, g_s, g_h⟩ := id hG
  obtain ⟨w_a, w_g, w_n, w_s, w_w, w_l, w_o, w_x, w_y, w_1, w_2, w_3, w_4⟩ := hG.door (d := d) (by omega)
  have hcc := gWf_case hG (d := d) (by omega)
  have hel := gEnd_le hG (d := d) (by omega)
  have hs0 : sch 0 (G (40 + d)) < 127 := sch_lt (by decide) (Nat.lt_of_le_of_lt w_g (by decide))
  have hs1 : sch 1 (G (48 + d)) < 127 := sch_lt (by decide) (Nat.lt_of_le_of_lt w_n (by decide))
  have zq0 : G 0 = G 0 := rfl
  have zq1 : G 1 = G 1 := rfl
  have zq2 : G 2 = G 2 := rfl
  rcases (show k = 0 ∨ k = 1 ∨ k = 2 by omega) with rfl | rfl | rfl
  · refine lv_iload_n hx hb dX1_formSign_0 rfl (lv_at hl 2 rfl) ?_
    refine lv_lookup (off := 27) (tgt := 28) hx hb dX1_formSign_1 (by decide) rfl (by decide) ?_
    refine va_ldcS hx hb hown (hT.2.2.1 (RX1, 108, "oig", 0) (by decide +kernel)) dX1_formSign_28 ?_
    refine lv_aload_n hx hb dX1_formSign_30 rfl (lv_at hl 1 rfl) ?_
    refine va_get (D := D) (ci := 2) (v := .int (nI (hs_d u (d) 1))) (C := RX0) (T := TX0) (N := 10) hx hb hts in_X0 hown hK.1 hP (6 + (d)) (hw_at (d) (by omega)) rfl 1 (by decide) fl_110 (fun _ h9 => h9) rfl dX1_formSign_31 ?_
    refine nv_to (G (40 + d)) (congrArg nI ((hR.d1 (d := d) (by rw [zq0]; omega)))) ?_
    refine nv_kS (va_runV (As := [.int (nI (G (40 + d)))]) (rest := []) ⟨hx, hb, hml, hown, hts⟩ (c_J0_charAt_5068e l 0 (by decide) (G (40 + d)) (by first | exact Nat.lt_of_le_of_lt w_g (by decide) | exact Nat.lt_of_le_of_lt w_n (by decide))) (cwV 1 hts gX1_formSign_J0_charAt_5068e rfl rfl rfl (by decide +kernel) ⟨Nat.le_of_ble_eq_true rfl, Nat.le_of_ble_eq_true rfl⟩) (nt_pV hT hS trivial (vk_recv hT.2.1 (by decide) hS)) rfl rfl hl.1 rfl (lv_room (Nat.le_of_ble_eq_true rfl)) dX1_formSign_34 ⟨Nat.zero_le _, Nat.zero_le _⟩) ?_
    exact nv_retS hq hx hb hr hlocks (nar_c (by first | omega | (have h9 : G (gEndAt (G (32 + d)) (gCase G d) (G (48 + d))) ≤ 25 := hel; omega))) (rfl) dX1_formSign_37
  · refine lv_iload_n hx hb dX1_formSign_0 rfl (lv_at hl 2 rfl) ?_
    refine lv_lookup (off := 37) (tgt := 38) hx hb dX1_formSign_1 (by decide) rfl (by decide) ?_
    refine va_ldcS hx hb hown (hT.2.2.1 (RX1, 113, "sd", 1) (by decide +kernel)) dX1_formSign_38 ?_
    refine lv_aload_n hx hb dX1_formSign_40 rfl (lv_at hl 1 rfl) ?_
    refine va_get (D := D) (ci := 2) (v := .int (nI (hs_d u (d) 2))) (C := RX0) (T := TX0) (N := 10) hx hb hts in_X0 hown hK.1 hP (6 + (d)) (hw_at (d) (by omega)) rfl 2 (by decide) fl_102 (fun _ h9 => h9) rfl dX1_formSign_41 ?_
    refine nv_to (G (48 + d)) (congrArg nI ((hR.d2 (d := d) (by rw [zq0]; omega)))) ?_
    refine nv_kS (va_runV (As := [.int (nI (G (48 + d)))]) (rest := []) ⟨hx, hb, hml, hown, hts⟩ (c_J0_charAt_5068e l 1 (by decide) (G (48 + d)) (by first | exact Nat.lt_of_le_of_lt w_g (by decide) | exact Nat.lt_of_le_of_lt w_n (by decide))) (cwV 1 hts gX1_formSign_J0_charAt_5068e rfl rfl rfl (by decide +kernel) ⟨Nat.le_of_ble_eq_true rfl, Nat.le_of_ble_eq_true rfl⟩) (nt_pV hT hS trivial (vk_recv hT.2.1 (by decide) hS)) rfl rfl hl.1 rfl (lv_room (Nat.le_of_ble_eq_true rfl)) dX1_formSign_44 ⟨Nat.zero_le _, Nat.zero_le _⟩) ?_
    exact nv_retS hq hx hb hr hlocks (nar_c (by first | omega | (have h9 : G (gEndAt (G (32 + d)) (gCase G d) (G (48 + d))) ≤ 25 := hel; omega))) (rfl) dX1_formSign_47
  · refine lv_iload_n hx hb dX1_formSign_0 rfl (lv_at hl 2 rfl) ?_
    refine lv_lookup (off := 47) (tgt := 48) hx hb dX1_formSign_1 (by decide) rfl (by decide) ?_
    refine lv_aload_n hx hb dX1_formSign_48 rfl (lv_at hl 0 rfl) ?_
    refine lv_aload_n hx hb dX1_formSign_49 rfl (lv_at hl 1 rfl) ?_
    refine va_get (D := D) (ci := 2) (v := .int (nI (hs_d u (d) 0))) (C := RX0) (T := TX0) (N := 10) hx hb hts in_X0 hown hK.1 hP (6 + (d)) (hw_at (d) (by omega)) rfl 0 (by decide) fl_99 (fun _ h9 => h9) rfl dX1_formSign_50 ?_
    refine nv_to (G (32 + d)) (congrArg nI ((hR.d0 (d := d) (by rw [zq0]; omega)))) ?_
    refine lv_aload_n hx hb dX1_formSign_53 rfl (lv_at hl 0 rfl) ?_
    refine lv_aload_n hx hb dX1_formSign_54 rfl (lv_at hl 1 rfl) ?_
    refine nv_kS (va_runV (As := [.ref (ad (6 + d))]) (rest := [.int (nI (G (32 + d))), .ref (ad 0)]) ⟨hx, hb, hml, hown, hts⟩ (c_X1_caseOf l hR hG d (by omega)) (cwV 1 hts gX1_formSign_X1_caseOf rfl rfl rfl (by decide +kernel) ⟨Nat.le_of_ble_eq_true rfl, Nat.le_of_ble_eq_true rfl⟩) (nt_pV hT hS hP (va_recv hK.1 hP (ci := 3) (q0 := 0) rfl rfl)) rfl rfl hl.1 rfl (lv_room (Nat.le_of_ble_eq_true rfl)) dX1_formSign_55 ⟨Nat.zero_le _, Nat.zero_le _⟩) ?_
    refine lv_aload_n hx hb dX1_formSign_58 rfl (lv_at hl 1 rfl) ?_
    refine va_get (D := D) (ci := 2) (v := .int (nI (hs_d u (d) 2))) (C := RX0) (T := TX0) (N := 10) hx hb hts in_X0 hown hK.1 hP (6 + (d)) (hw_at (d) (by omega)) rfl 2 (by decide) fl_102 (fun _ h9 => h9) rfl dX1_formSign_59 ?_
    refine nv_to (G (48 + d)) (congrArg nI ((hR.d2 (d := d) (by rw [zq0]; omega)))) ?_
    refine nv_kS (va_runV (As := [.int (nI (G (32 + d))), .int (nI (gCase G d)), .int (nI (G (48 + d)))]) (rest := []) ⟨hx, hb, hml, hown, hts⟩ (c_X1_signAt l hR hG (G (32 + d)) (gCase G d) (G (48 + d)) (by omega) (by omega) (by omega)) (cwV 3 hts gX1_formSign_X1_signAt rfl rfl rfl (by decide +kernel) ⟨Nat.le_of_ble_eq_true rfl, Nat.le_of_ble_eq_true rfl⟩) (nt_pV hT hS hP (va_recv hK.1 hP (ci := 3) (q0 := 0) rfl rfl)) rfl rfl hl.1 rfl (lv_room (Nat.le_of_ble_eq_true rfl)) dX1_formSign_62 ⟨Nat.zero_le _, Nat.zero_le _⟩) ?_
    exact nv_retS hq hx hb hr hlocks (nar_c (by first | omega | (have h9 : G (gEndAt (G (32 + d)) (gCase G d) (G (48 + d))) ≤ 25 := hel; omega))) (rfl) dX1_formSign_65

set_option maxHeartbeats 1000000 in
set_option maxRecDepth 100000 in
theorem c_X1_areAlikeByLetters (l : Launch) {D : va_G} {cI cC cD cR : ClassId} {sa : sA} {A : Nat → Prop} {ad : Nat → Nat} {u : hS} {G : Nat → Nat} {b : Nat} (hR : hRel u G) (hG : gWf b G) (a d : Nat) (ha : a < G 0) (hd : d < G 0) : Met l yX1_areAlikeByLetters wsX1_areAlikeByLetters ({ frames := 5, cells := 0, slots := 0, locals := 107 }) (va_Pc [.ref (ad 0), .int (nI a), .int (nI d)] (tPre D [(cI, .int), (cC, .char), (cD, .object "DoorDialect$Door"), (cR, .object "DoorDialect$House")] nN sa A (fun H => va_P D vwCl (hw cI cD ad u) H))) (sQ (nI (bI (gAlike G a d)))) 0 0 (fun _ => False) := by
  refine nv_met (cc := cX1_areAlikeByLetters) (maxL := 4) (ret := (some .boolean)) (by decide) rfl (Nat.le_of_ble_eq_true rfl) ?_
  intro p0 e0 s m0 args below meth c0 Q hq hargs hnA hpre ls hl
  obtain ⟨hx, hb, hr, hts, hown, hlocks, hml⟩ := hnA
  obtain ⟨hP, hT⟩ := hpre
  have hK := hT.1
  have hown : s.vm.findClass RX1 = some m0.cls := hown
  have hP : va_P D vwCl (hw cI cD ad u) s.heap := hP
  have hl : lv_has ls 4 [(0, .ref (ad 0)), (1, .int (nI a)), (2, .int (nI d))] := hl
  have hS : va_S A s.heap s.heap [] := va_S.rf
  have in_X1 : ∀ w ∈ wsX10, w ∈ wsX1_areAlikeByLetters := by decide +kernel
  have fl_11 := hts (.fieldLink RX1 11 "DoorDialect$House" "doors" "[LDoorDialect$Door;") (by decide +kernel)
  obtain ⟨g_b, g_k, g_0, g_1, g_2, g_e, g_d, g_t, g_y, g_s, g_h⟩ := id hG
  have hfl := fun k => fSg_lt hG (d := a) (by omega) k
  have hfl2 := fun k => fSg_lt hG (d := d) (by omega) k
  have zq0 : G 0 = G 0 := rfl
  have zq1 : G 1 = G 1 := rfl
  have zq2 : G 2 = G 2 := rfl
  refine lv_iconst (v := nI 0) hx hb dX1_areAlikeByLetters_0 (by decide) ?_
  refine lv_istore_n (lv' := [(3, .int (nI 0)), (0, .ref (ad 0)), (1, .int (nI a)), (2, .int (nI d))]) hx hb dX1_areAlikeByLetters_1 rfl hl (by decide) rfl (fun ls hl => ?_)
  have hloop1 : ∀ (nn : Nat) (k : Nat), (k ≤ 3) → (∀ j, j < k → fSg G a j = fSg G d j) → 3 - k < nn → ∀ (ls : Array Slot), lv_has ls 4 [(3, .int (nI k)), (0, .ref (ad 0)), (1, .int (nI a)), (2, .int (nI d))] → W p0 l e0 ({ frames := 5, cells := 0, slots := 0, locals := 107 }) s m0 args below meth c0 s.heap [] 0 0 Q (F0 m0 2 ls []) := by
    intro nn2
    induction nn2 with
    | zero => intro k hk9 hn hn0  _ _; exact absurd hn0 (Nat.not_lt_zero _)
    | succ nn2 ih2 =>
      intro k hk9 hn hn2  ls hl
      refine lv_iload_n hx hb dX1_areAlikeByLetters_2 rfl (lv_at hl 0 rfl) ?_
      refine lv_iconst (v := nI 3) hx hb dX1_areAlikeByLetters_3 (by decide) ?_
      refine nv_icmp_ge (tgt := 40) hx hb dX1_areAlikeByLetters_4 (by decide) (by omega) (by omega) (fun c2 => ?_) (fun c2 => ?_)
      · refine lv_iconst (v := nI 1) hx hb dX1_areAlikeByLetters_40 (by decide) ?_
        exact nv_retS hq hx hb hr hlocks (nar_z (by omega)) (nv_in1 ((gAlike_f hG (by omega) (by omega)).mpr (fun j hj => hn j (by omega)))) dX1_areAlikeByLetters_41
      · refine lv_aload_n hx hb dX1_areAlikeByLetters_7 rfl (lv_at hl 1 rfl) ?_
        refine lv_aload_n hx hb dX1_areAlikeByLetters_8 rfl (lv_at hl 1 rfl) ?_
        refine va_get (D := D) (ci := 3) (v := .ref (ad 1)) (C := RX1) (T := TX1) (N := 12) hx hb hts in_X1 hown hK.1 hP 0 rfl rfl 0 (by decide) fl_11 (fun _ h9 => h9) rfl dX1_areAlikeByLetters_9 ?_
        refine lv_iload_n hx hb dX1_areAlikeByLetters_12 rfl (lv_at hl 2 rfl) ?_
        refine nv_aldq (i := a) hx hb hK.1 hP 1 2 rfl rfl (by omega) (by decide) dX1_areAlikeByLetters_13 ?_
        refine lv_iload_n hx hb dX1_areAlikeByLetters_14 rfl (lv_at hl 0 rfl) ?_
        refine nv_kS (va_runV (As := [.ref (ad (6 + a)), .int (nI k)]) (rest := []) ⟨hx, hb, hml, hown, hts⟩ (c_X1_formSign l hR hG a k (by omega) (by omega)) (cwV 2 hts gX1_areAlikeByLetters_X1_formSign rfl rfl rfl (by decide +kernel) ⟨Nat.le_of_ble_eq_true rfl, Nat.le_of_ble_eq_true rfl⟩) (nt_pV hT hS hP (va_recv hK.1 hP (ci := 3) (q0 := 0) rfl rfl)) rfl rfl hl.1 rfl (lv_room (Nat.le_of_ble_eq_true rfl)) dX1_areAlikeByLetters_15 ⟨Nat.zero_le _, Nat.zero_le _⟩) ?_
        refine lv_aload_n hx hb dX1_areAlikeByLetters_18 rfl (lv_at hl 1 rfl) ?_
        refine lv_aload_n hx hb dX1_areAlikeByLetters_19 rfl (lv_at hl 1 rfl) ?_
        refine va_get (D := D) (ci := 3) (v := .ref (ad 1)) (C := RX1) (T := TX1) (N := 12) hx hb hts in_X1 hown hK.1 hP 0 rfl rfl 0 (by decide) fl_11 (fun _ h9 => h9) rfl dX1_areAlikeByLetters_20 ?_
        refine lv_iload_n hx hb dX1_areAlikeByLetters_23 rfl (lv_at hl 3 rfl) ?_
        refine nv_aldq (i := d) hx hb hK.1 hP 1 2 rfl rfl (by omega) (by decide) dX1_areAlikeByLetters_24 ?_
        refine lv_iload_n hx hb dX1_areAlikeByLetters_25 rfl (lv_at hl 0 rfl) ?_
        refine nv_kS (va_runV (As := [.ref (ad (6 + d)), .int (nI k)]) (rest := [.int (nI (fSg G a k))]) ⟨hx, hb, hml, hown, hts⟩ (c_X1_formSign l hR hG d k (by omega) (by omega)) (cwV 2 hts gX1_areAlikeByLetters_X1_formSign rfl rfl rfl (by decide +kernel) ⟨Nat.le_of_ble_eq_true rfl, Nat.le_of_ble_eq_true rfl⟩) (nt_pV hT hS hP (va_recv hK.1 hP (ci := 3) (q0 := 0) rfl rfl)) rfl rfl hl.1 rfl (lv_room (Nat.le_of_ble_eq_true rfl)) dX1_areAlikeByLetters_26 ⟨Nat.zero_le _, Nat.zero_le _⟩) ?_
        refine nv_icmp_eq (tgt := 34) hx hb dX1_areAlikeByLetters_29 (by decide) (by first | exact Nat.lt_of_lt_of_le (hfl _) (by decide) | exact Nat.lt_of_lt_of_le (hfl2 _) (by decide)) (by first | exact Nat.lt_of_lt_of_le (hfl _) (by decide) | exact Nat.lt_of_lt_of_le (hfl2 _) (by decide)) (fun c3 => ?_) (fun c3 => ?_)
        · refine lv_iinc (v := nI (k + 1)) (lv' := [(3, .int (nI (k + 1))), (0, .ref (ad 0)), (1, .int (nI a)), (2, .int (nI d))]) hx hb dX1_areAlikeByLetters_34 hl (k := 0) rfl (by show nI _ + Int32.ofInt 1 = _; exact nI_add _ 1) (by decide) rfl (fun ls hl => ?_)
          refine lv_goto (tgt := 2) hx hb dX1_areAlikeByLetters_37 (by decide) ?_
          exact ih2  (k + 1) ((by omega)) ((fun j hj => by rcases (show j < k ∨ j = k by omega) with h | h; exact hn j h; subst h; exact c3)) (by omega) ls (lv_sub hl [0, 1, 2, 3] rfl)
        · refine lv_iconst (v := nI 0) hx hb dX1_areAlikeByLetters_32 (by decide) ?_
          exact nv_retS hq hx hb hr hlocks (nar_z (by omega)) (nv_in0 (fun q => c3 ((gAlike_f hG (by omega) (by omega)).mp q k (by omega)))) dX1_areAlikeByLetters_33
  exact hloop1 _ 0 ((Nat.zero_le _)) ((fun j hj => absurd hj (Nat.not_lt_zero j))) (Nat.lt_succ_self _) ls (lv_sub hl [0, 1, 2, 3] rfl)
