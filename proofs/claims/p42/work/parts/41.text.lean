/-! the line's cells, the input's cells -/
def tw (cC : ClassId) (x : Nat → Nat) (F : Nat → Nat) (n : Nat) : va_W := [(x 0, .inr (6, [.ref (x 1), .int (nI n)])), (x 1, .inl (cC, 16, .inl (gN F)))]
def iw (cI cC : ClassId) (x : Nat → Nat) (V : Nat → Int32) (S : Nat → Nat) (o pl ty vc : Nat) : va_W := [(x 0, .inr (4, [.ref (x 1), .int (nI o), .int (nI pl), .int (nI ty), .ref (x 2), .int (nI vc)])), (x 1, .inl (cI, 5, .inl V)), (x 2, .inl (cC, 60, .inl (gN S)))]

set_option maxHeartbeats 1000000 in
set_option maxRecDepth 100000 in
theorem c_X4_begin (l : Launch) {D : va_G} {cI cC cD cR : ClassId} {sa : sA} {A : Nat → Prop} {x : Nat → Nat} {F : Nat → Nat} {n : Nat} (hD : ∀ F fs, va_D A [(x 0, .inr (6, fs)), (x 1, .inl (cC, 16, .inl (gN F)))])  : Met l yX4_begin wsX4_begin ({ frames := 0, cells := 0, slots := 0, locals := 0 }) (va_Pc [.ref (x 0)] (tPre D [(cI, .int), (cC, .char), (cD, .object "DoorDialect$Door"), (cR, .object "DoorDialect$House")] nN sa A (fun H => va_P D vwCl [(x 0, .inr (6, [.ref (x 1), .int (nI n)])), (x 1, .inl (cC, 16, .inl (gN F)))] H))) (gQv ((fun H => va_P D vwCl (tw cC x (F) (0)) H)) A) 0 0 A := by
  refine nv_met (cc := cX4_begin) (maxL := 1) (ret := none) (by decide) rfl (Nat.le_of_ble_eq_true rfl) ?_
  intro p0 e0 s m0 args below meth c0 Q hq hargs hnA hpre ls hl
  obtain ⟨hx, hb, hr, hts, hown, hlocks, hml⟩ := hnA
  obtain ⟨hP, hT⟩ := hpre
  have hK := hT.1
  have hown : s.vm.findClass RX4 = some m0.cls := hown
  have hP : va_P D vwCl [(x 0, .inr (6, [.ref (x 1), .int (nI n)])), (x 1, .inl (cC, 16, .inl (gN F)))] s.heap := hP
  have hl : lv_has ls 1 [(0, .ref (x 0))] := hl
  have hS : va_S A s.heap s.heap [] := va_S.rf
  have in_X4 : ∀ w ∈ wsX40, w ∈ wsX4_begin := by decide +kernel
  have fl_13 := hts (.fieldLink RX4 13 "DoorDialect$Text" "length" "I") (by decide +kernel)
  refine lv_aload_n hx hb dX4_begin_0 rfl (lv_at hl 0 rfl) ?_
  refine lv_iconst (v := nI 0) hx hb dX4_begin_1 (by decide) ?_
  refine va_put (D := D) (ci := 6) (v := .int (nI 0)) (ty := .int) (C := RX4) (T := TX4) (N := 2) hx hb hts in_X4 tyX4 tyX4_ok nmX4 hown hK.1 hP (hD _ _) hS 0 rfl rfl 1 (by decide) fl_13 (fun _ h9 => h9) rfl (by decide +kernel) rfl rfl (Nat.le_of_ble_eq_true rfl) dX4_begin_2 (fun H locs hP _ hS => ?_)
  have hP : va_P D vwCl [(x 0, .inr (6, [.ref (x 1), .int (nI 0)])), (x 1, .inl (cC, 16, .inl (gN F)))] H := hP
  exact nv_retGv hq hx hb hr hlocks hS (hP) dX4_begin_5

set_option maxHeartbeats 1000000 in
set_option maxRecDepth 100000 in
theorem c_X4_put (l : Launch) {D : va_G} {cI cC cD cR : ClassId} {sa : sA} {A : Nat → Prop} {x : Nat → Nat} {F : Nat → Nat} {n : Nat} (hD : ∀ F fs, va_D A [(x 0, .inr (6, fs)), (x 1, .inl (cC, 16, .inl (gN F)))]) (c : Nat) (hc : c < 65536) (hn : n < 16) : Met l yX4_put wsX4_put ({ frames := 0, cells := 0, slots := 0, locals := 0 }) (va_Pc [.ref (x 0), .int (nI c)] (tPre D [(cI, .int), (cC, .char), (cD, .object "DoorDialect$Door"), (cR, .object "DoorDialect$House")] nN sa A (fun H => va_P D vwCl [(x 0, .inr (6, [.ref (x 1), .int (nI n)])), (x 1, .inl (cC, 16, .inl (gN F)))] H))) (gQv ((fun H => va_P D vwCl (tw cC x (va_up F n c) (n + 1)) H)) A) 0 0 A := by
  refine nv_met (cc := cX4_put) (maxL := 2) (ret := none) (by decide) rfl (Nat.le_of_ble_eq_true rfl) ?_
  intro p0 e0 s m0 args below meth c0 Q hq hargs hnA hpre ls hl
  obtain ⟨hx, hb, hr, hts, hown, hlocks, hml⟩ := hnA
  obtain ⟨hP, hT⟩ := hpre
  have hK := hT.1
  have hown : s.vm.findClass RX4 = some m0.cls := hown
  have hP : va_P D vwCl [(x 0, .inr (6, [.ref (x 1), .int (nI n)])), (x 1, .inl (cC, 16, .inl (gN F)))] s.heap := hP
  have hl : lv_has ls 2 [(0, .ref (x 0)), (1, .int (nI c))] := hl
  have hS : va_S A s.heap s.heap [] := va_S.rf
  have in_X4 : ∀ w ∈ wsX40, w ∈ wsX4_put := by decide +kernel
  have fl_7 := hts (.fieldLink RX4 7 "DoorDialect$Text" "signs" "[C") (by decide +kernel)
  have fl_13 := hts (.fieldLink RX4 13 "DoorDialect$Text" "length" "I") (by decide +kernel)
  refine lv_aload_n hx hb dX4_put_0 rfl (lv_at hl 0 rfl) ?_
  refine va_get (D := D) (ci := 6) (v := .int (nI n)) (C := RX4) (T := TX4) (N := 2) hx hb hts in_X4 hown hK.1 hP 0 rfl rfl 1 (by decide) fl_13 (fun _ h9 => h9) rfl dX4_put_1 ?_
  refine lv_aload_n hx hb dX4_put_4 rfl (lv_at hl 0 rfl) ?_
  refine va_get (D := D) (ci := 6) (v := .ref (x 1)) (C := RX4) (T := TX4) (N := 2) hx hb hts in_X4 hown hK.1 hP 0 rfl rfl 0 (by decide) fl_7 (fun _ h9 => h9) rfl dX4_put_5 ?_
  refine va_alen (v := nI 16) hx hb hK.1 hP 1 1 (ty := .char) rfl rfl rfl dX4_put_8 ?_
  refine nv_icmp_ge (tgt := 32) hx hb dX4_put_9 (by decide) (by omega) (by omega) (fun c1 => ?_) (fun c1 => ?_)
  · exfalso; omega
  · refine lv_aload_n hx hb dX4_put_12 rfl (lv_at hl 0 rfl) ?_
    refine va_get (D := D) (ci := 6) (v := .ref (x 1)) (C := RX4) (T := TX4) (N := 2) hx hb hts in_X4 hown hK.1 hP 0 rfl rfl 0 (by decide) fl_7 (fun _ h9 => h9) rfl dX4_put_13 ?_
    refine lv_aload_n hx hb dX4_put_16 rfl (lv_at hl 0 rfl) ?_
    refine va_get (D := D) (ci := 6) (v := .int (nI n)) (C := RX4) (T := TX4) (N := 2) hx hb hts in_X4 hown hK.1 hP 0 rfl rfl 1 (by decide) fl_13 (fun _ h9 => h9) rfl dX4_put_17 ?_
    refine lv_iload_n hx hb dX4_put_20 rfl (lv_at hl 1 rfl) ?_
    refine nv_cast (i := n) (v := c) hx hb hK.1 hP (hD _ _) hS 1 1 rfl rfl (by first | omega | (simp only [gEndAt]; omega)) (by decide) (by omega) dX4_put_21 (fun H locs hP hS => ?_)
    have hP : va_P D vwCl [(x 0, .inr (6, [.ref (x 1), .int (nI n)])), (x 1, .inl (cC, 16, .inl (gN ((va_up F (n) (c))))))] H := hP
    refine lv_aload_n hx hb dX4_put_22 rfl (lv_at hl 0 rfl) ?_
    refine lv_dup hx hb dX4_put_23 rfl ?_
    refine va_get (D := D) (ci := 6) (v := .int (nI n)) (C := RX4) (T := TX4) (N := 2) hx hb hts in_X4 hown hK.1 hP 0 rfl rfl 1 (by decide) fl_13 (fun _ h9 => h9) rfl dX4_put_24 ?_
    refine lv_iconst (v := nI 1) hx hb dX4_put_27 (by decide) ?_
    refine nv_iadd hx hb dX4_put_28 ?_
    refine va_put (D := D) (ci := 6) (v := .int (nI (n + 1))) (ty := .int) (C := RX4) (T := TX4) (N := 2) hx hb hts in_X4 tyX4 tyX4_ok nmX4 hown hK.1 hP (hD _ _) hS 0 rfl rfl 1 (by decide) fl_13 (fun _ h9 => h9) rfl (by decide +kernel) rfl rfl (Nat.le_of_ble_eq_true rfl) dX4_put_29 (fun H locs hP _ hS => ?_)
    have hP : va_P D vwCl [(x 0, .inr (6, [.ref (x 1), .int (nI (n + 1))])), (x 1, .inl (cC, 16, .inl (gN ((va_up F (n) (c))))))] H := hP
    exact nv_retGv hq hx hb hr hlocks hS (hP) dX4_put_32

set_option maxHeartbeats 1000000 in
set_option maxRecDepth 100000 in
theorem c_X4_putDigit (l : Launch) {D : va_G} {cI cC cD cR : ClassId} {sa : sA} {A : Nat → Prop} {x : Nat → Nat} {F : Nat → Nat} {n : Nat} (hD : ∀ F fs, va_D A [(x 0, .inr (6, fs)), (x 1, .inl (cC, 16, .inl (gN F)))]) (c : Nat) (hc : c < 10000) (hn : n < 16) : Met l yX4_putDigit wsX4_putDigit ({ frames := 1, cells := 0, slots := 0, locals := 21 }) (va_Pc [.ref (x 0), .int (nI c)] (tPre D [(cI, .int), (cC, .char), (cD, .object "DoorDialect$Door"), (cR, .object "DoorDialect$House")] nN sa A (fun H => va_P D vwCl [(x 0, .inr (6, [.ref (x 1), .int (nI n)])), (x 1, .inl (cC, 16, .inl (gN F)))] H))) (gQv ((fun H => va_P D vwCl (tw cC x (va_up F n (48 + c)) (n + 1)) H)) A) 0 0 A := by
  refine nv_met (cc := cX4_putDigit) (maxL := 2) (ret := none) (by decide) rfl (Nat.le_of_ble_eq_true rfl) ?_
  intro p0 e0 s m0 args below meth c0 Q hq hargs hnA hpre ls hl
  obtain ⟨hx, hb, hr, hts, hown, hlocks, hml⟩ := hnA
  obtain ⟨hP, hT⟩ := hpre
  have hK := hT.1
  have hown : s.vm.findClass RX4 = some m0.cls := hown
  have hP : va_P D vwCl [(x 0, .inr (6, [.ref (x 1), .int (nI n)])), (x 1, .inl (cC, 16, .inl (gN F)))] s.heap := hP
  have hl : lv_has ls 2 [(0, .ref (x 0)), (1, .int (nI c))] := hl
  have hS : va_S A s.heap s.heap [] := va_S.rf
  refine lv_aload_n hx hb dX4_putDigit_0 rfl (lv_at hl 0 rfl) ?_
  refine lv_bipush (v := nI 48) hx hb dX4_putDigit_1 (by decide) ?_
  refine lv_iload_n hx hb dX4_putDigit_3 rfl (lv_at hl 1 rfl) ?_
  refine nv_iadd hx hb dX4_putDigit_4 ?_
  refine lv_i2c (v := nI (48 + c)) hx hb dX4_putDigit_5 (nv_i2c (by omega)) ?_
  refine nv_kGv (va_runV (As := [.int (nI (48 + c))]) (rest := []) ⟨hx, hb, hml, hown, hts⟩ (c_X4_put l hD (48 + c) (by omega) (by omega)) (cwV 1 hts gX4_putDigit_X4_put rfl rfl rfl (by decide +kernel) ⟨Nat.le_of_ble_eq_true rfl, Nat.le_of_ble_eq_true rfl⟩) (nt_pV hT hS hP (va_recv hK.1 hP (ci := 6) (q0 := 0) rfl rfl)) rfl rfl hl.1 rfl (lv_room (Nat.le_of_ble_eq_true rfl)) dX4_putDigit_6 ⟨Nat.zero_le _, Nat.zero_le _⟩) hS (fun _ h9 => h9) (fun H locs hP1 hK1 hS => ?_)
  have hP : va_P D vwCl [(x 0, .inr (6, [.ref (x 1), .int (nI (n + 1))])), (x 1, .inl (cC, 16, .inl (gN ((va_up F (n) (48 + c))))))] H := hP1
  exact nv_retGv hq hx hb hr hlocks hS (hP) dX4_putDigit_9
