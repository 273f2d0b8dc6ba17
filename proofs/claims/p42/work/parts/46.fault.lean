set_option maxHeartbeats 1000000 in
set_option maxRecDepth 100000 in
theorem c_X6_refuse (l : Launch) {D : va_G} {cI cC cD cR : ClassId} {sa : sA} {A : Nat → Prop} {AD : Nat → Nat} {hs wy : Nat} {ea ra wd : Int32} (hD : ∀ fs, va_D A [(AD 0, .inr (8, fs))]) (r : Nat) (x : Int32) : Met l yX6_refuse wsX6_refuse ({ frames := 0, cells := 0, slots := 0, locals := 0 }) (va_Pc [.ref (AD 0), .int (nI r), .int x] (tPre D [(cI, .int), (cC, .char), (cD, .object "DoorDialect$Door"), (cR, .object "DoorDialect$House")] nN sa A (fun H => va_P D vwCl (cOb AD hs (wy) (wd) ea ra) H))) (gQ (nI (3)) ((fun H => va_P D vwCl (cOb AD hs r x ea ra) H)) A) 0 0 A := by
  refine nv_met (cc := cX6_refuse) (maxL := 3) (ret := (some .int)) (by decide) rfl (Nat.le_of_ble_eq_true rfl) ?_
  intro p0 e0 s m0 args below meth c0 Q hq hargs hnA hpre ls hl
  obtain ⟨hx, hb, hr, hts, hown, hlocks, hml⟩ := hnA
  obtain ⟨hP, hT⟩ := hpre
  have hK := hT.1
  have hown : s.vm.findClass RX6 = some m0.cls := hown
  have hP : va_P D vwCl (cOb AD hs (wy) (wd) ea ra) s.heap := hP
  have hl : lv_has ls 3 [(0, .ref (AD 0)), (1, .int (nI r)), (2, .int x)] := hl
  have hS : va_S A s.heap s.heap [] := va_S.rf
  have in_X6 : ∀ w ∈ wsX60, w ∈ wsX6_refuse := by decide +kernel
  have fl_51 := hts (.fieldLink RX6 51 "DoorDialect" "reason" "I") (by decide +kernel)
  have fl_55 := hts (.fieldLink RX6 55 "DoorDialect" "detail" "I") (by decide +kernel)
  refine lv_aload_n hx hb dX6_refuse_0 rfl (lv_at hl 0 rfl) ?_
  refine lv_iload_n hx hb dX6_refuse_1 rfl (lv_at hl 1 rfl) ?_
  refine va_put (D := D) (ci := 8) (v := .int (nI r)) (ty := .int) (C := RX6) (T := TX6) (N := 11) hx hb hts in_X6 tyX6 tyX6_ok nmX6 hown hK.1 hP (hD _) hS 0 rfl rfl 7 (by decide) fl_51 (fun _ h9 => h9) rfl (by decide +kernel) rfl rfl (Nat.le_of_ble_eq_true rfl) dX6_refuse_2 (fun H locs hP _ hS => ?_)
  have hP : va_P D vwCl (cOb AD hs (r) (wd) ea ra) H := hP
  refine lv_aload_n hx hb dX6_refuse_5 rfl (lv_at hl 0 rfl) ?_
  refine lv_iload_n hx hb dX6_refuse_6 rfl (lv_at hl 2 rfl) ?_
  refine va_put (D := D) (ci := 8) (v := .int x) (ty := .int) (C := RX6) (T := TX6) (N := 11) hx hb hts in_X6 tyX6 tyX6_ok nmX6 hown hK.1 hP (hD _) hS 0 rfl rfl 8 (by decide) fl_55 (fun _ h9 => h9) rfl (by decide +kernel) rfl rfl (Nat.le_of_ble_eq_true rfl) dX6_refuse_7 (fun H locs hP _ hS => ?_)
  have hP : va_P D vwCl (cOb AD hs (r) (x) ea ra) H := hP
  refine lv_iconst (v := nI 3) hx hb dX6_refuse_10 (by decide) ?_
  exact nv_retG hq hx hb hr hlocks (nar_i _) (rfl) hS (hP) dX6_refuse_11

/-- a fault's number by what is thrown -/
def fC (fl : List Nat) (n : Nat) : Nat := if n = 0 then 0 else fl.getD (n - 1) 0
theorem i_sub1 (x t : Int32) : x - nI 1 = t ↔ x = t + nI 1 := ⟨fun h => by rw [← h, Int32.sub_add_cancel], fun h => by rw [h, Int32.add_sub_cancel]⟩

set_option maxHeartbeats 1000000 in
set_option maxRecDepth 100000 in
theorem c_X6_faultOfDoor (l : Launch) {D : va_G} {cI cC cD cR : ClassId} {sa : sA} {A : Nat → Prop} {AD : Nat → Nat} {u : hS} {G : Nat → Nat} {b hs wy : Nat} {ea ra wd : Int32} {J : Heap → Prop} (hR : hRel u G) (hG : gWf b G) (hI : cInj AD) (hAA : ∀ i, i < 165 → A (AD i)) (hJ : cOn AD 15 165 J) (a g : Int32) (z : Nat) (x y : Int32) : Met l yX6_faultOfDoor wsX6_faultOfDoor ({ frames := 1, cells := 0, slots := 0, locals := 22 }) (va_Pc [.ref (AD 0), .int a, .int g, .int x, .int y] (tPre D [(cI, .int), (cC, .char), (cD, .object "DoorDialect$Door"), (cR, .object "DoorDialect$House")] nN sa A (fun H => va_P D vwCl (cOb AD (hs) (wy) (wd) (ea) (ra)) H ∧ va_P D vwCl (hw cI cD (cAd AD 1) u) H ∧ J H))) (gQ (nI (fC [1, 2, 3] (vDoor G a g z x y).1)) ((fun H => va_P D vwCl (cOb AD hs (vWy (vDoor G a g z x y) wy) (vWd (vDoor G a g z x y) wd) ea ra) H ∧ va_P D vwCl (hw cI cD (cAd AD 1) u) H ∧ J H)) A) 0 0 A := by
  refine nv_met (cc := cX6_faultOfDoor) (maxL := 5) (ret := (some .int)) (by decide) rfl (Nat.le_of_ble_eq_true rfl) ?_
  intro p0 e0 s m0 args below meth c0 Q hq hargs hnA hpre ls hl
  obtain ⟨hx, hb, hr, hts, hown, hlocks, hml⟩ := hnA
  obtain ⟨hP, hT⟩ := hpre
  have hK := hT.1
  have hown : s.vm.findClass RX6 = some m0.cls := hown
  obtain ⟨hPo, hPh, hJ0⟩ := hP
  have hPo : va_P D vwCl (cOb AD (hs) (wy) (wd) (ea) (ra)) s.heap := hPo
  have hPh : va_P D vwCl (hw cI cD (cAd AD 1) u) s.heap := hPh
  have hJ0 : J s.heap := hJ0
  have hl : lv_has ls 5 [(0, .ref (AD 0)), (1, .int a), (2, .int g), (3, .int x), (4, .int y)] := hl
  have hS : va_S A s.heap s.heap [] := va_S.rf
  have in_X1 : ∀ w ∈ wsX10, w ∈ wsX6_faultOfDoor := by decide +kernel
  have in_X6 : ∀ w ∈ wsX60, w ∈ wsX6_faultOfDoor := by decide +kernel
  have fl_10 := hts (.fieldLink RX6 10 "DoorDialect" "house" "LDoorDialect$House;") (by decide +kernel)
  have fl_64 := hts (.fieldLink RX6 64 "DoorDialect$House" "doorCount" "I") (by decide +kernel)
  obtain ⟨g_b, g_k, g_0, g_1, g_2, g_e, g_d, g_t, g_y, g_s, g_h⟩ := id hG
  have zq0 : G 0 = G 0 := rfl
  refine lv_iload_n hx hb dX6_faultOfDoor_0 rfl (lv_at hl 1 rfl) ?_
  refine lv_iconst (v := nI 3) hx hb dX6_faultOfDoor_1 (by decide) ?_
  refine nv_kS (va_runS (As := [.int a, .int (nI 3)]) (rest := []) ⟨hx, hb, hml, hown, hts⟩ (c_X6_isBelow l (a) 3 (by omega)) (va_cwS 2 hts gX6_faultOfDoor_X6_isBelow rfl rfl rfl (by decide +kernel) ⟨Nat.le_of_ble_eq_true rfl, Nat.le_of_ble_eq_true rfl⟩) (nt_pS hT hS trivial) rfl rfl hl.1 rfl (lv_room (Nat.le_of_ble_eq_true rfl)) dX6_faultOfDoor_2 ⟨Nat.zero_le _, Nat.zero_le _⟩) ?_
  refine nv_ifb_eq (tgt := 22) hx hb dX6_faultOfDoor_5 (by decide) (fun c1 => ?_) (fun c1 => ?_)
  · refine lv_iconst (v := nI 1) hx hb dX6_faultOfDoor_22 (by decide) ?_
    exact nv_retG hq hx hb hr hlocks (nar_i _) (by unfold vDoor; rw [if_pos (Or.inl c1)]; rfl) hS (by unfold vDoor; rw [if_pos (Or.inl c1)]; exact ⟨hPo, hPh, hJ0⟩) dX6_faultOfDoor_23
  · refine lv_iload_n hx hb dX6_faultOfDoor_8 rfl (lv_at hl 2 rfl) ?_
    refine lv_iconst (v := nI 3) hx hb dX6_faultOfDoor_9 (by decide) ?_
    refine nv_kS (va_runS (As := [.int g, .int (nI 3)]) (rest := []) ⟨hx, hb, hml, hown, hts⟩ (c_X6_isBelow l (g) 3 (by omega)) (va_cwS 2 hts gX6_faultOfDoor_X6_isBelow rfl rfl rfl (by decide +kernel) ⟨Nat.le_of_ble_eq_true rfl, Nat.le_of_ble_eq_true rfl⟩) (nt_pS hT hS trivial) rfl rfl hl.1 rfl (lv_room (Nat.le_of_ble_eq_true rfl)) dX6_faultOfDoor_10 ⟨Nat.zero_le _, Nat.zero_le _⟩) ?_
    refine nv_ifb_eq (tgt := 22) hx hb dX6_faultOfDoor_13 (by decide) (fun c2 => ?_) (fun c2 => ?_)
    · refine lv_iconst (v := nI 1) hx hb dX6_faultOfDoor_22 (by decide) ?_
      exact nv_retG hq hx hb hr hlocks (nar_i _) (by unfold vDoor; rw [if_pos (Or.inr (Or.inl c2))]; rfl) hS (by unfold vDoor; rw [if_pos (Or.inr (Or.inl c2))]; exact ⟨hPo, hPh, hJ0⟩) dX6_faultOfDoor_23
    · refine lv_iload_n hx hb dX6_faultOfDoor_16 rfl (lv_at hl 3 rfl) ?_
      refine lv_iload hx hb dX6_faultOfDoor_17 (lv_at hl 4 rfl) ?_
      refine lv_icmp_ne (tgt := 24) hx hb dX6_faultOfDoor_19 (by decide) (fun c3 => ?_) (fun c3 => ?_)
      · refine lv_iload_n hx hb dX6_faultOfDoor_24 rfl (lv_at hl 3 rfl) ?_
        refine lv_bipush (v := nI 6) hx hb dX6_faultOfDoor_25 (by decide) ?_
        refine nv_kS (va_runS (As := [.int x, .int (nI 6)]) (rest := []) ⟨hx, hb, hml, hown, hts⟩ (c_X6_isBelow l (x) 6 (by omega)) (va_cwS 2 hts gX6_faultOfDoor_X6_isBelow rfl rfl rfl (by decide +kernel) ⟨Nat.le_of_ble_eq_true rfl, Nat.le_of_ble_eq_true rfl⟩) (nt_pS hT hS trivial) rfl rfl hl.1 rfl (lv_room (Nat.le_of_ble_eq_true rfl)) dX6_faultOfDoor_27 ⟨Nat.zero_le _, Nat.zero_le _⟩) ?_
        refine nv_ifb_eq (tgt := 43) hx hb dX6_faultOfDoor_30 (by decide) (fun c4 => ?_) (fun c4 => ?_)
        · refine lv_iconst (v := nI 2) hx hb dX6_faultOfDoor_43 (by decide) ?_
          exact nv_retG hq hx hb hr hlocks (nar_i _) (by unfold vDoor; rw [if_neg (fun q => q.elim (fun z => z c1) (fun q => q.elim (fun z => z c2) c3)), if_pos (Or.inl c4)]; rfl) hS (by unfold vDoor; rw [if_neg (fun q => q.elim (fun z => z c1) (fun q => q.elim (fun z => z c2) c3)), if_pos (Or.inl c4)]; exact ⟨hPo, hPh, hJ0⟩) dX6_faultOfDoor_44
        · refine lv_iload hx hb dX6_faultOfDoor_33 (lv_at hl 4 rfl) ?_
          refine lv_bipush (v := nI 6) hx hb dX6_faultOfDoor_35 (by decide) ?_
          refine nv_kS (va_runS (As := [.int y, .int (nI 6)]) (rest := []) ⟨hx, hb, hml, hown, hts⟩ (c_X6_isBelow l (y) 6 (by omega)) (va_cwS 2 hts gX6_faultOfDoor_X6_isBelow rfl rfl rfl (by decide +kernel) ⟨Nat.le_of_ble_eq_true rfl, Nat.le_of_ble_eq_true rfl⟩) (nt_pS hT hS trivial) rfl rfl hl.1 rfl (lv_room (Nat.le_of_ble_eq_true rfl)) dX6_faultOfDoor_37 ⟨Nat.zero_le _, Nat.zero_le _⟩) ?_
          refine nv_ifb_ne (tgt := 45) hx hb dX6_faultOfDoor_40 (by decide) (fun c5 => ?_) (fun c5 => ?_)
          · refine lv_aload_n hx hb dX6_faultOfDoor_45 rfl (lv_at hl 0 rfl) ?_
            refine va_get (D := D) (ci := 8) (v := .ref ((cAd AD 1) 0)) (C := RX6) (T := TX6) (N := 11) hx hb hts in_X6 hown hK.1 hPo 0 rfl rfl 0 (by decide) fl_10 (fun _ h9 => h9) rfl dX6_faultOfDoor_46 ?_
            refine va_get (D := D) (ci := 3) (v := .int (nI (hs_c u 0))) (C := RX1) (T := TX1) (N := 12) hx hb hts in_X1 hown hK.1 hPh 0 rfl rfl 5 (by decide) fl_64 (fun _ h9 => h9) rfl dX6_faultOfDoor_49 ?_
            refine nv_to (G 0) (congrArg nI ((hR.c0))) ?_
            refine lv_bipush (v := nI 8) hx hb dX6_faultOfDoor_52 (by decide) ?_
            refine nv_icmp_lt (tgt := 67) hx hb dX6_faultOfDoor_54 (by decide) (by omega) (by omega) (fun c6 => ?_) (fun c6 => ?_)
            · refine lv_iconst (v := nI 0) hx hb dX6_faultOfDoor_67 (by decide) ?_
              exact nv_retG hq hx hb hr hlocks (nar_i _) (by unfold vDoor; rw [if_neg (fun q => q.elim (fun z => z c1) (fun q => q.elim (fun z => z c2) c3)), if_neg (fun q => q.elim (fun z => z c4) (fun z => z c5)), if_neg (by omega)]; rfl) hS (by unfold vDoor; rw [if_neg (fun q => q.elim (fun z => z c1) (fun q => q.elim (fun z => z c2) c3)), if_neg (fun q => q.elim (fun z => z c4) (fun z => z c5)), if_neg (by omega)]; exact ⟨hPo, hPh, hJ0⟩) dX6_faultOfDoor_68
            · refine lv_aload_n hx hb dX6_faultOfDoor_57 rfl (lv_at hl 0 rfl) ?_
              refine lv_iconst (v := nI 1) hx hb dX6_faultOfDoor_58 (by decide) ?_
              refine lv_bipush (v := nI 8) hx hb dX6_faultOfDoor_59 (by decide) ?_
              refine nv_kG (va_runV (As := [.int (nI 1), .int (nI 8)]) (rest := []) ⟨hx, hb, hml, hown, hts⟩ (c_X6_refuse l (fun _ => cD_of (b := 0) (n := 1) hI cAt_1 (by decide)) 1 (nI (8))) (cwV 2 hts gX6_faultOfDoor_X6_refuse rfl rfl rfl (by decide +kernel) ⟨Nat.le_of_ble_eq_true rfl, Nat.le_of_ble_eq_true rfl⟩) (nt_pVn hT hS (cRg_A hAA (by decide)) hPo (va_recv hK.1 hPo (ci := 8) (q0 := 0) rfl rfl)) rfl rfl hl.1 rfl (lv_room (Nat.le_of_ble_eq_true rfl)) dX6_faultOfDoor_61 ⟨Nat.zero_le _, Nat.zero_le _⟩) hS (cRg_A hAA (by decide)) (fun H locs hP1 hK1 hS => ?_)
              have hPo : va_P D vwCl (cOb AD (hs) (1) (nI (8)) (ea) (ra)) H := hP1
              have hPh := (cOn_P (cAt_hw 1)).keep hI hK1 hPh (Or.inr (by decide)) (by decide) (by decide)
              have hJ0 := hJ.keep hI hK1 hJ0 (Or.inr (by decide)) (by decide) (by decide)
              refine lv_goto (tgt := 68) hx hb dX6_faultOfDoor_64 (by decide) ?_
              exact nv_retG hq hx hb hr hlocks (nar_i _) (by unfold vDoor; rw [if_neg (fun q => q.elim (fun z => z c1) (fun q => q.elim (fun z => z c2) c3)), if_neg (fun q => q.elim (fun z => z c4) (fun z => z c5)), if_pos (by omega)]; rfl) hS (by unfold vDoor; rw [if_neg (fun q => q.elim (fun z => z c1) (fun q => q.elim (fun z => z c2) c3)), if_neg (fun q => q.elim (fun z => z c4) (fun z => z c5)), if_pos (by omega)]; exact ⟨hPo, hPh, hJ0⟩) dX6_faultOfDoor_68
          · refine lv_iconst (v := nI 2) hx hb dX6_faultOfDoor_43 (by decide) ?_
            exact nv_retG hq hx hb hr hlocks (nar_i _) (by unfold vDoor; rw [if_neg (fun q => q.elim (fun z => z c1) (fun q => q.elim (fun z => z c2) c3)), if_pos (Or.inr c5)]; rfl) hS (by unfold vDoor; rw [if_neg (fun q => q.elim (fun z => z c1) (fun q => q.elim (fun z => z c2) c3)), if_pos (Or.inr c5)]; exact ⟨hPo, hPh, hJ0⟩) dX6_faultOfDoor_44
      · refine lv_iconst (v := nI 1) hx hb dX6_faultOfDoor_22 (by decide) ?_
        exact nv_retG hq hx hb hr hlocks (nar_i _) (by unfold vDoor; rw [if_pos (Or.inr (Or.inr c3))]; rfl) hS (by unfold vDoor; rw [if_pos (Or.inr (Or.inr c3))]; exact ⟨hPo, hPh, hJ0⟩) dX6_faultOfDoor_23

set_option maxHeartbeats 1000000 in
set_option maxRecDepth 100000 in
theorem c_X6_faultOfThreshold (l : Launch) {D : va_G} {cI cC cD cR : ClassId} {sa : sA} {A : Nat → Prop} {AD : Nat → Nat} {u : hS} {G : Nat → Nat} {b hs wy : Nat} {ea ra wd : Int32} {J : Heap → Prop} (hR : hRel u G) (hG : gWf b G) (hI : cInj AD) (hAA : ∀ i, i < 165 → A (AD i)) (hJ : cOn AD 15 165 J) (c : Int32) : Met l yX6_faultOfThreshold wsX6_faultOfThreshold ({ frames := 1, cells := 0, slots := 0, locals := 22 }) (va_Pc [.ref (AD 0), .int c] (tPre D [(cI, .int), (cC, .char), (cD, .object "DoorDialect$Door"), (cR, .object "DoorDialect$House")] nN sa A (fun H => va_P D vwCl (cOb AD (hs) (wy) (wd) (ea) (ra)) H ∧ va_P D vwCl (hw cI cD (cAd AD 1) u) H ∧ J H))) (gQ (nI (fC [1, 3] (vSill G c).1)) ((fun H => va_P D vwCl (cOb AD hs (vWy (vSill G c) wy) (vWd (vSill G c) wd) ea ra) H ∧ va_P D vwCl (hw cI cD (cAd AD 1) u) H ∧ J H)) A) 0 0 A := by
  refine nv_met (cc := cX6_faultOfThreshold) (maxL := 2) (ret := (some .int)) (by decide) rfl (Nat.le_of_ble_eq_true rfl) ?_
  intro p0 e0 s m0 args below meth c0 Q hq hargs hnA hpre ls hl
  obtain ⟨hx, hb, hr, hts, hown, hlocks, hml⟩ := hnA
  obtain ⟨hP, hT⟩ := hpre
  have hK := hT.1
  have hown : s.vm.findClass RX6 = some m0.cls := hown
  obtain ⟨hPo, hPh, hJ0⟩ := hP
  have hPo : va_P D vwCl (cOb AD (hs) (wy) (wd) (ea) (ra)) s.heap := hPo
  have hPh : va_P D vwCl (hw cI cD (cAd AD 1) u) s.heap := hPh
  have hJ0 : J s.heap := hJ0
  have hl : lv_has ls 2 [(0, .ref (AD 0)), (1, .int c)] := hl
  have hS : va_S A s.heap s.heap [] := va_S.rf
  have in_X1 : ∀ w ∈ wsX10, w ∈ wsX6_faultOfThreshold := by decide +kernel
  have in_X6 : ∀ w ∈ wsX60, w ∈ wsX6_faultOfThreshold := by decide +kernel
  have fl_10 := hts (.fieldLink RX6 10 "DoorDialect" "house" "LDoorDialect$House;") (by decide +kernel)
  have fl_175 := hts (.fieldLink RX6 175 "DoorDialect$House" "thresholdCount" "I") (by decide +kernel)
  obtain ⟨g_b, g_k, g_0, g_1, g_2, g_e, g_d, g_t, g_y, g_s, g_h⟩ := id hG
  have zq0 : G 0 = G 0 := rfl
  refine lv_iload_n hx hb dX6_faultOfThreshold_0 rfl (lv_at hl 1 rfl) ?_
  refine lv_iconst (v := nI 4) hx hb dX6_faultOfThreshold_1 (by decide) ?_
  refine nv_kS (va_runS (As := [.int c, .int (nI 4)]) (rest := []) ⟨hx, hb, hml, hown, hts⟩ (c_X6_isBelow l (c) 4 (by omega)) (va_cwS 2 hts gX6_faultOfThreshold_X6_isBelow rfl rfl rfl (by decide +kernel) ⟨Nat.le_of_ble_eq_true rfl, Nat.le_of_ble_eq_true rfl⟩) (nt_pS hT hS trivial) rfl rfl hl.1 rfl (lv_room (Nat.le_of_ble_eq_true rfl)) dX6_faultOfThreshold_2 ⟨Nat.zero_le _, Nat.zero_le _⟩) ?_
  refine nv_ifb_ne (tgt := 10) hx hb dX6_faultOfThreshold_5 (by decide) (fun c1 => ?_) (fun c1 => ?_)
  · refine lv_aload_n hx hb dX6_faultOfThreshold_10 rfl (lv_at hl 0 rfl) ?_
    refine va_get (D := D) (ci := 8) (v := .ref ((cAd AD 1) 0)) (C := RX6) (T := TX6) (N := 11) hx hb hts in_X6 hown hK.1 hPo 0 rfl rfl 0 (by decide) fl_10 (fun _ h9 => h9) rfl dX6_faultOfThreshold_11 ?_
    refine va_get (D := D) (ci := 3) (v := .int (nI (hs_c u 1))) (C := RX1) (T := TX1) (N := 12) hx hb hts in_X1 hown hK.1 hPh 0 rfl rfl 6 (by decide) fl_175 (fun _ h9 => h9) rfl dX6_faultOfThreshold_14 ?_
    refine nv_to (G 1) (congrArg nI ((hR.c1))) ?_
    refine lv_bipush (v := nI 6) hx hb dX6_faultOfThreshold_17 (by decide) ?_
    refine nv_icmp_lt (tgt := 32) hx hb dX6_faultOfThreshold_19 (by decide) (by omega) (by omega) (fun c2 => ?_) (fun c2 => ?_)
    · refine lv_iconst (v := nI 0) hx hb dX6_faultOfThreshold_32 (by decide) ?_
      exact nv_retG hq hx hb hr hlocks (nar_i _) (by unfold vSill; rw [if_neg (fun z => z c1), if_neg (by omega)]; rfl) hS (by unfold vSill; rw [if_neg (fun z => z c1), if_neg (by omega)]; exact ⟨hPo, hPh, hJ0⟩) dX6_faultOfThreshold_33
    · refine lv_aload_n hx hb dX6_faultOfThreshold_22 rfl (lv_at hl 0 rfl) ?_
      refine lv_iconst (v := nI 1) hx hb dX6_faultOfThreshold_23 (by decide) ?_
      refine lv_bipush (v := nI 6) hx hb dX6_faultOfThreshold_24 (by decide) ?_
      refine nv_kG (va_runV (As := [.int (nI 1), .int (nI 6)]) (rest := []) ⟨hx, hb, hml, hown, hts⟩ (c_X6_refuse l (fun _ => cD_of (b := 0) (n := 1) hI cAt_1 (by decide)) 1 (nI (6))) (cwV 2 hts gX6_faultOfThreshold_X6_refuse rfl rfl rfl (by decide +kernel) ⟨Nat.le_of_ble_eq_true rfl, Nat.le_of_ble_eq_true rfl⟩) (nt_pVn hT hS (cRg_A hAA (by decide)) hPo (va_recv hK.1 hPo (ci := 8) (q0 := 0) rfl rfl)) rfl rfl hl.1 rfl (lv_room (Nat.le_of_ble_eq_true rfl)) dX6_faultOfThreshold_26 ⟨Nat.zero_le _, Nat.zero_le _⟩) hS (cRg_A hAA (by decide)) (fun H locs hP1 hK1 hS => ?_)
      have hPo : va_P D vwCl (cOb AD (hs) (1) (nI (6)) (ea) (ra)) H := hP1
      have hPh := (cOn_P (cAt_hw 1)).keep hI hK1 hPh (Or.inr (by decide)) (by decide) (by decide)
      have hJ0 := hJ.keep hI hK1 hJ0 (Or.inr (by decide)) (by decide) (by decide)
      refine lv_goto (tgt := 33) hx hb dX6_faultOfThreshold_29 (by decide) ?_
      exact nv_retG hq hx hb hr hlocks (nar_i _) (by unfold vSill; rw [if_neg (fun z => z c1), if_pos (by omega)]; rfl) hS (by unfold vSill; rw [if_neg (fun z => z c1), if_pos (by omega)]; exact ⟨hPo, hPh, hJ0⟩) dX6_faultOfThreshold_33
  · refine lv_iconst (v := nI 1) hx hb dX6_faultOfThreshold_8 (by decide) ?_
    exact nv_retG hq hx hb hr hlocks (nar_i _) (by unfold vSill; rw [if_pos c1]; rfl) hS (by unfold vSill; rw [if_pos c1]; exact ⟨hPo, hPh, hJ0⟩) dX6_faultOfThreshold_9

set_option maxHeartbeats 1000000 in
set_option maxRecDepth 100000 in
theorem c_X6_faultOfGovern (l : Launch) {D : va_G} {cI cC cD cR : ClassId} {sa : sA} {A : Nat → Prop} {AD : Nat → Nat} {u : hS} {G : Nat → Nat} {b hs wy : Nat} {ea ra wd : Int32} {J : Heap → Prop} (hR : hRel u G) (hG : gWf b G) (hI : cInj AD) (hAA : ∀ i, i < 165 → A (AD i)) (hJ : cOn AD 15 165 J) (t c : Int32) : Met l yX6_faultOfGovern wsX6_faultOfGovern ({ frames := 1, cells := 0, slots := 0, locals := 22 }) (va_Pc [.ref (AD 0), .int t, .int c] (tPre D [(cI, .int), (cC, .char), (cD, .object "DoorDialect$Door"), (cR, .object "DoorDialect$House")] nN sa A (fun H => va_P D vwCl (cOb AD (hs) (wy) (wd) (ea) (ra)) H ∧ va_P D vwCl (hw cI cD (cAd AD 1) u) H ∧ J H))) (gQ (nI (fC [2, 1, 3] (vGovern G t c).1)) ((fun H => va_P D vwCl (cOb AD hs (vWy (vGovern G t c) wy) (vWd (vGovern G t c) wd) ea ra) H ∧ va_P D vwCl (hw cI cD (cAd AD 1) u) H ∧ J H)) A) 0 0 A := by
  refine nv_met (cc := cX6_faultOfGovern) (maxL := 3) (ret := (some .int)) (by decide) rfl (Nat.le_of_ble_eq_true rfl) ?_
  intro p0 e0 s m0 args below meth c0 Q hq hargs hnA hpre ls hl
  obtain ⟨hx, hb, hr, hts, hown, hlocks, hml⟩ := hnA
  obtain ⟨hP, hT⟩ := hpre
  have hK := hT.1
  have hown : s.vm.findClass RX6 = some m0.cls := hown
  obtain ⟨hPo, hPh, hJ0⟩ := hP
  have hPo : va_P D vwCl (cOb AD (hs) (wy) (wd) (ea) (ra)) s.heap := hPo
  have hPh : va_P D vwCl (hw cI cD (cAd AD 1) u) s.heap := hPh
  have hJ0 : J s.heap := hJ0
  have hl : lv_has ls 3 [(0, .ref (AD 0)), (1, .int t), (2, .int c)] := hl
  have hS : va_S A s.heap s.heap [] := va_S.rf
  have in_X1 : ∀ w ∈ wsX10, w ∈ wsX6_faultOfGovern := by decide +kernel
  have in_X6 : ∀ w ∈ wsX60, w ∈ wsX6_faultOfGovern := by decide +kernel
  have fl_10 := hts (.fieldLink RX6 10 "DoorDialect" "house" "LDoorDialect$House;") (by decide +kernel)
  have fl_175 := hts (.fieldLink RX6 175 "DoorDialect$House" "thresholdCount" "I") (by decide +kernel)
  have fl_187 := hts (.fieldLink RX6 187 "DoorDialect$House" "governed" "[I") (by decide +kernel)
  obtain ⟨g_b, g_k, g_0, g_1, g_2, g_e, g_d, g_t, g_y, g_s, g_h⟩ := id hG
  have zq0 : G 0 = G 0 := rfl
  refine lv_iload_n hx hb dX6_faultOfGovern_0 rfl (lv_at hl 1 rfl) ?_
  refine lv_aload_n hx hb dX6_faultOfGovern_1 rfl (lv_at hl 0 rfl) ?_
  refine va_get (D := D) (ci := 8) (v := .ref ((cAd AD 1) 0)) (C := RX6) (T := TX6) (N := 11) hx hb hts in_X6 hown hK.1 hPo 0 rfl rfl 0 (by decide) fl_10 (fun _ h9 => h9) rfl dX6_faultOfGovern_2 ?_
  refine va_get (D := D) (ci := 3) (v := .int (nI (hs_c u 1))) (C := RX1) (T := TX1) (N := 12) hx hb hts in_X1 hown hK.1 hPh 0 rfl rfl 6 (by decide) fl_175 (fun _ h9 => h9) rfl dX6_faultOfGovern_5 ?_
  refine nv_to (G 1) (congrArg nI ((hR.c1))) ?_
  have q1 : G 1 < 2 ^ 20 := hG.lt (by first | omega | (simp only [gEndAt]; omega))
  refine nv_kS (va_runS (As := [.int t, .int (nI (G 1))]) (rest := []) ⟨hx, hb, hml, hown, hts⟩ (c_X6_isBelow l (t) (G 1) (by omega)) (va_cwS 2 hts gX6_faultOfGovern_X6_isBelow rfl rfl rfl (by decide +kernel) ⟨Nat.le_of_ble_eq_true rfl, Nat.le_of_ble_eq_true rfl⟩) (nt_pS hT hS trivial) rfl rfl hl.1 rfl (lv_room (Nat.le_of_ble_eq_true rfl)) dX6_faultOfGovern_8 ⟨Nat.zero_le _, Nat.zero_le _⟩) ?_
  refine nv_ifb_ne (tgt := 16) hx hb dX6_faultOfGovern_11 (by decide) (fun c2 => ?_) (fun c2 => ?_)
  · obtain ⟨tk, h_tk, rfl⟩ := iR_of c2 (by omega)
    have et_tk : tN (nI tk) = tk := tN_nI (by omega)
    refine lv_iload_n hx hb dX6_faultOfGovern_16 rfl (lv_at hl 2 rfl) ?_
    refine lv_iconst (v := nI 4) hx hb dX6_faultOfGovern_17 (by decide) ?_
    refine nv_kS (va_runS (As := [.int c, .int (nI 4)]) (rest := []) ⟨hx, hb, hml, hown, hts⟩ (c_X6_isBelow l (c) 4 (by omega)) (va_cwS 2 hts gX6_faultOfGovern_X6_isBelow rfl rfl rfl (by decide +kernel) ⟨Nat.le_of_ble_eq_true rfl, Nat.le_of_ble_eq_true rfl⟩) (nt_pS hT hS trivial) rfl rfl hl.1 rfl (lv_room (Nat.le_of_ble_eq_true rfl)) dX6_faultOfGovern_18 ⟨Nat.zero_le _, Nat.zero_le _⟩) ?_
    refine nv_ifb_ne (tgt := 26) hx hb dX6_faultOfGovern_21 (by decide) (fun c3 => ?_) (fun c3 => ?_)
    · obtain ⟨ck, h_ck, rfl⟩ := iR_of c3 (by decide)
      have et_ck : tN (nI ck) = ck := tN_nI (by omega)
      refine lv_aload_n hx hb dX6_faultOfGovern_26 rfl (lv_at hl 0 rfl) ?_
      refine va_get (D := D) (ci := 8) (v := .ref ((cAd AD 1) 0)) (C := RX6) (T := TX6) (N := 11) hx hb hts in_X6 hown hK.1 hPo 0 rfl rfl 0 (by decide) fl_10 (fun _ h9 => h9) rfl dX6_faultOfGovern_27 ?_
      refine va_get (D := D) (ci := 3) (v := .ref ((cAd AD 1) 2)) (C := RX1) (T := TX1) (N := 12) hx hb hts in_X1 hown hK.1 hPh 0 rfl rfl 1 (by decide) fl_187 (fun _ h9 => h9) rfl dX6_faultOfGovern_30 ?_
      refine lv_iload_n hx hb dX6_faultOfGovern_33 rfl (lv_at hl 1 rfl) ?_
      refine nv_gald (i := tk) hx hb hK.1 hPh 2 0 rfl rfl (by omega) (by decide) dX6_faultOfGovern_34 ?_
      refine nv_to (G (112 + tk)) (congrArg nI ((hR.g (t := tk) (by omega)))) ?_
      have q4 : G (112 + tk) < 2 ^ 20 := hG.lt (by first | omega | (simp only [gEndAt]; omega))
      refine lv_iload_n hx hb dX6_faultOfGovern_35 rfl (lv_at hl 2 rfl) ?_
      refine nv_icmp_ne (tgt := 48) hx hb dX6_faultOfGovern_36 (by decide) (by omega) (by omega) (fun c5 => ?_) (fun c5 => ?_)
      · refine lv_iconst (v := nI 0) hx hb dX6_faultOfGovern_48 (by decide) ?_
        exact nv_retG hq hx hb hr hlocks (nar_i _) (by unfold vGovern; simp only [et_tk]; rw [if_neg (fun z => z c2), if_neg (fun z => z c3), if_neg (fun q => c5 ((nI_eq (by omega) (by omega)).mp q))]; rfl) hS (by unfold vGovern; simp only [et_tk]; rw [if_neg (fun z => z c2), if_neg (fun z => z c3), if_neg (fun q => c5 ((nI_eq (by omega) (by omega)).mp q))]; exact ⟨hPo, hPh, hJ0⟩) dX6_faultOfGovern_49
      · refine lv_aload_n hx hb dX6_faultOfGovern_39 rfl (lv_at hl 0 rfl) ?_
        refine lv_iconst (v := nI 2) hx hb dX6_faultOfGovern_40 (by decide) ?_
        refine lv_iload_n hx hb dX6_faultOfGovern_41 rfl (lv_at hl 2 rfl) ?_
        refine nv_kG (va_runV (As := [.int (nI 2), .int (nI ck)]) (rest := []) ⟨hx, hb, hml, hown, hts⟩ (c_X6_refuse l (fun _ => cD_of (b := 0) (n := 1) hI cAt_1 (by decide)) 2 (nI (ck))) (cwV 2 hts gX6_faultOfGovern_X6_refuse rfl rfl rfl (by decide +kernel) ⟨Nat.le_of_ble_eq_true rfl, Nat.le_of_ble_eq_true rfl⟩) (nt_pVn hT hS (cRg_A hAA (by decide)) hPo (va_recv hK.1 hPo (ci := 8) (q0 := 0) rfl rfl)) rfl rfl hl.1 rfl (lv_room (Nat.le_of_ble_eq_true rfl)) dX6_faultOfGovern_42 ⟨Nat.zero_le _, Nat.zero_le _⟩) hS (cRg_A hAA (by decide)) (fun H locs hP1 hK1 hS => ?_)
        have hPo : va_P D vwCl (cOb AD (hs) (2) (nI (ck)) (ea) (ra)) H := hP1
        have hPh := (cOn_P (cAt_hw 1)).keep hI hK1 hPh (Or.inr (by decide)) (by decide) (by decide)
        have hJ0 := hJ.keep hI hK1 hJ0 (Or.inr (by decide)) (by decide) (by decide)
        refine lv_goto (tgt := 49) hx hb dX6_faultOfGovern_45 (by decide) ?_
        exact nv_retG hq hx hb hr hlocks (nar_i _) (by unfold vGovern; simp only [et_tk]; rw [if_neg (fun z => z c2), if_neg (fun z => z c3), if_pos (congrArg nI c5)]; rfl) hS (by unfold vGovern; simp only [et_tk]; rw [if_neg (fun z => z c2), if_neg (fun z => z c3), if_pos (congrArg nI c5)]; exact ⟨hPo, hPh, hJ0⟩) dX6_faultOfGovern_49
    · refine lv_iconst (v := nI 1) hx hb dX6_faultOfGovern_24 (by decide) ?_
      exact nv_retG hq hx hb hr hlocks (nar_i _) (by unfold vGovern; simp only [et_tk]; rw [if_neg (fun z => z c2), if_pos c3]; rfl) hS (by unfold vGovern; simp only [et_tk]; rw [if_neg (fun z => z c2), if_pos c3]; exact ⟨hPo, hPh, hJ0⟩) dX6_faultOfGovern_25
  · refine lv_iconst (v := nI 2) hx hb dX6_faultOfGovern_14 (by decide) ?_
    exact nv_retG hq hx hb hr hlocks (nar_i _) (by unfold vGovern; rw [if_pos c2]; rfl) hS (by unfold vGovern; rw [if_pos c2]; exact ⟨hPo, hPh, hJ0⟩) dX6_faultOfGovern_15

set_option maxHeartbeats 1000000 in
set_option maxRecDepth 100000 in
theorem c_X6_faultOfSet (l : Launch) {D : va_G} {cI cC cD cR : ClassId} {sa : sA} {A : Nat → Prop} {AD : Nat → Nat} {u : hS} {G : Nat → Nat} {b hs wy : Nat} {ea ra wd : Int32} {J : Heap → Prop} (hR : hRel u G) (hG : gWf b G) (hI : cInj AD) (hAA : ∀ i, i < 165 → A (AD i)) (hJ : cOn AD 15 165 J) (d t : Int32) : Met l yX6_faultOfSet wsX6_faultOfSet ({ frames := 2, cells := 0, slots := 0, locals := 42 }) (va_Pc [.ref (AD 0), .int d, .int t] (tPre D [(cI, .int), (cC, .char), (cD, .object "DoorDialect$Door"), (cR, .object "DoorDialect$House")] nN sa A (fun H => va_P D vwCl (cOb AD (hs) (wy) (wd) (ea) (ra)) H ∧ va_P D vwCl (hw cI cD (cAd AD 1) u) H ∧ J H))) (gQ (nI (fC [2, 3] (vSet G d t).1)) ((fun H => va_P D vwCl (cOb AD hs (vWy (vSet G d t) wy) (vWd (vSet G d t) wd) ea ra) H ∧ va_P D vwCl (hw cI cD (cAd AD 1) u) H ∧ J H)) A) 0 0 A := by
  refine nv_met (cc := cX6_faultOfSet) (maxL := 3) (ret := (some .int)) (by decide) rfl (Nat.le_of_ble_eq_true rfl) ?_
  intro p0 e0 s m0 args below meth c0 Q hq hargs hnA hpre ls hl
  obtain ⟨hx, hb, hr, hts, hown, hlocks, hml⟩ := hnA
  obtain ⟨hP, hT⟩ := hpre
  have hK := hT.1
  have hown : s.vm.findClass RX6 = some m0.cls := hown
  obtain ⟨hPo, hPh, hJ0⟩ := hP
  have hPo : va_P D vwCl (cOb AD (hs) (wy) (wd) (ea) (ra)) s.heap := hPo
  have hPh : va_P D vwCl (hw cI cD (cAd AD 1) u) s.heap := hPh
  have hJ0 : J s.heap := hJ0
  have hl : lv_has ls 3 [(0, .ref (AD 0)), (1, .int d), (2, .int t)] := hl
  have hS : va_S A s.heap s.heap [] := va_S.rf
  have in_X0 : ∀ w ∈ wsX00, w ∈ wsX6_faultOfSet := by decide +kernel
  have in_X1 : ∀ w ∈ wsX10, w ∈ wsX6_faultOfSet := by decide +kernel
  have in_X6 : ∀ w ∈ wsX60, w ∈ wsX6_faultOfSet := by decide +kernel
  have fl_10 := hts (.fieldLink RX6 10 "DoorDialect" "house" "LDoorDialect$House;") (by decide +kernel)
  have fl_128 := hts (.fieldLink RX6 128 "DoorDialect$House" "doors" "[LDoorDialect$Door;") (by decide +kernel)
  have fl_143 := hts (.fieldLink RX6 143 "DoorDialect$Door" "threshold" "I") (by decide +kernel)
  have fl_175 := hts (.fieldLink RX6 175 "DoorDialect$House" "thresholdCount" "I") (by decide +kernel)
  obtain ⟨g_b, g_k, g_0, g_1, g_2, g_e, g_d, g_t, g_y, g_s, g_h⟩ := id hG
  have zq0 : G 0 = G 0 := rfl
  refine lv_aload_n hx hb dX6_faultOfSet_0 rfl (lv_at hl 0 rfl) ?_
  refine va_get (D := D) (ci := 8) (v := .ref ((cAd AD 1) 0)) (C := RX6) (T := TX6) (N := 11) hx hb hts in_X6 hown hK.1 hPo 0 rfl rfl 0 (by decide) fl_10 (fun _ h9 => h9) rfl dX6_faultOfSet_1 ?_
  refine lv_iload_n hx hb dX6_faultOfSet_4 rfl (lv_at hl 1 rfl) ?_
  refine nv_kS (va_runV (As := [.int d]) (rest := []) ⟨hx, hb, hml, hown, hts⟩ (c_X1_isDoor l hR hG (d)) (cwV 1 hts gX6_faultOfSet_X1_isDoor rfl rfl rfl (by decide +kernel) ⟨Nat.le_of_ble_eq_true rfl, Nat.le_of_ble_eq_true rfl⟩) (nt_pV hT hS hPh (va_recv hK.1 hPh (ci := 3) (q0 := 0) rfl rfl)) rfl rfl hl.1 rfl (lv_room (Nat.le_of_ble_eq_true rfl)) dX6_faultOfSet_5 ⟨Nat.zero_le _, Nat.zero_le _⟩) ?_
  refine nv_ifb_ne (tgt := 13) hx hb dX6_faultOfSet_8 (by decide) (fun c1 => ?_) (fun c1 => ?_)
  · obtain ⟨dk, h_dk, rfl⟩ := iR_of c1 (by omega)
    have et_dk : tN (nI dk) = dk := tN_nI (by omega)
    obtain ⟨w_a, w_g, w_n, w_s, w_w, w_l, w_o, w_x, w_y, w_1, w_2, w_3, w_4⟩ := hG.door (d := dk) (by omega)
    refine lv_iload_n hx hb dX6_faultOfSet_13 rfl (lv_at hl 2 rfl) ?_
    refine lv_iconst (v := (-1)) hx hb dX6_faultOfSet_14 (by decide) ?_
    refine lv_icmp_eq (tgt := 34) hx hb dX6_faultOfSet_15 (by decide) (fun c2 => ?_) (fun c2 => ?_)
    · refine lv_aload_n hx hb dX6_faultOfSet_34 rfl (lv_at hl 0 rfl) ?_
      refine va_get (D := D) (ci := 8) (v := .ref ((cAd AD 1) 0)) (C := RX6) (T := TX6) (N := 11) hx hb hts in_X6 hown hK.1 hPo 0 rfl rfl 0 (by decide) fl_10 (fun _ h9 => h9) rfl dX6_faultOfSet_35 ?_
      refine va_get (D := D) (ci := 3) (v := .ref ((cAd AD 1) 1)) (C := RX1) (T := TX1) (N := 12) hx hb hts in_X1 hown hK.1 hPh 0 rfl rfl 0 (by decide) fl_128 (fun _ h9 => h9) rfl dX6_faultOfSet_38 ?_
      refine lv_iload_n hx hb dX6_faultOfSet_41 rfl (lv_at hl 1 rfl) ?_
      refine nv_aldq (i := dk) hx hb hK.1 hPh 1 2 rfl rfl (by omega) (by decide) dX6_faultOfSet_42 ?_
      refine va_get (D := D) (ci := 2) (v := .int (nI (hs_d u (dk) 5) - nI 1)) (C := RX0) (T := TX0) (N := 10) hx hb hts in_X0 hown hK.1 hPh (6 + (dk)) (hw_at (dk) (by omega)) rfl 5 (by decide) fl_143 (fun _ h9 => h9) rfl dX6_faultOfSet_43 ?_
      refine iv_to (nI (G (56 + dk)) - nI 1) (congrArg (fun z => nI z - nI 1) (hR.d5 (d := dk) (by omega))) ?_
      refine lv_iload_n hx hb dX6_faultOfSet_46 rfl (lv_at hl 2 rfl) ?_
      refine lv_icmp_ne (tgt := 59) hx hb dX6_faultOfSet_47 (by decide) (fun c3 => ?_) (fun c3 => ?_)
      · refine lv_iconst (v := nI 0) hx hb dX6_faultOfSet_59 (by decide) ?_
        exact nv_retG hq hx hb hr hlocks (nar_i _) (by unfold vSet; simp only [et_dk]; rw [if_neg (fun q => q.elim (fun z => z c1) (fun q => q.1 c2)), if_neg (fun q => c3 ((i_sub1 _ _).mpr q))]; rfl) hS (by unfold vSet; simp only [et_dk]; rw [if_neg (fun q => q.elim (fun z => z c1) (fun q => q.1 c2)), if_neg (fun q => c3 ((i_sub1 _ _).mpr q))]; exact ⟨hPo, hPh, hJ0⟩) dX6_faultOfSet_60
      · refine lv_aload_n hx hb dX6_faultOfSet_50 rfl (lv_at hl 0 rfl) ?_
        refine lv_iconst (v := nI 2) hx hb dX6_faultOfSet_51 (by decide) ?_
        refine lv_iload_n hx hb dX6_faultOfSet_52 rfl (lv_at hl 2 rfl) ?_
        refine nv_kG (va_runV (As := [.int (nI 2), .int t]) (rest := []) ⟨hx, hb, hml, hown, hts⟩ (c_X6_refuse l (fun _ => cD_of (b := 0) (n := 1) hI cAt_1 (by decide)) 2 (t)) (cwV 2 hts gX6_faultOfSet_X6_refuse rfl rfl rfl (by decide +kernel) ⟨Nat.le_of_ble_eq_true rfl, Nat.le_of_ble_eq_true rfl⟩) (nt_pVn hT hS (cRg_A hAA (by decide)) hPo (va_recv hK.1 hPo (ci := 8) (q0 := 0) rfl rfl)) rfl rfl hl.1 rfl (lv_room (Nat.le_of_ble_eq_true rfl)) dX6_faultOfSet_53 ⟨Nat.zero_le _, Nat.zero_le _⟩) hS (cRg_A hAA (by decide)) (fun H locs hP1 hK1 hS => ?_)
        have hPo : va_P D vwCl (cOb AD (hs) (2) (t) (ea) (ra)) H := hP1
        have hPh := (cOn_P (cAt_hw 1)).keep hI hK1 hPh (Or.inr (by decide)) (by decide) (by decide)
        have hJ0 := hJ.keep hI hK1 hJ0 (Or.inr (by decide)) (by decide) (by decide)
        refine lv_goto (tgt := 60) hx hb dX6_faultOfSet_56 (by decide) ?_
        exact nv_retG hq hx hb hr hlocks (nar_i _) (by unfold vSet; simp only [et_dk]; rw [if_neg (fun q => q.elim (fun z => z c1) (fun q => q.1 c2)), if_pos ((i_sub1 _ _).mp c3)]; rfl) hS (by unfold vSet; simp only [et_dk]; rw [if_neg (fun q => q.elim (fun z => z c1) (fun q => q.1 c2)), if_pos ((i_sub1 _ _).mp c3)]; exact ⟨hPo, hPh, hJ0⟩) dX6_faultOfSet_60
    · refine lv_iload_n hx hb dX6_faultOfSet_18 rfl (lv_at hl 2 rfl) ?_
      refine lv_aload_n hx hb dX6_faultOfSet_19 rfl (lv_at hl 0 rfl) ?_
      refine va_get (D := D) (ci := 8) (v := .ref ((cAd AD 1) 0)) (C := RX6) (T := TX6) (N := 11) hx hb hts in_X6 hown hK.1 hPo 0 rfl rfl 0 (by decide) fl_10 (fun _ h9 => h9) rfl dX6_faultOfSet_20 ?_
      refine va_get (D := D) (ci := 3) (v := .int (nI (hs_c u 1))) (C := RX1) (T := TX1) (N := 12) hx hb hts in_X1 hown hK.1 hPh 0 rfl rfl 6 (by decide) fl_175 (fun _ h9 => h9) rfl dX6_faultOfSet_23 ?_
      refine nv_to (G 1) (congrArg nI ((hR.c1))) ?_
      refine nv_kS (va_runS (As := [.int t, .int (nI (G 1))]) (rest := []) ⟨hx, hb, hml, hown, hts⟩ (c_X6_isBelow l (t) (G 1) (by omega)) (va_cwS 2 hts gX6_faultOfSet_X6_isBelow rfl rfl rfl (by decide +kernel) ⟨Nat.le_of_ble_eq_true rfl, Nat.le_of_ble_eq_true rfl⟩) (nt_pS hT hS trivial) rfl rfl hl.1 rfl (lv_room (Nat.le_of_ble_eq_true rfl)) dX6_faultOfSet_26 ⟨Nat.zero_le _, Nat.zero_le _⟩) ?_
      refine nv_ifb_ne (tgt := 34) hx hb dX6_faultOfSet_29 (by decide) (fun c4 => ?_) (fun c4 => ?_)
      · refine lv_aload_n hx hb dX6_faultOfSet_34 rfl (lv_at hl 0 rfl) ?_
        refine va_get (D := D) (ci := 8) (v := .ref ((cAd AD 1) 0)) (C := RX6) (T := TX6) (N := 11) hx hb hts in_X6 hown hK.1 hPo 0 rfl rfl 0 (by decide) fl_10 (fun _ h9 => h9) rfl dX6_faultOfSet_35 ?_
        refine va_get (D := D) (ci := 3) (v := .ref ((cAd AD 1) 1)) (C := RX1) (T := TX1) (N := 12) hx hb hts in_X1 hown hK.1 hPh 0 rfl rfl 0 (by decide) fl_128 (fun _ h9 => h9) rfl dX6_faultOfSet_38 ?_
        refine lv_iload_n hx hb dX6_faultOfSet_41 rfl (lv_at hl 1 rfl) ?_
        refine nv_aldq (i := dk) hx hb hK.1 hPh 1 2 rfl rfl (by omega) (by decide) dX6_faultOfSet_42 ?_
        refine va_get (D := D) (ci := 2) (v := .int (nI (hs_d u (dk) 5) - nI 1)) (C := RX0) (T := TX0) (N := 10) hx hb hts in_X0 hown hK.1 hPh (6 + (dk)) (hw_at (dk) (by omega)) rfl 5 (by decide) fl_143 (fun _ h9 => h9) rfl dX6_faultOfSet_43 ?_
        refine iv_to (nI (G (56 + dk)) - nI 1) (congrArg (fun z => nI z - nI 1) (hR.d5 (d := dk) (by omega))) ?_
        refine lv_iload_n hx hb dX6_faultOfSet_46 rfl (lv_at hl 2 rfl) ?_
        refine lv_icmp_ne (tgt := 59) hx hb dX6_faultOfSet_47 (by decide) (fun c5 => ?_) (fun c5 => ?_)
        · refine lv_iconst (v := nI 0) hx hb dX6_faultOfSet_59 (by decide) ?_
          exact nv_retG hq hx hb hr hlocks (nar_i _) (by unfold vSet; simp only [et_dk]; rw [if_neg (fun q => q.elim (fun z => z c1) (fun q => q.2 c4)), if_neg (fun q => c5 ((i_sub1 _ _).mpr q))]; rfl) hS (by unfold vSet; simp only [et_dk]; rw [if_neg (fun q => q.elim (fun z => z c1) (fun q => q.2 c4)), if_neg (fun q => c5 ((i_sub1 _ _).mpr q))]; exact ⟨hPo, hPh, hJ0⟩) dX6_faultOfSet_60
        · refine lv_aload_n hx hb dX6_faultOfSet_50 rfl (lv_at hl 0 rfl) ?_
          refine lv_iconst (v := nI 2) hx hb dX6_faultOfSet_51 (by decide) ?_
          refine lv_iload_n hx hb dX6_faultOfSet_52 rfl (lv_at hl 2 rfl) ?_
          refine nv_kG (va_runV (As := [.int (nI 2), .int t]) (rest := []) ⟨hx, hb, hml, hown, hts⟩ (c_X6_refuse l (fun _ => cD_of (b := 0) (n := 1) hI cAt_1 (by decide)) 2 (t)) (cwV 2 hts gX6_faultOfSet_X6_refuse rfl rfl rfl (by decide +kernel) ⟨Nat.le_of_ble_eq_true rfl, Nat.le_of_ble_eq_true rfl⟩) (nt_pVn hT hS (cRg_A hAA (by decide)) hPo (va_recv hK.1 hPo (ci := 8) (q0 := 0) rfl rfl)) rfl rfl hl.1 rfl (lv_room (Nat.le_of_ble_eq_true rfl)) dX6_faultOfSet_53 ⟨Nat.zero_le _, Nat.zero_le _⟩) hS (cRg_A hAA (by decide)) (fun H locs hP1 hK1 hS => ?_)
          have hPo : va_P D vwCl (cOb AD (hs) (2) (t) (ea) (ra)) H := hP1
          have hPh := (cOn_P (cAt_hw 1)).keep hI hK1 hPh (Or.inr (by decide)) (by decide) (by decide)
          have hJ0 := hJ.keep hI hK1 hJ0 (Or.inr (by decide)) (by decide) (by decide)
          refine lv_goto (tgt := 60) hx hb dX6_faultOfSet_56 (by decide) ?_
          exact nv_retG hq hx hb hr hlocks (nar_i _) (by unfold vSet; simp only [et_dk]; rw [if_neg (fun q => q.elim (fun z => z c1) (fun q => q.2 c4)), if_pos ((i_sub1 _ _).mp c5)]; rfl) hS (by unfold vSet; simp only [et_dk]; rw [if_neg (fun q => q.elim (fun z => z c1) (fun q => q.2 c4)), if_pos ((i_sub1 _ _).mp c5)]; exact ⟨hPo, hPh, hJ0⟩) dX6_faultOfSet_60
      · refine lv_iconst (v := nI 2) hx hb dX6_faultOfSet_32 (by decide) ?_
        exact nv_retG hq hx hb hr hlocks (nar_i _) (by unfold vSet; simp only [et_dk]; rw [if_pos (Or.inr ⟨c2, c4⟩)]; rfl) hS (by unfold vSet; simp only [et_dk]; rw [if_pos (Or.inr ⟨c2, c4⟩)]; exact ⟨hPo, hPh, hJ0⟩) dX6_faultOfSet_33
  · refine lv_iconst (v := nI 2) hx hb dX6_faultOfSet_11 (by decide) ?_
    exact nv_retG hq hx hb hr hlocks (nar_i _) (by unfold vSet; rw [if_pos (Or.inl c1)]; rfl) hS (by unfold vSet; rw [if_pos (Or.inl c1)]; exact ⟨hPo, hPh, hJ0⟩) dX6_faultOfSet_12

set_option maxHeartbeats 1000000 in
set_option maxRecDepth 100000 in
theorem c_X6_faultOfEnding (l : Launch) {D : va_G} {cI cC cD cR : ClassId} {sa : sA} {A : Nat → Prop} {AD : Nat → Nat} {u : hS} {G : Nat → Nat} {b hs wy : Nat} {ea ra wd : Int32} {J : Heap → Prop} (hR : hRel u G) (hG : gWf b G) (hI : cInj AD) (hAA : ∀ i, i < 165 → A (AD i)) (hJ : cOn AD 15 165 J) (a c : Int32) (z : Nat) (x : Int32) (hz : z ≤ 1) : Met l yX6_faultOfEnding wsX6_faultOfEnding ({ frames := 2, cells := 0, slots := 0, locals := 45 }) (va_Pc [.ref (AD 0), .int a, .int c, .int (nI z), .int x] (tPre D [(cI, .int), (cC, .char), (cD, .object "DoorDialect$Door"), (cR, .object "DoorDialect$House")] nN sa A (fun H => va_P D vwCl (cOb AD (hs) (wy) (wd) (ea) (ra)) H ∧ va_P D vwCl (hw cI cD (cAd AD 1) u) H ∧ J H))) (gQ (nI (fC [1, 3] (vTell G a c z x).1)) ((fun H => va_P D vwCl (cOb AD hs (vWy (vTell G a c z x) wy) (vWd (vTell G a c z x) wd) ea ra) H ∧ va_P D vwCl (hw cI cD (cAd AD 1) u) H ∧ J H)) A) 0 0 A := by
  refine nv_met (cc := cX6_faultOfEnding) (maxL := 5) (ret := (some .int)) (by decide) rfl (Nat.le_of_ble_eq_true rfl) ?_
  intro p0 e0 s m0 args below meth c0 Q hq hargs hnA hpre ls hl
  obtain ⟨hx, hb, hr, hts, hown, hlocks, hml⟩ := hnA
  obtain ⟨hP, hT⟩ := hpre
  have hK := hT.1
  have hown : s.vm.findClass RX6 = some m0.cls := hown
  obtain ⟨hPo, hPh, hJ0⟩ := hP
  have hPo : va_P D vwCl (cOb AD (hs) (wy) (wd) (ea) (ra)) s.heap := hPo
  have hPh : va_P D vwCl (hw cI cD (cAd AD 1) u) s.heap := hPh
  have hJ0 : J s.heap := hJ0
  have hl : lv_has ls 5 [(0, .ref (AD 0)), (1, .int a), (2, .int c), (3, .int (nI z)), (4, .int x)] := hl
  have hS : va_S A s.heap s.heap [] := va_S.rf
  have in_X6 : ∀ w ∈ wsX60, w ∈ wsX6_faultOfEnding := by decide +kernel
  have fl_10 := hts (.fieldLink RX6 10 "DoorDialect" "house" "LDoorDialect$House;") (by decide +kernel)
  obtain ⟨g_b, g_k, g_0, g_1, g_2, g_e, g_d, g_t, g_y, g_s, g_h⟩ := id hG
  have zq0 : G 0 = G 0 := rfl
  refine lv_iload_n hx hb dX6_faultOfEnding_0 rfl (lv_at hl 1 rfl) ?_
  refine lv_iconst (v := nI 3) hx hb dX6_faultOfEnding_1 (by decide) ?_
  refine nv_kS (va_runS (As := [.int a, .int (nI 3)]) (rest := []) ⟨hx, hb, hml, hown, hts⟩ (c_X6_isBelow l (a) 3 (by omega)) (va_cwS 2 hts gX6_faultOfEnding_X6_isBelow rfl rfl rfl (by decide +kernel) ⟨Nat.le_of_ble_eq_true rfl, Nat.le_of_ble_eq_true rfl⟩) (nt_pS hT hS trivial) rfl rfl hl.1 rfl (lv_room (Nat.le_of_ble_eq_true rfl)) dX6_faultOfEnding_2 ⟨Nat.zero_le _, Nat.zero_le _⟩) ?_
  refine nv_ifb_eq (tgt := 26) hx hb dX6_faultOfEnding_5 (by decide) (fun c1 => ?_) (fun c1 => ?_)
  · refine lv_iconst (v := nI 1) hx hb dX6_faultOfEnding_26 (by decide) ?_
    exact nv_retG hq hx hb hr hlocks (nar_i _) (by unfold vTell; rw [if_pos (Or.inl c1)]; rfl) hS (by unfold vTell; rw [if_pos (Or.inl c1)]; exact ⟨hPo, hPh, hJ0⟩) dX6_faultOfEnding_27
  · obtain ⟨ak, h_ak, rfl⟩ := iR_of c1 (by decide)
    have et_ak : tN (nI ak) = ak := tN_nI (by omega)
    refine lv_iload_n hx hb dX6_faultOfEnding_8 rfl (lv_at hl 2 rfl) ?_
    refine lv_iconst (v := nI 4) hx hb dX6_faultOfEnding_9 (by decide) ?_
    refine nv_kS (va_runS (As := [.int c, .int (nI 4)]) (rest := []) ⟨hx, hb, hml, hown, hts⟩ (c_X6_isBelow l (c) 4 (by omega)) (va_cwS 2 hts gX6_faultOfEnding_X6_isBelow rfl rfl rfl (by decide +kernel) ⟨Nat.le_of_ble_eq_true rfl, Nat.le_of_ble_eq_true rfl⟩) (nt_pS hT hS trivial) rfl rfl hl.1 rfl (lv_room (Nat.le_of_ble_eq_true rfl)) dX6_faultOfEnding_10 ⟨Nat.zero_le _, Nat.zero_le _⟩) ?_
    refine nv_ifb_eq (tgt := 26) hx hb dX6_faultOfEnding_13 (by decide) (fun c2 => ?_) (fun c2 => ?_)
    · refine lv_iconst (v := nI 1) hx hb dX6_faultOfEnding_26 (by decide) ?_
      exact nv_retG hq hx hb hr hlocks (nar_i _) (by unfold vTell; simp only [et_ak]; rw [if_pos (Or.inr (Or.inl c2))]; rfl) hS (by unfold vTell; simp only [et_ak]; rw [if_pos (Or.inr (Or.inl c2))]; exact ⟨hPo, hPh, hJ0⟩) dX6_faultOfEnding_27
    · obtain ⟨ck, h_ck, rfl⟩ := iR_of c2 (by decide)
      have et_ck : tN (nI ck) = ck := tN_nI (by omega)
      refine lv_iload hx hb dX6_faultOfEnding_16 (lv_at hl 4 rfl) ?_
      refine lv_bipush (v := nI 26) hx hb dX6_faultOfEnding_18 (by decide) ?_
      refine nv_kS (va_runS (As := [.int x, .int (nI 26)]) (rest := []) ⟨hx, hb, hml, hown, hts⟩ (c_X6_isBelow l (x) 26 (by omega)) (va_cwS 2 hts gX6_faultOfEnding_X6_isBelow rfl rfl rfl (by decide +kernel) ⟨Nat.le_of_ble_eq_true rfl, Nat.le_of_ble_eq_true rfl⟩) (nt_pS hT hS trivial) rfl rfl hl.1 rfl (lv_room (Nat.le_of_ble_eq_true rfl)) dX6_faultOfEnding_20 ⟨Nat.zero_le _, Nat.zero_le _⟩) ?_
      refine nv_ifb_ne (tgt := 28) hx hb dX6_faultOfEnding_23 (by decide) (fun c3 => ?_) (fun c3 => ?_)
      · obtain ⟨xk, h_xk, rfl⟩ := iR_of c3 (by decide)
        have et_xk : tN (nI xk) = xk := tN_nI (by omega)
        have g_at := gEnds_le hG h_ak hz _ h_ck
        refine lv_aload_n hx hb dX6_faultOfEnding_28 rfl (lv_at hl 0 rfl) ?_
        refine va_get (D := D) (ci := 8) (v := .ref ((cAd AD 1) 0)) (C := RX6) (T := TX6) (N := 11) hx hb hts in_X6 hown hK.1 hPo 0 rfl rfl 0 (by decide) fl_10 (fun _ h9 => h9) rfl dX6_faultOfEnding_29 ?_
        refine lv_iload_n hx hb dX6_faultOfEnding_32 rfl (lv_at hl 1 rfl) ?_
        refine lv_iload_n hx hb dX6_faultOfEnding_33 rfl (lv_at hl 2 rfl) ?_
        refine lv_iload_n hx hb dX6_faultOfEnding_34 rfl (lv_at hl 3 rfl) ?_
        refine nv_kS (va_runV (As := [.int (nI ak), .int (nI ck), .int (nI z)]) (rest := []) ⟨hx, hb, hml, hown, hts⟩ (c_X1_letterAt l hR hG ak ck z (by omega) (by omega) (by omega)) (cwV 3 hts gX6_faultOfEnding_X1_letterAt rfl rfl rfl (by decide +kernel) ⟨Nat.le_of_ble_eq_true rfl, Nat.le_of_ble_eq_true rfl⟩) (nt_pV hT hS hPh (va_recv hK.1 hPh (ci := 3) (q0 := 0) rfl rfl)) rfl rfl hl.1 rfl (lv_room (Nat.le_of_ble_eq_true rfl)) dX6_faultOfEnding_35 ⟨Nat.zero_le _, Nat.zero_le _⟩) ?_
        refine lv_iload hx hb dX6_faultOfEnding_38 (lv_at hl 4 rfl) ?_
        refine nv_icmp_ne (tgt := 53) hx hb dX6_faultOfEnding_40 (by decide) (by omega) (by omega) (fun c4 => ?_) (fun c4 => ?_)
        · refine lv_iconst (v := nI 0) hx hb dX6_faultOfEnding_53 (by decide) ?_
          exact nv_retG hq hx hb hr hlocks (nar_i _) (by unfold vTell; simp only [et_ak, et_ck]; rw [if_neg (fun q => q.elim (fun z => z c1) (fun q => q.elim (fun z => z c2) (fun z => z c3))), if_neg (fun q => c4 ((nI_eq (by omega) (by omega)).mp q))]; rfl) hS (by unfold vTell; simp only [et_ak, et_ck]; rw [if_neg (fun q => q.elim (fun z => z c1) (fun q => q.elim (fun z => z c2) (fun z => z c3))), if_neg (fun q => c4 ((nI_eq (by omega) (by omega)).mp q))]; exact ⟨hPo, hPh, hJ0⟩) dX6_faultOfEnding_54
        · refine lv_aload_n hx hb dX6_faultOfEnding_43 rfl (lv_at hl 0 rfl) ?_
          refine lv_iconst (v := nI 2) hx hb dX6_faultOfEnding_44 (by decide) ?_
          refine lv_iload hx hb dX6_faultOfEnding_45 (lv_at hl 4 rfl) ?_
          refine nv_kG (va_runV (As := [.int (nI 2), .int (nI xk)]) (rest := []) ⟨hx, hb, hml, hown, hts⟩ (c_X6_refuse l (fun _ => cD_of (b := 0) (n := 1) hI cAt_1 (by decide)) 2 (nI (xk))) (cwV 2 hts gX6_faultOfEnding_X6_refuse rfl rfl rfl (by decide +kernel) ⟨Nat.le_of_ble_eq_true rfl, Nat.le_of_ble_eq_true rfl⟩) (nt_pVn hT hS (cRg_A hAA (by decide)) hPo (va_recv hK.1 hPo (ci := 8) (q0 := 0) rfl rfl)) rfl rfl hl.1 rfl (lv_room (Nat.le_of_ble_eq_true rfl)) dX6_faultOfEnding_47 ⟨Nat.zero_le _, Nat.zero_le _⟩) hS (cRg_A hAA (by decide)) (fun H locs hP1 hK1 hS => ?_)
          have hPo : va_P D vwCl (cOb AD (hs) (2) (nI (xk)) (ea) (ra)) H := hP1
          have hPh := (cOn_P (cAt_hw 1)).keep hI hK1 hPh (Or.inr (by decide)) (by decide) (by decide)
          have hJ0 := hJ.keep hI hK1 hJ0 (Or.inr (by decide)) (by decide) (by decide)
          refine lv_goto (tgt := 54) hx hb dX6_faultOfEnding_50 (by decide) ?_
          exact nv_retG hq hx hb hr hlocks (nar_i _) (by unfold vTell; simp only [et_ak, et_ck]; rw [if_neg (fun q => q.elim (fun z => z c1) (fun q => q.elim (fun z => z c2) (fun z => z c3))), if_pos (congrArg nI c4)]; rfl) hS (by unfold vTell; simp only [et_ak, et_ck]; rw [if_neg (fun q => q.elim (fun z => z c1) (fun q => q.elim (fun z => z c2) (fun z => z c3))), if_pos (congrArg nI c4)]; exact ⟨hPo, hPh, hJ0⟩) dX6_faultOfEnding_54
      · refine lv_iconst (v := nI 1) hx hb dX6_faultOfEnding_26 (by decide) ?_
        exact nv_retG hq hx hb hr hlocks (nar_i _) (by unfold vTell; simp only [et_ak, et_ck]; rw [if_pos (Or.inr (Or.inr c3))]; rfl) hS (by unfold vTell; simp only [et_ak, et_ck]; rw [if_pos (Or.inr (Or.inr c3))]; exact ⟨hPo, hPh, hJ0⟩) dX6_faultOfEnding_27

set_option maxHeartbeats 1000000 in
set_option maxRecDepth 100000 in
theorem c_X6_faultOfKey (l : Launch) {D : va_G} {cI cC cD cR : ClassId} {sa : sA} {A : Nat → Prop} {AD : Nat → Nat} {u : hS} {G : Nat → Nat} {b hs wy : Nat} {ea ra wd : Int32} {J : Heap → Prop} (hR : hRel u G) (hG : gWf b G) (hI : cInj AD) (hAA : ∀ i, i < 165 → A (AD i)) (hJ : cOn AD 15 165 J) (a g : Int32) : Met l yX6_faultOfKey wsX6_faultOfKey ({ frames := 1, cells := 0, slots := 0, locals := 23 }) (va_Pc [.ref (AD 0), .int a, .int g] (tPre D [(cI, .int), (cC, .char), (cD, .object "DoorDialect$Door"), (cR, .object "DoorDialect$House")] nN sa A (fun H => va_P D vwCl (cOb AD (hs) (wy) (wd) (ea) (ra)) H ∧ va_P D vwCl (hw cI cD (cAd AD 1) u) H ∧ J H))) (gQ (nI (fC [1, 3] (vKey G a g).1)) ((fun H => va_P D vwCl (cOb AD hs (vWy (vKey G a g) wy) (vWd (vKey G a g) wd) ea ra) H ∧ va_P D vwCl (hw cI cD (cAd AD 1) u) H ∧ J H)) A) 0 0 A := by
  refine nv_met (cc := cX6_faultOfKey) (maxL := 4) (ret := (some .int)) (by decide) rfl (Nat.le_of_ble_eq_true rfl) ?_
  intro p0 e0 s m0 args below meth c0 Q hq hargs hnA hpre ls hl
  obtain ⟨hx, hb, hr, hts, hown, hlocks, hml⟩ := hnA
  obtain ⟨hP, hT⟩ := hpre
  have hK := hT.1
  have hown : s.vm.findClass RX6 = some m0.cls := hown
  obtain ⟨hPo, hPh, hJ0⟩ := hP
  have hPo : va_P D vwCl (cOb AD (hs) (wy) (wd) (ea) (ra)) s.heap := hPo
  have hPh : va_P D vwCl (hw cI cD (cAd AD 1) u) s.heap := hPh
  have hJ0 : J s.heap := hJ0
  have hl : lv_has ls 4 [(0, .ref (AD 0)), (1, .int a), (2, .int g)] := hl
  have hS : va_S A s.heap s.heap [] := va_S.rf
  have in_X1 : ∀ w ∈ wsX10, w ∈ wsX6_faultOfKey := by decide +kernel
  have in_X6 : ∀ w ∈ wsX60, w ∈ wsX6_faultOfKey := by decide +kernel
  have fl_10 := hts (.fieldLink RX6 10 "DoorDialect" "house" "LDoorDialect$House;") (by decide +kernel)
  have fl_247 := hts (.fieldLink RX6 247 "DoorDialect$House" "keyCount" "I") (by decide +kernel)
  obtain ⟨g_b, g_k, g_0, g_1, g_2, g_e, g_d, g_t, g_y, g_s, g_h⟩ := id hG
  have zq0 : G 0 = G 0 := rfl
  refine lv_iload_n hx hb dX6_faultOfKey_0 rfl (lv_at hl 1 rfl) ?_
  refine lv_iconst (v := nI 3) hx hb dX6_faultOfKey_1 (by decide) ?_
  refine nv_kS (va_runS (As := [.int a, .int (nI 3)]) (rest := []) ⟨hx, hb, hml, hown, hts⟩ (c_X6_isBelow l (a) 3 (by omega)) (va_cwS 2 hts gX6_faultOfKey_X6_isBelow rfl rfl rfl (by decide +kernel) ⟨Nat.le_of_ble_eq_true rfl, Nat.le_of_ble_eq_true rfl⟩) (nt_pS hT hS trivial) rfl rfl hl.1 rfl (lv_room (Nat.le_of_ble_eq_true rfl)) dX6_faultOfKey_2 ⟨Nat.zero_le _, Nat.zero_le _⟩) ?_
  refine nv_ifb_eq (tgt := 16) hx hb dX6_faultOfKey_5 (by decide) (fun c1 => ?_) (fun c1 => ?_)
  · refine lv_iconst (v := nI 1) hx hb dX6_faultOfKey_16 (by decide) ?_
    exact nv_retG hq hx hb hr hlocks (nar_i _) (by unfold vKey; rw [if_pos (Or.inl c1)]; rfl) hS (by unfold vKey; rw [if_pos (Or.inl c1)]; exact ⟨hPo, hPh, hJ0⟩) dX6_faultOfKey_17
  · obtain ⟨ak, h_ak, rfl⟩ := iR_of c1 (by decide)
    have et_ak : tN (nI ak) = ak := tN_nI (by omega)
    refine lv_iload_n hx hb dX6_faultOfKey_8 rfl (lv_at hl 2 rfl) ?_
    refine lv_iconst (v := nI 3) hx hb dX6_faultOfKey_9 (by decide) ?_
    refine nv_kS (va_runS (As := [.int g, .int (nI 3)]) (rest := []) ⟨hx, hb, hml, hown, hts⟩ (c_X6_isBelow l (g) 3 (by omega)) (va_cwS 2 hts gX6_faultOfKey_X6_isBelow rfl rfl rfl (by decide +kernel) ⟨Nat.le_of_ble_eq_true rfl, Nat.le_of_ble_eq_true rfl⟩) (nt_pS hT hS trivial) rfl rfl hl.1 rfl (lv_room (Nat.le_of_ble_eq_true rfl)) dX6_faultOfKey_10 ⟨Nat.zero_le _, Nat.zero_le _⟩) ?_
    refine nv_ifb_ne (tgt := 18) hx hb dX6_faultOfKey_13 (by decide) (fun c2 => ?_) (fun c2 => ?_)
    · obtain ⟨gk, h_gk, rfl⟩ := iR_of c2 (by decide)
      have et_gk : tN (nI gk) = gk := tN_nI (by omega)
      have hsl := gSame_le G ak gk
      refine lv_aload_n hx hb dX6_faultOfKey_18 rfl (lv_at hl 0 rfl) ?_
      refine va_get (D := D) (ci := 8) (v := .ref ((cAd AD 1) 0)) (C := RX6) (T := TX6) (N := 11) hx hb hts in_X6 hown hK.1 hPo 0 rfl rfl 0 (by decide) fl_10 (fun _ h9 => h9) rfl dX6_faultOfKey_19 ?_
      refine lv_iload_n hx hb dX6_faultOfKey_22 rfl (lv_at hl 1 rfl) ?_
      refine lv_iload_n hx hb dX6_faultOfKey_23 rfl (lv_at hl 2 rfl) ?_
      refine nv_kS (va_runV (As := [.int (nI ak), .int (nI gk)]) (rest := []) ⟨hx, hb, hml, hown, hts⟩ (c_X1_keyWith l hR hG ak gk (by omega) (by omega)) (cwV 2 hts gX6_faultOfKey_X1_keyWith rfl rfl rfl (by decide +kernel) ⟨Nat.le_of_ble_eq_true rfl, Nat.le_of_ble_eq_true rfl⟩) (nt_pV hT hS hPh (va_recv hK.1 hPh (ci := 3) (q0 := 0) rfl rfl)) rfl rfl hl.1 rfl (lv_room (Nat.le_of_ble_eq_true rfl)) dX6_faultOfKey_24 ⟨Nat.zero_le _, Nat.zero_le _⟩) ?_
      refine lv_istore_n (lv' := [(3, .int ((if gSame G ak gk < G 2 then nI (gSame G ak gk) else -1))), (0, .ref (AD 0)), (1, .int (nI ak)), (2, .int (nI gk))]) hx hb dX6_faultOfKey_27 rfl hl (by decide) rfl (fun ls hl => ?_)
      refine lv_iload_n hx hb dX6_faultOfKey_28 rfl (lv_at hl 0 rfl) ?_
      refine lv_iconst (v := (-1)) hx hb dX6_faultOfKey_29 (by decide) ?_
      refine lv_icmp_eq (tgt := 40) hx hb dX6_faultOfKey_30 (by decide) (fun c3 => ?_) (fun c3 => ?_)
      · have hsm : ¬ gSame G ak gk < G 2 := nv_same_none c3
        refine lv_aload_n hx hb dX6_faultOfKey_40 rfl (lv_at hl 1 rfl) ?_
        refine va_get (D := D) (ci := 8) (v := .ref ((cAd AD 1) 0)) (C := RX6) (T := TX6) (N := 11) hx hb hts in_X6 hown hK.1 hPo 0 rfl rfl 0 (by decide) fl_10 (fun _ h9 => h9) rfl dX6_faultOfKey_41 ?_
        refine va_get (D := D) (ci := 3) (v := .int (nI (hs_c u 2))) (C := RX1) (T := TX1) (N := 12) hx hb hts in_X1 hown hK.1 hPh 0 rfl rfl 7 (by decide) fl_247 (fun _ h9 => h9) rfl dX6_faultOfKey_44 ?_
        refine nv_to (G 2) (congrArg nI ((hR.c2))) ?_
        refine lv_iconst (v := nI 5) hx hb dX6_faultOfKey_47 (by decide) ?_
        refine nv_icmp_lt (tgt := 60) hx hb dX6_faultOfKey_48 (by decide) (by omega) (by omega) (fun c4 => ?_) (fun c4 => ?_)
        · refine lv_iconst (v := nI 0) hx hb dX6_faultOfKey_60 (by decide) ?_
          exact nv_retG hq hx hb hr hlocks (nar_i _) (by unfold vKey; simp only [et_ak, et_gk]; rw [if_neg (fun q => q.elim (fun z => z c1) (fun z => z c2)), if_neg hsm, if_neg (by omega)]; rfl) hS (by unfold vKey; simp only [et_ak, et_gk]; rw [if_neg (fun q => q.elim (fun z => z c1) (fun z => z c2)), if_neg hsm, if_neg (by omega)]; exact ⟨hPo, hPh, hJ0⟩) dX6_faultOfKey_61
        · refine lv_aload_n hx hb dX6_faultOfKey_51 rfl (lv_at hl 1 rfl) ?_
          refine lv_iconst (v := nI 1) hx hb dX6_faultOfKey_52 (by decide) ?_
          refine lv_iconst (v := nI 5) hx hb dX6_faultOfKey_53 (by decide) ?_
          refine nv_kG (va_runV (As := [.int (nI 1), .int (nI 5)]) (rest := []) ⟨hx, hb, hml, hown, hts⟩ (c_X6_refuse l (fun _ => cD_of (b := 0) (n := 1) hI cAt_1 (by decide)) 1 (nI (5))) (cwV 2 hts gX6_faultOfKey_X6_refuse rfl rfl rfl (by decide +kernel) ⟨Nat.le_of_ble_eq_true rfl, Nat.le_of_ble_eq_true rfl⟩) (nt_pVn hT hS (cRg_A hAA (by decide)) hPo (va_recv hK.1 hPo (ci := 8) (q0 := 0) rfl rfl)) rfl rfl hl.1 rfl (lv_room (Nat.le_of_ble_eq_true rfl)) dX6_faultOfKey_54 ⟨Nat.zero_le _, Nat.zero_le _⟩) hS (cRg_A hAA (by decide)) (fun H locs hP1 hK1 hS => ?_)
          have hPo : va_P D vwCl (cOb AD (hs) (1) (nI (5)) (ea) (ra)) H := hP1
          have hPh := (cOn_P (cAt_hw 1)).keep hI hK1 hPh (Or.inr (by decide)) (by decide) (by decide)
          have hJ0 := hJ.keep hI hK1 hJ0 (Or.inr (by decide)) (by decide) (by decide)
          refine lv_goto (tgt := 61) hx hb dX6_faultOfKey_57 (by decide) ?_
          exact nv_retG hq hx hb hr hlocks (nar_i _) (by unfold vKey; simp only [et_ak, et_gk]; rw [if_neg (fun q => q.elim (fun z => z c1) (fun z => z c2)), if_neg hsm, if_pos (by omega)]; rfl) hS (by unfold vKey; simp only [et_ak, et_gk]; rw [if_neg (fun q => q.elim (fun z => z c1) (fun z => z c2)), if_neg hsm, if_pos (by omega)]; exact ⟨hPo, hPh, hJ0⟩) dX6_faultOfKey_61
      · have hsm : gSame G ak gk < G 2 := nv_same_some c3
        rw [if_pos hsm] at hl
        refine lv_aload_n hx hb dX6_faultOfKey_33 rfl (lv_at hl 1 rfl) ?_
        refine lv_iconst (v := nI 2) hx hb dX6_faultOfKey_34 (by decide) ?_
        refine lv_iload_n hx hb dX6_faultOfKey_35 rfl (lv_at hl 0 rfl) ?_
        refine nv_kG (va_runV (As := [.int (nI 2), .int (nI (gSame G ak gk))]) (rest := []) ⟨hx, hb, hml, hown, hts⟩ (c_X6_refuse l (fun _ => cD_of (b := 0) (n := 1) hI cAt_1 (by decide)) 2 (nI (gSame G ak gk))) (cwV 2 hts gX6_faultOfKey_X6_refuse rfl rfl rfl (by decide +kernel) ⟨Nat.le_of_ble_eq_true rfl, Nat.le_of_ble_eq_true rfl⟩) (nt_pVn hT hS (cRg_A hAA (by decide)) hPo (va_recv hK.1 hPo (ci := 8) (q0 := 0) rfl rfl)) rfl rfl hl.1 rfl (lv_room (Nat.le_of_ble_eq_true rfl)) dX6_faultOfKey_36 ⟨Nat.zero_le _, Nat.zero_le _⟩) hS (cRg_A hAA (by decide)) (fun H locs hP1 hK1 hS => ?_)
        have hPo : va_P D vwCl (cOb AD (hs) (2) (nI (gSame G ak gk)) (ea) (ra)) H := hP1
        have hPh := (cOn_P (cAt_hw 1)).keep hI hK1 hPh (Or.inr (by decide)) (by decide) (by decide)
        have hJ0 := hJ.keep hI hK1 hJ0 (Or.inr (by decide)) (by decide) (by decide)
        exact nv_retG hq hx hb hr hlocks (nar_i _) (by unfold vKey; simp only [et_ak, et_gk]; rw [if_neg (fun q => q.elim (fun z => z c1) (fun z => z c2)), if_pos hsm]; rfl) hS (by unfold vKey; simp only [et_ak, et_gk]; rw [if_neg (fun q => q.elim (fun z => z c1) (fun z => z c2)), if_pos hsm]; exact ⟨hPo, hPh, hJ0⟩) dX6_faultOfKey_39
    · refine lv_iconst (v := nI 1) hx hb dX6_faultOfKey_16 (by decide) ?_
      exact nv_retG hq hx hb hr hlocks (nar_i _) (by unfold vKey; simp only [et_ak]; rw [if_pos (Or.inr c2)]; rfl) hS (by unfold vKey; simp only [et_ak]; rw [if_pos (Or.inr c2)]; exact ⟨hPo, hPh, hJ0⟩) dX6_faultOfKey_17

set_option maxHeartbeats 1000000 in
set_option maxRecDepth 100000 in
theorem c_X6_faultOfKnock (l : Launch) {D : va_G} {cI cC cD cR : ClassId} {sa : sA} {A : Nat → Prop} {AD : Nat → Nat} {u : hS} {G : Nat → Nat} {b hs wy : Nat} {ea ra wd : Int32} {J : Heap → Prop} (hR : hRel u G) (hG : gWf b G) (hI : cInj AD) (hAA : ∀ i, i < 165 → A (AD i)) (hJ : cOn AD 15 165 J) (d g : Int32) (z : Nat) (c : Int32) : Met l yX6_faultOfKnock wsX6_faultOfKnock ({ frames := 2, cells := 0, slots := 0, locals := 42 }) (va_Pc [.ref (AD 0), .int d, .int g, .int c] (tPre D [(cI, .int), (cC, .char), (cD, .object "DoorDialect$Door"), (cR, .object "DoorDialect$House")] nN sa A (fun H => va_P D vwCl (cOb AD (hs) (wy) (wd) (ea) (ra)) H ∧ va_P D vwCl (hw cI cD (cAd AD 1) u) H ∧ J H))) (gQ (nI (fC [2, 1, 3] (vKnock G d g z c).1)) ((fun H => va_P D vwCl (cOb AD hs (vWy (vKnock G d g z c) wy) (vWd (vKnock G d g z c) wd) ea ra) H ∧ va_P D vwCl (hw cI cD (cAd AD 1) u) H ∧ J H)) A) 0 0 A := by
  refine nv_met (cc := cX6_faultOfKnock) (maxL := 4) (ret := (some .int)) (by decide) rfl (Nat.le_of_ble_eq_true rfl) ?_
  intro p0 e0 s m0 args below meth c0 Q hq hargs hnA hpre ls hl
  obtain ⟨hx, hb, hr, hts, hown, hlocks, hml⟩ := hnA
  obtain ⟨hP, hT⟩ := hpre
  have hK := hT.1
  have hown : s.vm.findClass RX6 = some m0.cls := hown
  obtain ⟨hPo, hPh, hJ0⟩ := hP
  have hPo : va_P D vwCl (cOb AD (hs) (wy) (wd) (ea) (ra)) s.heap := hPo
  have hPh : va_P D vwCl (hw cI cD (cAd AD 1) u) s.heap := hPh
  have hJ0 : J s.heap := hJ0
  have hl : lv_has ls 4 [(0, .ref (AD 0)), (1, .int d), (2, .int g), (3, .int c)] := hl
  have hS : va_S A s.heap s.heap [] := va_S.rf
  have in_X0 : ∀ w ∈ wsX00, w ∈ wsX6_faultOfKnock := by decide +kernel
  have in_X1 : ∀ w ∈ wsX10, w ∈ wsX6_faultOfKnock := by decide +kernel
  have in_X6 : ∀ w ∈ wsX60, w ∈ wsX6_faultOfKnock := by decide +kernel
  have fl_10 := hts (.fieldLink RX6 10 "DoorDialect" "house" "LDoorDialect$House;") (by decide +kernel)
  have fl_128 := hts (.fieldLink RX6 128 "DoorDialect$House" "doors" "[LDoorDialect$Door;") (by decide +kernel)
  have fl_153 := hts (.fieldLink RX6 153 "DoorDialect$Door" "isLatched" "Z") (by decide +kernel)
  have fl_156 := hts (.fieldLink RX6 156 "DoorDialect$Door" "isOpen" "Z") (by decide +kernel)
  obtain ⟨g_b, g_k, g_0, g_1, g_2, g_e, g_d, g_t, g_y, g_s, g_h⟩ := id hG
  have zq0 : G 0 = G 0 := rfl
  refine lv_aload_n hx hb dX6_faultOfKnock_0 rfl (lv_at hl 0 rfl) ?_
  refine va_get (D := D) (ci := 8) (v := .ref ((cAd AD 1) 0)) (C := RX6) (T := TX6) (N := 11) hx hb hts in_X6 hown hK.1 hPo 0 rfl rfl 0 (by decide) fl_10 (fun _ h9 => h9) rfl dX6_faultOfKnock_1 ?_
  refine lv_iload_n hx hb dX6_faultOfKnock_4 rfl (lv_at hl 1 rfl) ?_
  refine nv_kS (va_runV (As := [.int d]) (rest := []) ⟨hx, hb, hml, hown, hts⟩ (c_X1_isDoor l hR hG (d)) (cwV 1 hts gX6_faultOfKnock_X1_isDoor rfl rfl rfl (by decide +kernel) ⟨Nat.le_of_ble_eq_true rfl, Nat.le_of_ble_eq_true rfl⟩) (nt_pV hT hS hPh (va_recv hK.1 hPh (ci := 3) (q0 := 0) rfl rfl)) rfl rfl hl.1 rfl (lv_room (Nat.le_of_ble_eq_true rfl)) dX6_faultOfKnock_5 ⟨Nat.zero_le _, Nat.zero_le _⟩) ?_
  refine nv_ifb_ne (tgt := 13) hx hb dX6_faultOfKnock_8 (by decide) (fun c1 => ?_) (fun c1 => ?_)
  · obtain ⟨dk, h_dk, rfl⟩ := iR_of c1 (by omega)
    have et_dk : tN (nI dk) = dk := tN_nI (by omega)
    obtain ⟨w_a, w_g, w_n, w_s, w_w, w_l, w_o, w_x, w_y, w_1, w_2, w_3, w_4⟩ := hG.door (d := dk) (by omega)
    refine lv_iload_n hx hb dX6_faultOfKnock_13 rfl (lv_at hl 2 rfl) ?_
    refine lv_iconst (v := nI 3) hx hb dX6_faultOfKnock_14 (by decide) ?_
    refine nv_kS (va_runS (As := [.int g, .int (nI 3)]) (rest := []) ⟨hx, hb, hml, hown, hts⟩ (c_X6_isBelow l (g) 3 (by omega)) (va_cwS 2 hts gX6_faultOfKnock_X6_isBelow rfl rfl rfl (by decide +kernel) ⟨Nat.le_of_ble_eq_true rfl, Nat.le_of_ble_eq_true rfl⟩) (nt_pS hT hS trivial) rfl rfl hl.1 rfl (lv_room (Nat.le_of_ble_eq_true rfl)) dX6_faultOfKnock_15 ⟨Nat.zero_le _, Nat.zero_le _⟩) ?_
    refine nv_ifb_eq (tgt := 29) hx hb dX6_faultOfKnock_18 (by decide) (fun c2 => ?_) (fun c2 => ?_)
    · refine lv_iconst (v := nI 1) hx hb dX6_faultOfKnock_29 (by decide) ?_
      exact nv_retG hq hx hb hr hlocks (nar_i _) (by unfold vKnock; simp only [et_dk]; rw [if_neg (fun z => z c1), if_pos (Or.inl c2)]; rfl) hS (by unfold vKnock; simp only [et_dk]; rw [if_neg (fun z => z c1), if_pos (Or.inl c2)]; exact ⟨hPo, hPh, hJ0⟩) dX6_faultOfKnock_30
    · refine lv_iload_n hx hb dX6_faultOfKnock_21 rfl (lv_at hl 3 rfl) ?_
      refine lv_iconst (v := nI 4) hx hb dX6_faultOfKnock_22 (by decide) ?_
      refine nv_kS (va_runS (As := [.int c, .int (nI 4)]) (rest := []) ⟨hx, hb, hml, hown, hts⟩ (c_X6_isBelow l (c) 4 (by omega)) (va_cwS 2 hts gX6_faultOfKnock_X6_isBelow rfl rfl rfl (by decide +kernel) ⟨Nat.le_of_ble_eq_true rfl, Nat.le_of_ble_eq_true rfl⟩) (nt_pS hT hS trivial) rfl rfl hl.1 rfl (lv_room (Nat.le_of_ble_eq_true rfl)) dX6_faultOfKnock_23 ⟨Nat.zero_le _, Nat.zero_le _⟩) ?_
      refine nv_ifb_ne (tgt := 31) hx hb dX6_faultOfKnock_26 (by decide) (fun c3 => ?_) (fun c3 => ?_)
      · refine lv_aload_n hx hb dX6_faultOfKnock_31 rfl (lv_at hl 0 rfl) ?_
        refine va_get (D := D) (ci := 8) (v := .ref ((cAd AD 1) 0)) (C := RX6) (T := TX6) (N := 11) hx hb hts in_X6 hown hK.1 hPo 0 rfl rfl 0 (by decide) fl_10 (fun _ h9 => h9) rfl dX6_faultOfKnock_32 ?_
        refine va_get (D := D) (ci := 3) (v := .ref ((cAd AD 1) 1)) (C := RX1) (T := TX1) (N := 12) hx hb hts in_X1 hown hK.1 hPh 0 rfl rfl 0 (by decide) fl_128 (fun _ h9 => h9) rfl dX6_faultOfKnock_35 ?_
        refine lv_iload_n hx hb dX6_faultOfKnock_38 rfl (lv_at hl 1 rfl) ?_
        refine nv_aldq (i := dk) hx hb hK.1 hPh 1 2 rfl rfl (by omega) (by decide) dX6_faultOfKnock_39 ?_
        refine va_get (D := D) (ci := 2) (v := .int (nI (hs_d u (dk) 9))) (C := RX0) (T := TX0) (N := 10) hx hb hts in_X0 hown hK.1 hPh (6 + (dk)) (hw_at (dk) (by omega)) rfl 9 (by decide) fl_156 (fun _ h9 => h9) rfl dX6_faultOfKnock_40 ?_
        refine nv_to (G (80 + dk)) (congrArg nI ((hR.d9 (d := dk) (by rw [zq0]; omega)))) ?_
        refine nv_if_eq (tgt := 59) hx hb dX6_faultOfKnock_43 (by decide) (by omega) (fun c4 => ?_) (fun c4 => ?_)
        · refine lv_aload_n hx hb dX6_faultOfKnock_59 rfl (lv_at hl 0 rfl) ?_
          refine va_get (D := D) (ci := 8) (v := .ref ((cAd AD 1) 0)) (C := RX6) (T := TX6) (N := 11) hx hb hts in_X6 hown hK.1 hPo 0 rfl rfl 0 (by decide) fl_10 (fun _ h9 => h9) rfl dX6_faultOfKnock_60 ?_
          refine va_get (D := D) (ci := 3) (v := .ref ((cAd AD 1) 1)) (C := RX1) (T := TX1) (N := 12) hx hb hts in_X1 hown hK.1 hPh 0 rfl rfl 0 (by decide) fl_128 (fun _ h9 => h9) rfl dX6_faultOfKnock_63 ?_
          refine lv_iload_n hx hb dX6_faultOfKnock_66 rfl (lv_at hl 1 rfl) ?_
          refine nv_aldq (i := dk) hx hb hK.1 hPh 1 2 rfl rfl (by omega) (by decide) dX6_faultOfKnock_67 ?_
          refine va_get (D := D) (ci := 2) (v := .int (nI (hs_d u (dk) 8))) (C := RX0) (T := TX0) (N := 10) hx hb hts in_X0 hown hK.1 hPh (6 + (dk)) (hw_at (dk) (by omega)) rfl 8 (by decide) fl_153 (fun _ h9 => h9) rfl dX6_faultOfKnock_68 ?_
          refine nv_to (G (72 + dk)) (congrArg nI ((hR.d8 (d := dk) (by rw [zq0]; omega)))) ?_
          refine nv_if_eq (tgt := 89) hx hb dX6_faultOfKnock_71 (by decide) (by omega) (fun c5 => ?_) (fun c5 => ?_)
          · refine lv_iconst (v := nI 0) hx hb dX6_faultOfKnock_89 (by decide) ?_
            exact nv_retG hq hx hb hr hlocks (nar_i _) (by unfold vKnock; simp only [et_dk]; rw [if_neg (fun z => z c1), if_neg (fun q => q.elim (fun z => z c2) (fun z => z c3)), if_neg (by omega), if_neg (by omega)]; rfl) hS (by unfold vKnock; simp only [et_dk]; rw [if_neg (fun z => z c1), if_neg (fun q => q.elim (fun z => z c2) (fun z => z c3)), if_neg (by omega), if_neg (by omega)]; exact ⟨hPo, hPh, hJ0⟩) dX6_faultOfKnock_90
          · refine lv_aload_n hx hb dX6_faultOfKnock_74 rfl (lv_at hl 0 rfl) ?_
            refine lv_iconst (v := nI 3) hx hb dX6_faultOfKnock_75 (by decide) ?_
            refine lv_aload_n hx hb dX6_faultOfKnock_76 rfl (lv_at hl 0 rfl) ?_
            refine va_get (D := D) (ci := 8) (v := .ref ((cAd AD 1) 0)) (C := RX6) (T := TX6) (N := 11) hx hb hts in_X6 hown hK.1 hPo 0 rfl rfl 0 (by decide) fl_10 (fun _ h9 => h9) rfl dX6_faultOfKnock_77 ?_
            refine nv_kS (va_runV (As := []) (rest := [.int (nI 3), .ref (AD 0)]) ⟨hx, hb, hml, hown, hts⟩ (c_X1_latchesDown l hR hG) (cwV 0 hts gX6_faultOfKnock_X1_latchesDown rfl rfl rfl (by decide +kernel) ⟨Nat.le_of_ble_eq_true rfl, Nat.le_of_ble_eq_true rfl⟩) (nt_pV hT hS hPh (va_recv hK.1 hPh (ci := 3) (q0 := 0) rfl rfl)) rfl rfl hl.1 rfl (lv_room (Nat.le_of_ble_eq_true rfl)) dX6_faultOfKnock_80 ⟨Nat.zero_le _, Nat.zero_le _⟩) ?_
            refine nv_kG (va_runV (As := [.int (nI 3), .int (nI (gMany G 72))]) (rest := []) ⟨hx, hb, hml, hown, hts⟩ (c_X6_refuse l (fun _ => cD_of (b := 0) (n := 1) hI cAt_1 (by decide)) 3 (nI (gMany G 72))) (cwV 2 hts gX6_faultOfKnock_X6_refuse rfl rfl rfl (by decide +kernel) ⟨Nat.le_of_ble_eq_true rfl, Nat.le_of_ble_eq_true rfl⟩) (nt_pVn hT hS (cRg_A hAA (by decide)) hPo (va_recv hK.1 hPo (ci := 8) (q0 := 0) rfl rfl)) rfl rfl hl.1 rfl (lv_room (Nat.le_of_ble_eq_true rfl)) dX6_faultOfKnock_83 ⟨Nat.zero_le _, Nat.zero_le _⟩) hS (cRg_A hAA (by decide)) (fun H locs hP1 hK1 hS => ?_)
            have hPo : va_P D vwCl (cOb AD (hs) (3) (nI (gMany G 72)) (ea) (ra)) H := hP1
            have hPh := (cOn_P (cAt_hw 1)).keep hI hK1 hPh (Or.inr (by decide)) (by decide) (by decide)
            have hJ0 := hJ.keep hI hK1 hJ0 (Or.inr (by decide)) (by decide) (by decide)
            refine lv_goto (tgt := 90) hx hb dX6_faultOfKnock_86 (by decide) ?_
            exact nv_retG hq hx hb hr hlocks (nar_i _) (by unfold vKnock; simp only [et_dk]; rw [if_neg (fun z => z c1), if_neg (fun q => q.elim (fun z => z c2) (fun z => z c3)), if_neg (by omega), if_pos (by omega)]; rfl) hS (by unfold vKnock; simp only [et_dk]; rw [if_neg (fun z => z c1), if_neg (fun q => q.elim (fun z => z c2) (fun z => z c3)), if_neg (by omega), if_pos (by omega)]; exact ⟨hPo, hPh, hJ0⟩) dX6_faultOfKnock_90
        · refine lv_aload_n hx hb dX6_faultOfKnock_46 rfl (lv_at hl 0 rfl) ?_
          refine lv_iconst (v := nI 4) hx hb dX6_faultOfKnock_47 (by decide) ?_
          refine lv_aload_n hx hb dX6_faultOfKnock_48 rfl (lv_at hl 0 rfl) ?_
          refine va_get (D := D) (ci := 8) (v := .ref ((cAd AD 1) 0)) (C := RX6) (T := TX6) (N := 11) hx hb hts in_X6 hown hK.1 hPo 0 rfl rfl 0 (by decide) fl_10 (fun _ h9 => h9) rfl dX6_faultOfKnock_49 ?_
          refine nv_kS (va_runV (As := []) (rest := [.int (nI 4), .ref (AD 0)]) ⟨hx, hb, hml, hown, hts⟩ (c_X1_openDoors l hR hG) (cwV 0 hts gX6_faultOfKnock_X1_openDoors rfl rfl rfl (by decide +kernel) ⟨Nat.le_of_ble_eq_true rfl, Nat.le_of_ble_eq_true rfl⟩) (nt_pV hT hS hPh (va_recv hK.1 hPh (ci := 3) (q0 := 0) rfl rfl)) rfl rfl hl.1 rfl (lv_room (Nat.le_of_ble_eq_true rfl)) dX6_faultOfKnock_52 ⟨Nat.zero_le _, Nat.zero_le _⟩) ?_
          refine nv_kG (va_runV (As := [.int (nI 4), .int (nI (gMany G 80))]) (rest := []) ⟨hx, hb, hml, hown, hts⟩ (c_X6_refuse l (fun _ => cD_of (b := 0) (n := 1) hI cAt_1 (by decide)) 4 (nI (gMany G 80))) (cwV 2 hts gX6_faultOfKnock_X6_refuse rfl rfl rfl (by decide +kernel) ⟨Nat.le_of_ble_eq_true rfl, Nat.le_of_ble_eq_true rfl⟩) (nt_pVn hT hS (cRg_A hAA (by decide)) hPo (va_recv hK.1 hPo (ci := 8) (q0 := 0) rfl rfl)) rfl rfl hl.1 rfl (lv_room (Nat.le_of_ble_eq_true rfl)) dX6_faultOfKnock_55 ⟨Nat.zero_le _, Nat.zero_le _⟩) hS (cRg_A hAA (by decide)) (fun H locs hP1 hK1 hS => ?_)
          have hPo : va_P D vwCl (cOb AD (hs) (4) (nI (gMany G 80)) (ea) (ra)) H := hP1
          have hPh := (cOn_P (cAt_hw 1)).keep hI hK1 hPh (Or.inr (by decide)) (by decide) (by decide)
          have hJ0 := hJ.keep hI hK1 hJ0 (Or.inr (by decide)) (by decide) (by decide)
          exact nv_retG hq hx hb hr hlocks (nar_i _) (by unfold vKnock; simp only [et_dk]; rw [if_neg (fun z => z c1), if_neg (fun q => q.elim (fun z => z c2) (fun z => z c3)), if_pos (by omega)]; rfl) hS (by unfold vKnock; simp only [et_dk]; rw [if_neg (fun z => z c1), if_neg (fun q => q.elim (fun z => z c2) (fun z => z c3)), if_pos (by omega)]; exact ⟨hPo, hPh, hJ0⟩) dX6_faultOfKnock_58
      · refine lv_iconst (v := nI 1) hx hb dX6_faultOfKnock_29 (by decide) ?_
        exact nv_retG hq hx hb hr hlocks (nar_i _) (by unfold vKnock; simp only [et_dk]; rw [if_neg (fun z => z c1), if_pos (Or.inr c3)]; rfl) hS (by unfold vKnock; simp only [et_dk]; rw [if_neg (fun z => z c1), if_pos (Or.inr c3)]; exact ⟨hPo, hPh, hJ0⟩) dX6_faultOfKnock_30
  · refine lv_iconst (v := nI 2) hx hb dX6_faultOfKnock_11 (by decide) ?_
    exact nv_retG hq hx hb hr hlocks (nar_i _) (by unfold vKnock; rw [if_pos c1]; rfl) hS (by unfold vKnock; rw [if_pos c1]; exact ⟨hPo, hPh, hJ0⟩) dX6_faultOfKnock_12

set_option maxHeartbeats 1000000 in
set_option maxRecDepth 100000 in
theorem c_X6_faultOfShut (l : Launch) {D : va_G} {cI cC cD cR : ClassId} {sa : sA} {A : Nat → Prop} {AD : Nat → Nat} {u : hS} {G : Nat → Nat} {b hs wy : Nat} {ea ra wd : Int32} {J : Heap → Prop} (hR : hRel u G) (hG : gWf b G) (hI : cInj AD) (hAA : ∀ i, i < 165 → A (AD i)) (hJ : cOn AD 15 165 J) (d : Int32) : Met l yX6_faultOfShut wsX6_faultOfShut ({ frames := 2, cells := 0, slots := 0, locals := 42 }) (va_Pc [.ref (AD 0), .int d] (tPre D [(cI, .int), (cC, .char), (cD, .object "DoorDialect$Door"), (cR, .object "DoorDialect$House")] nN sa A (fun H => va_P D vwCl (cOb AD (hs) (wy) (wd) (ea) (ra)) H ∧ va_P D vwCl (hw cI cD (cAd AD 1) u) H ∧ J H))) (gQ (nI (fC [2, 3] (vShut G d).1)) ((fun H => va_P D vwCl (cOb AD hs (vWy (vShut G d) wy) (vWd (vShut G d) wd) ea ra) H ∧ va_P D vwCl (hw cI cD (cAd AD 1) u) H ∧ J H)) A) 0 0 A := by
  refine nv_met (cc := cX6_faultOfShut) (maxL := 2) (ret := (some .int)) (by decide) rfl (Nat.le_of_ble_eq_true rfl) ?_
  intro p0 e0 s m0 args below meth c0 Q hq hargs hnA hpre ls hl
  obtain ⟨hx, hb, hr, hts, hown, hlocks, hml⟩ := hnA
  obtain ⟨hP, hT⟩ := hpre
  have hK := hT.1
  have hown : s.vm.findClass RX6 = some m0.cls := hown
  obtain ⟨hPo, hPh, hJ0⟩ := hP
  have hPo : va_P D vwCl (cOb AD (hs) (wy) (wd) (ea) (ra)) s.heap := hPo
  have hPh : va_P D vwCl (hw cI cD (cAd AD 1) u) s.heap := hPh
  have hJ0 : J s.heap := hJ0
  have hl : lv_has ls 2 [(0, .ref (AD 0)), (1, .int d)] := hl
  have hS : va_S A s.heap s.heap [] := va_S.rf
  have in_X0 : ∀ w ∈ wsX00, w ∈ wsX6_faultOfShut := by decide +kernel
  have in_X1 : ∀ w ∈ wsX10, w ∈ wsX6_faultOfShut := by decide +kernel
  have in_X6 : ∀ w ∈ wsX60, w ∈ wsX6_faultOfShut := by decide +kernel
  have fl_10 := hts (.fieldLink RX6 10 "DoorDialect" "house" "LDoorDialect$House;") (by decide +kernel)
  have fl_128 := hts (.fieldLink RX6 128 "DoorDialect$House" "doors" "[LDoorDialect$Door;") (by decide +kernel)
  have fl_156 := hts (.fieldLink RX6 156 "DoorDialect$Door" "isOpen" "Z") (by decide +kernel)
  obtain ⟨g_b, g_k, g_0, g_1, g_2, g_e, g_d, g_t, g_y, g_s, g_h⟩ := id hG
  have zq0 : G 0 = G 0 := rfl
  refine lv_aload_n hx hb dX6_faultOfShut_0 rfl (lv_at hl 0 rfl) ?_
  refine va_get (D := D) (ci := 8) (v := .ref ((cAd AD 1) 0)) (C := RX6) (T := TX6) (N := 11) hx hb hts in_X6 hown hK.1 hPo 0 rfl rfl 0 (by decide) fl_10 (fun _ h9 => h9) rfl dX6_faultOfShut_1 ?_
  refine lv_iload_n hx hb dX6_faultOfShut_4 rfl (lv_at hl 1 rfl) ?_
  refine nv_kS (va_runV (As := [.int d]) (rest := []) ⟨hx, hb, hml, hown, hts⟩ (c_X1_isDoor l hR hG (d)) (cwV 1 hts gX6_faultOfShut_X1_isDoor rfl rfl rfl (by decide +kernel) ⟨Nat.le_of_ble_eq_true rfl, Nat.le_of_ble_eq_true rfl⟩) (nt_pV hT hS hPh (va_recv hK.1 hPh (ci := 3) (q0 := 0) rfl rfl)) rfl rfl hl.1 rfl (lv_room (Nat.le_of_ble_eq_true rfl)) dX6_faultOfShut_5 ⟨Nat.zero_le _, Nat.zero_le _⟩) ?_
  refine nv_ifb_ne (tgt := 13) hx hb dX6_faultOfShut_8 (by decide) (fun c1 => ?_) (fun c1 => ?_)
  · obtain ⟨dk, h_dk, rfl⟩ := iR_of c1 (by omega)
    have et_dk : tN (nI dk) = dk := tN_nI (by omega)
    obtain ⟨w_a, w_g, w_n, w_s, w_w, w_l, w_o, w_x, w_y, w_1, w_2, w_3, w_4⟩ := hG.door (d := dk) (by omega)
    refine lv_aload_n hx hb dX6_faultOfShut_13 rfl (lv_at hl 0 rfl) ?_
    refine va_get (D := D) (ci := 8) (v := .ref ((cAd AD 1) 0)) (C := RX6) (T := TX6) (N := 11) hx hb hts in_X6 hown hK.1 hPo 0 rfl rfl 0 (by decide) fl_10 (fun _ h9 => h9) rfl dX6_faultOfShut_14 ?_
    refine va_get (D := D) (ci := 3) (v := .ref ((cAd AD 1) 1)) (C := RX1) (T := TX1) (N := 12) hx hb hts in_X1 hown hK.1 hPh 0 rfl rfl 0 (by decide) fl_128 (fun _ h9 => h9) rfl dX6_faultOfShut_17 ?_
    refine lv_iload_n hx hb dX6_faultOfShut_20 rfl (lv_at hl 1 rfl) ?_
    refine nv_aldq (i := dk) hx hb hK.1 hPh 1 2 rfl rfl (by omega) (by decide) dX6_faultOfShut_21 ?_
    refine va_get (D := D) (ci := 2) (v := .int (nI (hs_d u (dk) 9))) (C := RX0) (T := TX0) (N := 10) hx hb hts in_X0 hown hK.1 hPh (6 + (dk)) (hw_at (dk) (by omega)) rfl 9 (by decide) fl_156 (fun _ h9 => h9) rfl dX6_faultOfShut_22 ?_
    refine nv_to (G (80 + dk)) (congrArg nI ((hR.d9 (d := dk) (by rw [zq0]; omega)))) ?_
    refine nv_if_eq (tgt := 32) hx hb dX6_faultOfShut_25 (by decide) (by omega) (fun c2 => ?_) (fun c2 => ?_)
    · refine lv_aload_n hx hb dX6_faultOfShut_32 rfl (lv_at hl 0 rfl) ?_
      refine lv_iconst (v := nI 5) hx hb dX6_faultOfShut_33 (by decide) ?_
      refine lv_aload_n hx hb dX6_faultOfShut_34 rfl (lv_at hl 0 rfl) ?_
      refine va_get (D := D) (ci := 8) (v := .ref ((cAd AD 1) 0)) (C := RX6) (T := TX6) (N := 11) hx hb hts in_X6 hown hK.1 hPo 0 rfl rfl 0 (by decide) fl_10 (fun _ h9 => h9) rfl dX6_faultOfShut_35 ?_
      refine nv_kS (va_runV (As := []) (rest := [.int (nI 5), .ref (AD 0)]) ⟨hx, hb, hml, hown, hts⟩ (c_X1_openDoors l hR hG) (cwV 0 hts gX6_faultOfShut_X1_openDoors rfl rfl rfl (by decide +kernel) ⟨Nat.le_of_ble_eq_true rfl, Nat.le_of_ble_eq_true rfl⟩) (nt_pV hT hS hPh (va_recv hK.1 hPh (ci := 3) (q0 := 0) rfl rfl)) rfl rfl hl.1 rfl (lv_room (Nat.le_of_ble_eq_true rfl)) dX6_faultOfShut_38 ⟨Nat.zero_le _, Nat.zero_le _⟩) ?_
      refine nv_kG (va_runV (As := [.int (nI 5), .int (nI (gMany G 80))]) (rest := []) ⟨hx, hb, hml, hown, hts⟩ (c_X6_refuse l (fun _ => cD_of (b := 0) (n := 1) hI cAt_1 (by decide)) 5 (nI (gMany G 80))) (cwV 2 hts gX6_faultOfShut_X6_refuse rfl rfl rfl (by decide +kernel) ⟨Nat.le_of_ble_eq_true rfl, Nat.le_of_ble_eq_true rfl⟩) (nt_pVn hT hS (cRg_A hAA (by decide)) hPo (va_recv hK.1 hPo (ci := 8) (q0 := 0) rfl rfl)) rfl rfl hl.1 rfl (lv_room (Nat.le_of_ble_eq_true rfl)) dX6_faultOfShut_41 ⟨Nat.zero_le _, Nat.zero_le _⟩) hS (cRg_A hAA (by decide)) (fun H locs hP1 hK1 hS => ?_)
      have hPo : va_P D vwCl (cOb AD (hs) (5) (nI (gMany G 80)) (ea) (ra)) H := hP1
      have hPh := (cOn_P (cAt_hw 1)).keep hI hK1 hPh (Or.inr (by decide)) (by decide) (by decide)
      have hJ0 := hJ.keep hI hK1 hJ0 (Or.inr (by decide)) (by decide) (by decide)
      exact nv_retG hq hx hb hr hlocks (nar_i _) (by unfold vShut; simp only [et_dk]; rw [if_neg (fun z => z c1), if_pos (by omega)]; rfl) hS (by unfold vShut; simp only [et_dk]; rw [if_neg (fun z => z c1), if_pos (by omega)]; exact ⟨hPo, hPh, hJ0⟩) dX6_faultOfShut_44
    · refine lv_iconst (v := nI 0) hx hb dX6_faultOfShut_28 (by decide) ?_
      refine lv_goto (tgt := 44) hx hb dX6_faultOfShut_29 (by decide) ?_
      exact nv_retG hq hx hb hr hlocks (nar_i _) (by unfold vShut; simp only [et_dk]; rw [if_neg (fun z => z c1), if_neg (by omega)]; rfl) hS (by unfold vShut; simp only [et_dk]; rw [if_neg (fun z => z c1), if_neg (by omega)]; exact ⟨hPo, hPh, hJ0⟩) dX6_faultOfShut_44
  · refine lv_iconst (v := nI 2) hx hb dX6_faultOfShut_11 (by decide) ?_
    exact nv_retG hq hx hb hr hlocks (nar_i _) (by unfold vShut; rw [if_pos c1]; rfl) hS (by unfold vShut; rw [if_pos c1]; exact ⟨hPo, hPh, hJ0⟩) dX6_faultOfShut_12

set_option maxHeartbeats 1000000 in
set_option maxRecDepth 100000 in
theorem c_X6_faultOfFree (l : Launch) {D : va_G} {cI cC cD cR : ClassId} {sa : sA} {A : Nat → Prop} {AD : Nat → Nat} {u : hS} {G : Nat → Nat} {b hs wy : Nat} {ea ra wd : Int32} {J : Heap → Prop} (hR : hRel u G) (hG : gWf b G) (hI : cInj AD) (hAA : ∀ i, i < 165 → A (AD i)) (hJ : cOn AD 15 165 J) (k d : Int32) : Met l yX6_faultOfFree wsX6_faultOfFree ({ frames := 2, cells := 0, slots := 0, locals := 42 }) (va_Pc [.ref (AD 0), .int k, .int d] (tPre D [(cI, .int), (cC, .char), (cD, .object "DoorDialect$Door"), (cR, .object "DoorDialect$House")] nN sa A (fun H => va_P D vwCl (cOb AD (hs) (wy) (wd) (ea) (ra)) H ∧ va_P D vwCl (hw cI cD (cAd AD 1) u) H ∧ J H))) (gQ (nI (fC [2, 3] (vFree G k d).1)) ((fun H => va_P D vwCl (cOb AD hs (vWy (vFree G k d) wy) (vWd (vFree G k d) wd) ea ra) H ∧ va_P D vwCl (hw cI cD (cAd AD 1) u) H ∧ J H)) A) 0 0 A := by
  refine nv_met (cc := cX6_faultOfFree) (maxL := 4) (ret := (some .int)) (by decide) rfl (Nat.le_of_ble_eq_true rfl) ?_
  intro p0 e0 s m0 args below meth c0 Q hq hargs hnA hpre ls hl
  obtain ⟨hx, hb, hr, hts, hown, hlocks, hml⟩ := hnA
  obtain ⟨hP, hT⟩ := hpre
  have hK := hT.1
  have hown : s.vm.findClass RX6 = some m0.cls := hown
  obtain ⟨hPo, hPh, hJ0⟩ := hP
  have hPo : va_P D vwCl (cOb AD (hs) (wy) (wd) (ea) (ra)) s.heap := hPo
  have hPh : va_P D vwCl (hw cI cD (cAd AD 1) u) s.heap := hPh
  have hJ0 : J s.heap := hJ0
  have hl : lv_has ls 4 [(0, .ref (AD 0)), (1, .int k), (2, .int d)] := hl
  have hS : va_S A s.heap s.heap [] := va_S.rf
  have in_X0 : ∀ w ∈ wsX00, w ∈ wsX6_faultOfFree := by decide +kernel
  have in_X1 : ∀ w ∈ wsX10, w ∈ wsX6_faultOfFree := by decide +kernel
  have in_X6 : ∀ w ∈ wsX60, w ∈ wsX6_faultOfFree := by decide +kernel
  have fl_10 := hts (.fieldLink RX6 10 "DoorDialect" "house" "LDoorDialect$House;") (by decide +kernel)
  have fl_128 := hts (.fieldLink RX6 128 "DoorDialect$House" "doors" "[LDoorDialect$Door;") (by decide +kernel)
  have fl_150 := hts (.fieldLink RX6 150 "DoorDialect$Door" "wrongKnocks" "I") (by decide +kernel)
  have fl_153 := hts (.fieldLink RX6 153 "DoorDialect$Door" "isLatched" "Z") (by decide +kernel)
  have fl_247 := hts (.fieldLink RX6 247 "DoorDialect$House" "keyCount" "I") (by decide +kernel)
  obtain ⟨g_b, g_k, g_0, g_1, g_2, g_e, g_d, g_t, g_y, g_s, g_h⟩ := id hG
  have zq0 : G 0 = G 0 := rfl
  refine lv_iload_n hx hb dX6_faultOfFree_0 rfl (lv_at hl 1 rfl) ?_
  refine lv_aload_n hx hb dX6_faultOfFree_1 rfl (lv_at hl 0 rfl) ?_
  refine va_get (D := D) (ci := 8) (v := .ref ((cAd AD 1) 0)) (C := RX6) (T := TX6) (N := 11) hx hb hts in_X6 hown hK.1 hPo 0 rfl rfl 0 (by decide) fl_10 (fun _ h9 => h9) rfl dX6_faultOfFree_2 ?_
  refine va_get (D := D) (ci := 3) (v := .int (nI (hs_c u 2))) (C := RX1) (T := TX1) (N := 12) hx hb hts in_X1 hown hK.1 hPh 0 rfl rfl 7 (by decide) fl_247 (fun _ h9 => h9) rfl dX6_faultOfFree_5 ?_
  refine nv_to (G 2) (congrArg nI ((hR.c2))) ?_
  have q1 : G 2 < 2 ^ 20 := hG.lt (by first | omega | (simp only [gEndAt]; omega))
  refine nv_kS (va_runS (As := [.int k, .int (nI (G 2))]) (rest := []) ⟨hx, hb, hml, hown, hts⟩ (c_X6_isBelow l (k) (G 2) (by omega)) (va_cwS 2 hts gX6_faultOfFree_X6_isBelow rfl rfl rfl (by decide +kernel) ⟨Nat.le_of_ble_eq_true rfl, Nat.le_of_ble_eq_true rfl⟩) (nt_pS hT hS trivial) rfl rfl hl.1 rfl (lv_room (Nat.le_of_ble_eq_true rfl)) dX6_faultOfFree_8 ⟨Nat.zero_le _, Nat.zero_le _⟩) ?_
  refine nv_ifb_eq (tgt := 25) hx hb dX6_faultOfFree_11 (by decide) (fun c2 => ?_) (fun c2 => ?_)
  · refine lv_iconst (v := nI 2) hx hb dX6_faultOfFree_25 (by decide) ?_
    exact nv_retG hq hx hb hr hlocks (nar_i _) (by unfold vFree; rw [if_pos (Or.inl c2)]; rfl) hS (by unfold vFree; rw [if_pos (Or.inl c2)]; exact ⟨hPo, hPh, hJ0⟩) dX6_faultOfFree_26
  · obtain ⟨kk, h_kk, rfl⟩ := iR_of c2 (by omega)
    have et_kk : tN (nI kk) = kk := tN_nI (by omega)
    refine lv_aload_n hx hb dX6_faultOfFree_14 rfl (lv_at hl 0 rfl) ?_
    refine va_get (D := D) (ci := 8) (v := .ref ((cAd AD 1) 0)) (C := RX6) (T := TX6) (N := 11) hx hb hts in_X6 hown hK.1 hPo 0 rfl rfl 0 (by decide) fl_10 (fun _ h9 => h9) rfl dX6_faultOfFree_15 ?_
    refine lv_iload_n hx hb dX6_faultOfFree_18 rfl (lv_at hl 2 rfl) ?_
    refine nv_kS (va_runV (As := [.int d]) (rest := []) ⟨hx, hb, hml, hown, hts⟩ (c_X1_isDoor l hR hG (d)) (cwV 1 hts gX6_faultOfFree_X1_isDoor rfl rfl rfl (by decide +kernel) ⟨Nat.le_of_ble_eq_true rfl, Nat.le_of_ble_eq_true rfl⟩) (nt_pV hT hS hPh (va_recv hK.1 hPh (ci := 3) (q0 := 0) rfl rfl)) rfl rfl hl.1 rfl (lv_room (Nat.le_of_ble_eq_true rfl)) dX6_faultOfFree_19 ⟨Nat.zero_le _, Nat.zero_le _⟩) ?_
    refine nv_ifb_ne (tgt := 27) hx hb dX6_faultOfFree_22 (by decide) (fun c3 => ?_) (fun c3 => ?_)
    · obtain ⟨dk, h_dk, rfl⟩ := iR_of c3 (by omega)
      have et_dk : tN (nI dk) = dk := tN_nI (by omega)
      obtain ⟨w_a, w_g, w_n, w_s, w_w, w_l, w_o, w_x, w_y, w_1, w_2, w_3, w_4⟩ := hG.door (d := dk) (by omega)
      refine lv_aload_n hx hb dX6_faultOfFree_27 rfl (lv_at hl 0 rfl) ?_
      refine va_get (D := D) (ci := 8) (v := .ref ((cAd AD 1) 0)) (C := RX6) (T := TX6) (N := 11) hx hb hts in_X6 hown hK.1 hPo 0 rfl rfl 0 (by decide) fl_10 (fun _ h9 => h9) rfl dX6_faultOfFree_28 ?_
      refine va_get (D := D) (ci := 3) (v := .ref ((cAd AD 1) 1)) (C := RX1) (T := TX1) (N := 12) hx hb hts in_X1 hown hK.1 hPh 0 rfl rfl 0 (by decide) fl_128 (fun _ h9 => h9) rfl dX6_faultOfFree_31 ?_
      refine lv_iload_n hx hb dX6_faultOfFree_34 rfl (lv_at hl 2 rfl) ?_
      refine nv_aldq (i := dk) hx hb hK.1 hPh 1 2 rfl rfl (by omega) (by decide) dX6_faultOfFree_35 ?_
      refine va_get (D := D) (ci := 2) (v := .int (nI (hs_d u (dk) 8))) (C := RX0) (T := TX0) (N := 10) hx hb hts in_X0 hown hK.1 hPh (6 + (dk)) (hw_at (dk) (by omega)) rfl 8 (by decide) fl_153 (fun _ h9 => h9) rfl dX6_faultOfFree_36 ?_
      refine nv_to (G (72 + dk)) (congrArg nI ((hR.d8 (d := dk) (by rw [zq0]; omega)))) ?_
      have q4 : G (72 + dk) < 2 ^ 20 := hG.lt (by first | omega | (simp only [gEndAt]; omega))
      refine nv_if_ne (tgt := 61) hx hb dX6_faultOfFree_39 (by decide) (by omega) (fun c5 => ?_) (fun c5 => ?_)
      · refine lv_aload_n hx hb dX6_faultOfFree_61 rfl (lv_at hl 0 rfl) ?_
        refine va_get (D := D) (ci := 8) (v := .ref ((cAd AD 1) 0)) (C := RX6) (T := TX6) (N := 11) hx hb hts in_X6 hown hK.1 hPo 0 rfl rfl 0 (by decide) fl_10 (fun _ h9 => h9) rfl dX6_faultOfFree_62 ?_
        refine lv_iload_n hx hb dX6_faultOfFree_65 rfl (lv_at hl 1 rfl) ?_
        refine lv_iload_n hx hb dX6_faultOfFree_66 rfl (lv_at hl 2 rfl) ?_
        refine nv_kS (va_runV (As := [.int (nI kk), .int (nI dk)]) (rest := []) ⟨hx, hb, hml, hown, hts⟩ (c_X1_fit l hR hG kk dk (by omega) (by omega)) (cwV 2 hts gX6_faultOfFree_X1_fit rfl rfl rfl (by decide +kernel) ⟨Nat.le_of_ble_eq_true rfl, Nat.le_of_ble_eq_true rfl⟩) (nt_pV hT hS hPh (va_recv hK.1 hPh (ci := 3) (q0 := 0) rfl rfl)) rfl rfl hl.1 rfl (lv_room (Nat.le_of_ble_eq_true rfl)) dX6_faultOfFree_67 ⟨Nat.zero_le _, Nat.zero_le _⟩) ?_
        refine lv_istore_n (lv' := [(3, .int (nI (gFit G kk (G (32 + dk)) (G (40 + dk))))), (0, .ref (AD 0)), (1, .int (nI kk)), (2, .int (nI dk))]) hx hb dX6_faultOfFree_70 rfl hl (by decide) rfl (fun ls hl => ?_)
        refine lv_iload_n hx hb dX6_faultOfFree_71 rfl (lv_at hl 0 rfl) ?_
        refine lv_iconst (v := nI 2) hx hb dX6_faultOfFree_72 (by decide) ?_
        have hfl9 := gFit_le G kk (G (32 + dk)) (G (40 + dk))
        refine nv_icmp_ne (tgt := 80) hx hb dX6_faultOfFree_73 (by decide) (by first | decide | exact gFit_lt _ _ _ _) (by first | decide | exact gFit_lt _ _ _ _) (fun c6 => ?_) (fun c6 => ?_)
        · refine lv_aload_n hx hb dX6_faultOfFree_80 rfl (lv_at hl 1 rfl) ?_
          refine lv_bipush (v := nI 7) hx hb dX6_faultOfFree_81 (by decide) ?_
          refine lv_iload_n hx hb dX6_faultOfFree_83 rfl (lv_at hl 0 rfl) ?_
          refine nv_kG (va_runV (As := [.int (nI 7), .int (nI (gFit G kk (G (32 + dk)) (G (40 + dk))))]) (rest := []) ⟨hx, hb, hml, hown, hts⟩ (c_X6_refuse l (fun _ => cD_of (b := 0) (n := 1) hI cAt_1 (by decide)) 7 (nI (gFit G kk (G (32 + dk)) (G (40 + dk))))) (cwV 2 hts gX6_faultOfFree_X6_refuse rfl rfl rfl (by decide +kernel) ⟨Nat.le_of_ble_eq_true rfl, Nat.le_of_ble_eq_true rfl⟩) (nt_pVn hT hS (cRg_A hAA (by decide)) hPo (va_recv hK.1 hPo (ci := 8) (q0 := 0) rfl rfl)) rfl rfl hl.1 rfl (lv_room (Nat.le_of_ble_eq_true rfl)) dX6_faultOfFree_84 ⟨Nat.zero_le _, Nat.zero_le _⟩) hS (cRg_A hAA (by decide)) (fun H locs hP1 hK1 hS => ?_)
          have hPo : va_P D vwCl (cOb AD (hs) (7) (nI (gFit G kk (G (32 + dk)) (G (40 + dk)))) (ea) (ra)) H := hP1
          have hPh := (cOn_P (cAt_hw 1)).keep hI hK1 hPh (Or.inr (by decide)) (by decide) (by decide)
          have hJ0 := hJ.keep hI hK1 hJ0 (Or.inr (by decide)) (by decide) (by decide)
          exact nv_retG hq hx hb hr hlocks (nar_i _) (by unfold vFree; simp only [et_kk, et_dk]; rw [if_neg (fun q => q.elim (fun z => z c2) (fun z => z c3)), if_neg (by omega), if_pos (by omega)]; rfl) hS (by unfold vFree; simp only [et_kk, et_dk]; rw [if_neg (fun q => q.elim (fun z => z c2) (fun z => z c3)), if_neg (by omega), if_pos (by omega)]; exact ⟨hPo, hPh, hJ0⟩) dX6_faultOfFree_87
        · refine lv_iconst (v := nI 0) hx hb dX6_faultOfFree_76 (by decide) ?_
          refine lv_goto (tgt := 87) hx hb dX6_faultOfFree_77 (by decide) ?_
          exact nv_retG hq hx hb hr hlocks (nar_i _) (by unfold vFree; simp only [et_kk, et_dk]; rw [if_neg (fun q => q.elim (fun z => z c2) (fun z => z c3)), if_neg (by omega), if_neg (by omega)]; rfl) hS (by unfold vFree; simp only [et_kk, et_dk]; rw [if_neg (fun q => q.elim (fun z => z c2) (fun z => z c3)), if_neg (by omega), if_neg (by omega)]; exact ⟨hPo, hPh, hJ0⟩) dX6_faultOfFree_87
      · refine lv_aload_n hx hb dX6_faultOfFree_42 rfl (lv_at hl 0 rfl) ?_
        refine lv_bipush (v := nI 6) hx hb dX6_faultOfFree_43 (by decide) ?_
        refine lv_aload_n hx hb dX6_faultOfFree_45 rfl (lv_at hl 0 rfl) ?_
        refine va_get (D := D) (ci := 8) (v := .ref ((cAd AD 1) 0)) (C := RX6) (T := TX6) (N := 11) hx hb hts in_X6 hown hK.1 hPo 0 rfl rfl 0 (by decide) fl_10 (fun _ h9 => h9) rfl dX6_faultOfFree_46 ?_
        refine va_get (D := D) (ci := 3) (v := .ref ((cAd AD 1) 1)) (C := RX1) (T := TX1) (N := 12) hx hb hts in_X1 hown hK.1 hPh 0 rfl rfl 0 (by decide) fl_128 (fun _ h9 => h9) rfl dX6_faultOfFree_49 ?_
        refine lv_iload_n hx hb dX6_faultOfFree_52 rfl (lv_at hl 2 rfl) ?_
        refine nv_aldq (i := dk) hx hb hK.1 hPh 1 2 rfl rfl (by omega) (by decide) dX6_faultOfFree_53 ?_
        refine va_get (D := D) (ci := 2) (v := .int (nI (hs_d u (dk) 6))) (C := RX0) (T := TX0) (N := 10) hx hb hts in_X0 hown hK.1 hPh (6 + (dk)) (hw_at (dk) (by omega)) rfl 6 (by decide) fl_150 (fun _ h9 => h9) rfl dX6_faultOfFree_54 ?_
        refine nv_to (G (64 + dk)) (congrArg nI ((hR.d6 (d := dk) (by rw [zq0]; omega)))) ?_
        have q7 : G (64 + dk) < 2 ^ 20 := hG.lt (by first | omega | (simp only [gEndAt]; omega))
        refine nv_kG (va_runV (As := [.int (nI 6), .int (nI (G (64 + dk)))]) (rest := []) ⟨hx, hb, hml, hown, hts⟩ (c_X6_refuse l (fun _ => cD_of (b := 0) (n := 1) hI cAt_1 (by decide)) 6 (nI (G (64 + dk)))) (cwV 2 hts gX6_faultOfFree_X6_refuse rfl rfl rfl (by decide +kernel) ⟨Nat.le_of_ble_eq_true rfl, Nat.le_of_ble_eq_true rfl⟩) (nt_pVn hT hS (cRg_A hAA (by decide)) hPo (va_recv hK.1 hPo (ci := 8) (q0 := 0) rfl rfl)) rfl rfl hl.1 rfl (lv_room (Nat.le_of_ble_eq_true rfl)) dX6_faultOfFree_57 ⟨Nat.zero_le _, Nat.zero_le _⟩) hS (cRg_A hAA (by decide)) (fun H locs hP1 hK1 hS => ?_)
        have hPo : va_P D vwCl (cOb AD (hs) (6) (nI (G (64 + dk))) (ea) (ra)) H := hP1
        have hPh := (cOn_P (cAt_hw 1)).keep hI hK1 hPh (Or.inr (by decide)) (by decide) (by decide)
        have hJ0 := hJ.keep hI hK1 hJ0 (Or.inr (by decide)) (by decide) (by decide)
        exact nv_retG hq hx hb hr hlocks (nar_i _) (by unfold vFree; simp only [et_kk, et_dk]; rw [if_neg (fun q => q.elim (fun z => z c2) (fun z => z c3)), if_pos (by omega)]; rfl) hS (by unfold vFree; simp only [et_kk, et_dk]; rw [if_neg (fun q => q.elim (fun z => z c2) (fun z => z c3)), if_pos (by omega)]; exact ⟨hPo, hPh, hJ0⟩) dX6_faultOfFree_60
    · refine lv_iconst (v := nI 2) hx hb dX6_faultOfFree_25 (by decide) ?_
      exact nv_retG hq hx hb hr hlocks (nar_i _) (by unfold vFree; simp only [et_kk]; rw [if_pos (Or.inr c3)]; rfl) hS (by unfold vFree; simp only [et_kk]; rw [if_pos (Or.inr c3)]; exact ⟨hPo, hPh, hJ0⟩) dX6_faultOfFree_26
