set_option maxHeartbeats 1000000 in
set_option maxRecDepth 100000 in
theorem c_X2_patternOf (l : Launch) {D : va_G} {cI cC cD cR : ClassId} {sa : sA} {A : Nat → Prop} (k : Nat) (hk : k < 9) : Met l yX2_patternOf wsX2_patternOf ({ frames := 0, cells := 0, slots := 0, locals := 0 }) (va_Pc [.int (nI k)] (tPre D [(cI, .int), (cC, .char), (cD, .object "DoorDialect$Door"), (cR, .object "DoorDialect$House")] nN sa A (fun _ => True))) (sQr (sa.1 (4 + k))) 0 0 (fun _ => False) := by
  refine nv_met (cc := cX2_patternOf) (maxL := 1) (ret := (some (.object "java/lang/String"))) (by decide) rfl (Nat.le_of_ble_eq_true rfl) ?_
  intro p0 e0 s m0 args below meth c0 Q hq hargs hnA hpre ls hl
  obtain ⟨hx, hb, hr, hts, hown, hlocks, hml⟩ := hnA
  obtain ⟨hP, hT⟩ := hpre
  have hK := hT.1
  have hown : s.vm.findClass RX2 = some m0.cls := hown
  have hl : lv_has ls 1 [(0, .int (nI k))] := hl
  have hS : va_S A s.heap s.heap [] := va_S.rf
  rcases (show k = 0 ∨ k = 1 ∨ k = 2 ∨ k = 3 ∨ k = 4 ∨ k = 5 ∨ k = 6 ∨ k = 7 ∨ k = 8 by omega) with rfl | rfl | rfl | rfl | rfl | rfl | rfl | rfl | rfl
  · refine lv_iload_n hx hb dX2_patternOf_0 rfl (lv_at hl 0 rfl) ?_
    refine lv_tableIn (off := 47) (tgt := 48) hx hb dX2_patternOf_1 (by decide +kernel) (by decide +kernel) rfl (by decide) ?_
    refine va_ldcS hx hb hown (hT.2.2.1 (RX2, 70, "door#GN##", 4) (by decide +kernel)) dX2_patternOf_48 ?_
    exact nv_retSr hq hx hb hr hlocks dX2_patternOf_50
  · refine lv_iload_n hx hb dX2_patternOf_0 rfl (lv_at hl 0 rfl) ?_
    refine lv_tableIn (off := 50) (tgt := 51) hx hb dX2_patternOf_1 (by decide +kernel) (by decide +kernel) rfl (by decide) ?_
    refine va_ldcS hx hb hown (hT.2.2.1 (RX2, 72, "sillC", 5) (by decide +kernel)) dX2_patternOf_51 ?_
    exact nv_retSr hq hx hb hr hlocks dX2_patternOf_53
  · refine lv_iload_n hx hb dX2_patternOf_0 rfl (lv_at hl 0 rfl) ?_
    refine lv_tableIn (off := 53) (tgt := 54) hx hb dX2_patternOf_1 (by decide +kernel) (by decide +kernel) rfl (by decide) ?_
    refine va_ldcS hx hb hown (hT.2.2.1 (RX2, 74, "govern#C", 6) (by decide +kernel)) dX2_patternOf_54 ?_
    exact nv_retSr hq hx hb hr hlocks dX2_patternOf_56
  · refine lv_iload_n hx hb dX2_patternOf_0 rfl (lv_at hl 0 rfl) ?_
    refine lv_tableIn (off := 56) (tgt := 57) hx hb dX2_patternOf_1 (by decide +kernel) (by decide +kernel) rfl (by decide) ?_
    refine va_ldcS hx hb hown (hT.2.2.1 (RX2, 76, "set#@T", 7) (by decide +kernel)) dX2_patternOf_57 ?_
    exact nv_retSr hq hx hb hr hlocks dX2_patternOf_59
  · refine lv_iload_n hx hb dX2_patternOf_0 rfl (lv_at hl 0 rfl) ?_
    refine lv_tableIn (off := 59) (tgt := 60) hx hb dX2_patternOf_1 (by decide +kernel) (by decide +kernel) rfl (by decide) ?_
    refine va_ldcS hx hb hown (hT.2.2.1 (RX2, 78, "end#CN=E", 8) (by decide +kernel)) dX2_patternOf_60 ?_
    exact nv_retSr hq hx hb hr hlocks dX2_patternOf_62
  · refine lv_iload_n hx hb dX2_patternOf_0 rfl (lv_at hl 0 rfl) ?_
    refine lv_tableIn (off := 62) (tgt := 63) hx hb dX2_patternOf_1 (by decide +kernel) (by decide +kernel) rfl (by decide) ?_
    refine va_ldcS hx hb hown (hT.2.2.1 (RX2, 80, "key#G", 9) (by decide +kernel)) dX2_patternOf_63 ?_
    exact nv_retSr hq hx hb hr hlocks dX2_patternOf_65
  · refine lv_iload_n hx hb dX2_patternOf_0 rfl (lv_at hl 0 rfl) ?_
    refine lv_tableIn (off := 65) (tgt := 66) hx hb dX2_patternOf_1 (by decide +kernel) (by decide +kernel) rfl (by decide) ?_
    refine va_ldcS hx hb hown (hT.2.2.1 (RX2, 82, "knock#:GNC", 10) (by decide +kernel)) dX2_patternOf_66 ?_
    exact nv_retSr hq hx hb hr hlocks dX2_patternOf_68
  · refine lv_iload_n hx hb dX2_patternOf_0 rfl (lv_at hl 0 rfl) ?_
    refine lv_tableIn (off := 68) (tgt := 69) hx hb dX2_patternOf_1 (by decide +kernel) (by decide +kernel) rfl (by decide) ?_
    refine va_ldcS hx hb hown (hT.2.2.1 (RX2, 84, "shut#", 11) (by decide +kernel)) dX2_patternOf_69 ?_
    exact nv_retSr hq hx hb hr hlocks dX2_patternOf_71
  · refine lv_iload_n hx hb dX2_patternOf_0 rfl (lv_at hl 0 rfl) ?_
    refine lv_tableOut (tgt := 72) hx hb dX2_patternOf_1 (by decide +kernel) (by decide) ?_
    refine va_ldcS hx hb hown (hT.2.2.1 (RX2, 86, "free#>#", 12) (by decide +kernel)) dX2_patternOf_72 ?_
    exact nv_retSr hq hx hb hr hlocks dX2_patternOf_74

set_option maxHeartbeats 1000000 in
set_option maxRecDepth 100000 in
theorem c_X2_endOfMatch (l : Launch) {D : va_G} {cI cC cD cR : ClassId} {sa : sA} {A : Nat → Prop} {x : Nat → Nat} {V : Nat → Int32} {SA : Nat → Nat} {o pl ty vc : Nat} (hD : ∀ V S fs, va_D A [(x 0, .inr (4, fs)), (x 1, .inl (cI, 5, .inl V)), (x 2, .inl (cC, 60, .inl (gN S)))]) (hty : ty ≤ 60) (hS7 : ∀ i, i < ty → SA i < 128) (hpl : pl ≤ ty) (k : Nat) (hk9 : k < 9) : Met l yX2_endOfMatch wsX2_endOfMatch ({ frames := 6, cells := 0, slots := 0, locals := 135 }) (va_Pc [.ref (x 0), .ref (sa.1 (4 + k))] (tPre D [(cI, .int), (cC, .char), (cD, .object "DoorDialect$Door"), (cR, .object "DoorDialect$House")] nN sa A (fun H => va_P D vwCl [(x 0, .inr (4, [.ref (x 1), .int (nI o), .int (nI pl), .int (nI ty), .ref (x 2), .int (nI vc)])), (x 1, .inl (cI, 5, .inl V)), (x 2, .inl (cC, 60, .inl (gN SA)))] H))) (gQ (nI ((eM SA ty pl k).1)) ((fun H => ∃ V1 vc1, ((eM SA ty pl k).2 = 0 → V1 = (go SA ty (pat k) (pl, 0) V 0).2) ∧ va_P D vwCl (iw cI cC x (V1) (SA) (o) (pl) (ty) (vc1)) H)) A) 0 0 A := by
  refine nv_met (cc := cX2_endOfMatch) (maxL := 4) (ret := (some .int)) (by decide) rfl (Nat.le_of_ble_eq_true rfl) ?_
  intro p0 e0 s m0 args below meth c0 Q hq hargs hnA hpre ls hl
  obtain ⟨hx, hb, hr, hts, hown, hlocks, hml⟩ := hnA
  obtain ⟨hP, hT⟩ := hpre
  have hK := hT.1
  have hown : s.vm.findClass RX2 = some m0.cls := hown
  have hP : va_P D vwCl [(x 0, .inr (4, [.ref (x 1), .int (nI o), .int (nI pl), .int (nI ty), .ref (x 2), .int (nI vc)])), (x 1, .inl (cI, 5, .inl V)), (x 2, .inl (cC, 60, .inl (gN SA)))] s.heap := hP
  have hl : lv_has ls 4 [(0, .ref (x 0)), (1, .ref (sa.1 (4 + k)))] := hl
  have hS : va_S A s.heap s.heap [] := va_S.rf
  have in_X2 : ∀ w ∈ wsX20, w ∈ wsX2_endOfMatch := by decide +kernel
  have fl_15 := hts (.fieldLink RX2 15 "DoorDialect$Input" "signs" "[C") (by decide +kernel)
  have fl_19 := hts (.fieldLink RX2 19 "DoorDialect$Input" "length" "I") (by decide +kernel)
  have fl_23 := hts (.fieldLink RX2 23 "DoorDialect$Input" "place" "I") (by decide +kernel)
  have fl_59 := hts (.fieldLink RX2 59 "DoorDialect$Input" "valueCount" "I") (by decide +kernel)
  have hsl := sLen_lt (4 + k) (by omega)
  refine lv_aload_n hx hb dX2_endOfMatch_0 rfl (lv_at hl 0 rfl) ?_
  refine lv_iconst (v := nI 0) hx hb dX2_endOfMatch_1 (by decide) ?_
  refine va_put (D := D) (ci := 4) (v := .int (nI 0)) (ty := .int) (C := RX2) (T := TX2) (N := 6) hx hb hts in_X2 tyX2 tyX2_ok nmX2 hown hK.1 hP (hD _ _ _) hS 0 rfl rfl 5 (by decide) fl_59 (fun _ h9 => h9) rfl (by decide +kernel) rfl rfl (Nat.le_of_ble_eq_true rfl) dX2_endOfMatch_2 (fun H locs hP _ hS => ?_)
  have hP : va_P D vwCl [(x 0, .inr (4, [.ref (x 1), .int (nI o), .int (nI pl), .int (nI ty), .ref (x 2), .int (nI 0)])), (x 1, .inl (cI, 5, .inl V)), (x 2, .inl (cC, 60, .inl (gN SA)))] H := hP
  refine lv_iconst (v := nI 0) hx hb dX2_endOfMatch_5 (by decide) ?_
  refine lv_istore_n (lv' := [(2, .int (nI 0)), (0, .ref (x 0)), (1, .ref (sa.1 (4 + k)))]) hx hb dX2_endOfMatch_6 rfl hl (by decide) rfl (fun ls hl => ?_)
  have hloop1 : ∀ (nn : Nat) (j : Nat) (V1 : Nat → Int32) (vc1 : Nat), (j ≤ sLen.getD (4 + k) 0) → (rn SA ty ((pat k).take j) (pl, 0) = (pl + j, 0)) → (V1 = (go SA ty ((pat k).take j) (pl, 0) V 0).2) → (vc1 = nv9 ((pat k).take j)) → sLen.getD (4 + k) 0 - j < nn → ∀ (H : Heap) (locs : List Loc), va_P D vwCl [(x 0, .inr (4, [.ref (x 1), .int (nI o), .int (nI pl), .int (nI ty), .ref (x 2), .int (nI vc1)])), (x 1, .inl (cI, 5, .inl V1)), (x 2, .inl (cC, 60, .inl (gN SA)))] H → va_S A s.heap H locs → ∀ (ls : Array Slot), lv_has ls 4 [(2, .int (nI j)), (0, .ref (x 0)), (1, .ref (sa.1 (4 + k)))] → W p0 l e0 ({ frames := 6, cells := 0, slots := 0, locals := 135 }) s m0 args below meth c0 H locs 0 0 Q (F0 m0 7 ls []) := by
    intro nn7
    induction nn7 with
    | zero => intro j V1 vc1 hj9 hrn hVj hcj hn0 _ _ _ _ _ _; exact absurd hn0 (Nat.not_lt_zero _)
    | succ nn7 ih7 =>
      intro j V1 vc1 hj9 hrn hVj hcj hn7 H locs hP hS ls hl
      have hP : va_P D vwCl [(x 0, .inr (4, [.ref (x 1), .int (nI o), .int (nI pl), .int (nI ty), .ref (x 2), .int (nI vc1)])), (x 1, .inl (cI, 5, .inl V1)), (x 2, .inl (cC, 60, .inl (gN SA)))] H := hP
      refine lv_iload_n hx hb dX2_endOfMatch_7 rfl (lv_at hl 0 rfl) ?_
      refine lv_aload_n hx hb dX2_endOfMatch_8 rfl (lv_at hl 2 rfl) ?_
      refine nv_kS (va_runV (As := []) (rest := [.int (nI j)]) ⟨hx, hb, hml, hown, hts⟩ (c_J0_length_8abf5 l (4 + k) (by omega)) (cwV 0 hts gX2_endOfMatch_J0_length_8abf5 rfl rfl rfl (by decide +kernel) ⟨Nat.le_of_ble_eq_true rfl, Nat.le_of_ble_eq_true rfl⟩) (nt_pV hT hS trivial (vk_recv hT.2.1 (by omega) hS)) rfl rfl hl.1 rfl (lv_room (Nat.le_of_ble_eq_true rfl)) dX2_endOfMatch_9 ⟨Nat.zero_le _, Nat.zero_le _⟩) ?_
      refine nv_icmp_ge (tgt := 56) hx hb dX2_endOfMatch_12 (by decide) (by omega) (by omega) (fun c2 => ?_) (fun c2 => ?_)
      · refine lv_aload_n hx hb dX2_endOfMatch_56 rfl (lv_at hl 1 rfl) ?_
        refine va_get (D := D) (ci := 4) (v := .int (nI pl)) (C := RX2) (T := TX2) (N := 6) hx hb hts in_X2 hown hK.1 hP 0 rfl rfl 2 (by decide) fl_23 (fun _ h9 => h9) rfl dX2_endOfMatch_57 ?_
        refine lv_aload_n hx hb dX2_endOfMatch_60 rfl (lv_at hl 2 rfl) ?_
        refine nv_kS (va_runV (As := []) (rest := [.int (nI pl)]) ⟨hx, hb, hml, hown, hts⟩ (c_J0_length_8abf5 l (4 + k) (by omega)) (cwV 0 hts gX2_endOfMatch_J0_length_8abf5 rfl rfl rfl (by decide +kernel) ⟨Nat.le_of_ble_eq_true rfl, Nat.le_of_ble_eq_true rfl⟩) (nt_pV hT hS trivial (vk_recv hT.2.1 (by omega) hS)) rfl rfl hl.1 rfl (lv_room (Nat.le_of_ble_eq_true rfl)) dX2_endOfMatch_61 ⟨Nat.zero_le _, Nat.zero_le _⟩) ?_
        refine nv_iadd hx hb dX2_endOfMatch_64 ?_
        exact nv_retG hq hx hb hr hlocks (nar_i _) (by rw [em_all hk9 (show j = sLen.getD (4 + k) 0 by omega) hrn, show j = sLen.getD (4 + k) 0 by omega]) hS (⟨_, _, fun _ => by rw [hVj, List.take_of_length_le (by rw [(pat_pw k hk9).1]; omega)], hP⟩) dX2_endOfMatch_65
      · refine lv_aload_n hx hb dX2_endOfMatch_15 rfl (lv_at hl 1 rfl) ?_
        refine va_get (D := D) (ci := 4) (v := .int (nI pl)) (C := RX2) (T := TX2) (N := 6) hx hb hts in_X2 hown hK.1 hP 0 rfl rfl 2 (by decide) fl_23 (fun _ h9 => h9) rfl dX2_endOfMatch_16 ?_
        refine lv_iload_n hx hb dX2_endOfMatch_19 rfl (lv_at hl 0 rfl) ?_
        refine nv_iadd hx hb dX2_endOfMatch_20 ?_
        refine lv_istore_n (lv' := [(3, .int (nI (pl + j))), (2, .int (nI j)), (0, .ref (x 0)), (1, .ref (sa.1 (4 + k)))]) hx hb dX2_endOfMatch_21 rfl hl (by decide) rfl (fun ls hl => ?_)
        refine lv_iload_n hx hb dX2_endOfMatch_22 rfl (lv_at hl 0 rfl) ?_
        refine lv_aload_n hx hb dX2_endOfMatch_23 rfl (lv_at hl 2 rfl) ?_
        refine va_get (D := D) (ci := 4) (v := .int (nI ty)) (C := RX2) (T := TX2) (N := 6) hx hb hts in_X2 hown hK.1 hP 0 rfl rfl 3 (by decide) fl_19 (fun _ h9 => h9) rfl dX2_endOfMatch_24 ?_
        refine nv_icmp_ge (tgt := 48) hx hb dX2_endOfMatch_27 (by decide) (by omega) (by omega) (fun c3 => ?_) (fun c3 => ?_)
        · refine lv_iload_n hx hb dX2_endOfMatch_48 rfl (lv_at hl 0 rfl) ?_
          exact nv_retG hq hx hb hr hlocks (nar_i _) (by rw [em_bad hk9 (by omega) hrn (em_out c3 _)]) hS (⟨_, _, fun q => absurd q (by rw [em_bad hk9 (by omega) hrn (em_out c3 _)]; exact Nat.one_ne_zero), hP⟩) dX2_endOfMatch_49
        · have hs9 := hS7 (pl + j) (by omega)
          have hrx9 : hrx SA ty (pl + j) = nI (SA (pl + j)) := (hr_in (F := SA) c3).symm
          have hsc := sch_eq (4 + k) (by omega) j (by omega)
          refine lv_aload_n hx hb dX2_endOfMatch_30 rfl (lv_at hl 2 rfl) ?_
          refine lv_aload_n hx hb dX2_endOfMatch_31 rfl (lv_at hl 3 rfl) ?_
          refine lv_iload_n hx hb dX2_endOfMatch_32 rfl (lv_at hl 1 rfl) ?_
          refine nv_kS (va_runV (As := [.int (nI j)]) (rest := [.ref (x 0)]) ⟨hx, hb, hml, hown, hts⟩ (c_J0_charAt_5068e l (4 + k) (by omega) j (by omega)) (cwV 1 hts gX2_endOfMatch_J0_charAt_5068e rfl rfl rfl (by decide +kernel) ⟨Nat.le_of_ble_eq_true rfl, Nat.le_of_ble_eq_true rfl⟩) (nt_pV hT hS trivial (vk_recv hT.2.1 (by omega) hS)) rfl rfl hl.1 rfl (lv_room (Nat.le_of_ble_eq_true rfl)) dX2_endOfMatch_33 ⟨Nat.zero_le _, Nat.zero_le _⟩) ?_
          refine lv_aload_n hx hb dX2_endOfMatch_36 rfl (lv_at hl 2 rfl) ?_
          refine va_get (D := D) (ci := 4) (v := .ref (x 2)) (C := RX2) (T := TX2) (N := 6) hx hb hts in_X2 hown hK.1 hP 0 rfl rfl 4 (by decide) fl_15 (fun _ h9 => h9) rfl dX2_endOfMatch_37 ?_
          refine lv_iload_n hx hb dX2_endOfMatch_40 rfl (lv_at hl 0 rfl) ?_
          refine nv_cald (i := pl + j) hx hb hK.1 hP 2 1 rfl rfl (by first | omega | (simp only [gEndAt]; omega)) (by decide) dX2_endOfMatch_41 ?_
          refine nv_kG (va_runV (As := [.int (nI (sch ((4 + k)) j)), .int (nI (SA (pl + j)))]) (rest := []) ⟨hx, hb, hml, hown, hts⟩ (c_X2_takes l hD (sch ((4 + k)) j) (SA (pl + j)) (by omega) (by omega) (fun q => by rw [hcj]; exact em_vc hk9 (by omega) q)) (cwV 2 hts gX2_endOfMatch_X2_takes rfl rfl rfl (by decide +kernel) ⟨Nat.le_of_ble_eq_true rfl, Nat.le_of_ble_eq_true rfl⟩) (nt_pV hT hS hP (va_recv hK.1 hP (ci := 4) (q0 := 0) rfl rfl)) rfl rfl hl.1 rfl (lv_room (Nat.le_of_ble_eq_true rfl)) dX2_endOfMatch_42 ⟨Nat.zero_le _, Nat.zero_le _⟩) hS (fun _ h9 => h9) (fun H locs hP1 hK1 hS => ?_)
          have hP : va_P D vwCl [(x 0, .inr (4, [.ref (x 1), .int (nI o), .int (nI pl), .int (nI ty), .ref (x 2), .int (nI ((if okI (pw (sch ((4 + k)) j)) (nI (SA (pl + j))) ∧ 200 ≤ pw (sch ((4 + k)) j) then vc1 + 1 else vc1)))])), (x 1, .inl (cI, 5, .inl ((if okI (pw (sch ((4 + k)) j)) (nI (SA (pl + j))) ∧ 200 ≤ pw (sch ((4 + k)) j) then upd V1 vc1 (vI (pw (sch ((4 + k)) j)) (nI (SA (pl + j)))) else V1)))), (x 2, .inl (cC, 60, .inl (gN SA)))] H := hP1
          refine nv_ifb_ne (tgt := 50) hx hb dX2_endOfMatch_45 (by decide) (fun c4 => ?_) (fun c4 => ?_)
          · have hst := em_V (T := V) hk9 (by omega) hrn hVj hcj hrx9 c4
            refine lv_iinc (v := nI (j + 1)) (lv' := [(2, .int (nI (j + 1))), (3, .int (nI (pl + j))), (0, .ref (x 0)), (1, .ref (sa.1 (4 + k)))]) hx hb dX2_endOfMatch_50 hl (k := 1) rfl (by show nI _ + Int32.ofInt 1 = _; exact nI_add _ 1) (by decide) rfl (fun ls hl => ?_)
            refine lv_goto (tgt := 7) hx hb dX2_endOfMatch_53 (by decide) ?_
            exact ih7  (j + 1) ((if okI (pw (sch ((4 + k)) j)) (nI (SA (pl + j))) ∧ 200 ≤ pw (sch ((4 + k)) j) then upd V1 vc1 (vI (pw (sch ((4 + k)) j)) (nI (SA (pl + j)))) else V1)) ((if okI (pw (sch ((4 + k)) j)) (nI (SA (pl + j))) ∧ 200 ≤ pw (sch ((4 + k)) j) then vc1 + 1 else vc1)) ((by omega)) ((em_ok hk9 (by omega) hrn (by rw [hrx9]; exact c4))) (hst.1) (hst.2) (by omega) _ _ hP hS ls (lv_sub hl [0, 2, 3] rfl)
          · refine lv_iload_n hx hb dX2_endOfMatch_48 rfl (lv_at hl 0 rfl) ?_
            exact nv_retG hq hx hb hr hlocks (nar_i _) (by rw [em_bad hk9 (by omega) hrn (by rw [hrx9]; exact c4)]) hS (⟨_, _, fun q => absurd q (by rw [em_bad hk9 (by omega) hrn (by rw [hrx9]; exact c4)]; exact Nat.one_ne_zero), hP⟩) dX2_endOfMatch_49
  exact hloop1 _ 0 V 0 ((Nat.zero_le _)) (rfl) (rfl) (rfl) (Nat.lt_succ_self _) _ _ hP hS ls (lv_sub hl [0, 1, 2] rfl)

set_option maxHeartbeats 1000000 in
set_option maxRecDepth 100000 in
theorem c_X2_takeOrder (l : Launch) {D : va_G} {cI cC cD cR : ClassId} {sa : sA} {A : Nat → Prop} {x : Nat → Nat} {V : Nat → Int32} {SA : Nat → Nat} {o pl ty vc : Nat} (hD : ∀ V S fs, va_D A [(x 0, .inr (4, fs)), (x 1, .inl (cI, 5, .inl V)), (x 2, .inl (cC, 60, .inl (gN S)))]) (hty : ty ≤ 60) (hS7 : ∀ i, i < ty → SA i < 128) (hpl : pl ≤ ty) : Met l yX2_takeOrder wsX2_takeOrder ({ frames := 7, cells := 0, slots := 0, locals := 158 }) (va_Pc [.ref (x 0)] (tPre D [(cI, .int), (cC, .char), (cD, .object "DoorDialect$Door"), (cR, .object "DoorDialect$House")] nN sa A (fun H => va_P D vwCl [(x 0, .inr (4, [.ref (x 1), .int (nI o), .int (nI pl), .int (nI ty), .ref (x 2), .int (nI vc)])), (x 1, .inl (cI, 5, .inl V)), (x 2, .inl (cC, 60, .inl (gN SA)))] H))) (gQ (nI (bI ((oE SA ty pl).2 = 0))) ((fun H => ∃ V1 o1 vc1, ((oE SA ty pl).2 = 0 → o1 = kd SA ty pl ∧ ∀ i, i < nv9 (pat (kd SA ty pl)) → V1 i = oV SA ty pl (1 + i)) ∧ va_P D vwCl (iw cI cC x (V1) (SA) (o1) ((oE SA ty pl).1) (ty) (vc1)) H)) A) 0 0 A := by
  refine nv_met (cc := cX2_takeOrder) (maxL := 5) (ret := (some .boolean)) (by decide) rfl (Nat.le_of_ble_eq_true rfl) ?_
  intro p0 e0 s m0 args below meth c0 Q hq hargs hnA hpre ls hl
  obtain ⟨hx, hb, hr, hts, hown, hlocks, hml⟩ := hnA
  obtain ⟨hP, hT⟩ := hpre
  have hK := hT.1
  have hown : s.vm.findClass RX2 = some m0.cls := hown
  have hP : va_P D vwCl [(x 0, .inr (4, [.ref (x 1), .int (nI o), .int (nI pl), .int (nI ty), .ref (x 2), .int (nI vc)])), (x 1, .inl (cI, 5, .inl V)), (x 2, .inl (cC, 60, .inl (gN SA)))] s.heap := hP
  have hl : lv_has ls 5 [(0, .ref (x 0))] := hl
  have hS : va_S A s.heap s.heap [] := va_S.rf
  have in_X2 : ∀ w ∈ wsX20, w ∈ wsX2_takeOrder := by decide +kernel
  have fl_23 := hts (.fieldLink RX2 23 "DoorDialect$Input" "place" "I") (by decide +kernel)
  have fl_50 := hts (.fieldLink RX2 50 "DoorDialect$Input" "order" "I") (by decide +kernel)
  refine lv_aload_n hx hb dX2_takeOrder_0 rfl (lv_at hl 0 rfl) ?_
  refine va_get (D := D) (ci := 4) (v := .int (nI pl)) (C := RX2) (T := TX2) (N := 6) hx hb hts in_X2 hown hK.1 hP 0 rfl rfl 2 (by decide) fl_23 (fun _ h9 => h9) rfl dX2_takeOrder_1 ?_
  refine lv_istore_n (lv' := [(1, .int (nI pl)), (0, .ref (x 0))]) hx hb dX2_takeOrder_4 rfl hl (by decide) rfl (fun ls hl => ?_)
  refine lv_iconst (v := nI 0) hx hb dX2_takeOrder_5 (by decide) ?_
  refine lv_istore_n (lv' := [(2, .int (nI 0)), (1, .int (nI pl)), (0, .ref (x 0))]) hx hb dX2_takeOrder_6 rfl hl (by decide) rfl (fun ls hl => ?_)
  have hloop1 : ∀ (nn : Nat) (k : Nat) (V2 : Nat → Int32) (vc2 : Nat), (k ≤ 9) → (∀ j, j < k → ¬ (eM SA ty pl j).2 = 0) → 9 - k < nn → ∀ (H : Heap) (locs : List Loc), va_P D vwCl [(x 0, .inr (4, [.ref (x 1), .int (nI o), .int (nI pl), .int (nI ty), .ref (x 2), .int (nI vc2)])), (x 1, .inl (cI, 5, .inl V2)), (x 2, .inl (cC, 60, .inl (gN SA)))] H → va_S A s.heap H locs → ∀ (ls : Array Slot), lv_has ls 5 [(2, .int (nI k)), (1, .int (nI (fm SA ty pl k))), (0, .ref (x 0))] → W p0 l e0 ({ frames := 7, cells := 0, slots := 0, locals := 158 }) s m0 args below meth c0 H locs 0 0 Q (F0 m0 7 ls []) := by
    intro nn7
    induction nn7 with
    | zero => intro k V2 vc2 hk9 hnone hn0 _ _ _ _ _ _; exact absurd hn0 (Nat.not_lt_zero _)
    | succ nn7 ih7 =>
      intro k V2 vc2 hk9 hnone hn7 H locs hP hS ls hl
      have hP : va_P D vwCl [(x 0, .inr (4, [.ref (x 1), .int (nI o), .int (nI pl), .int (nI ty), .ref (x 2), .int (nI vc2)])), (x 1, .inl (cI, 5, .inl V2)), (x 2, .inl (cC, 60, .inl (gN SA)))] H := hP
      have hfm := fm_b (F := SA) (ty := ty) (sp := pl) k (by omega)
      refine lv_iload_n hx hb dX2_takeOrder_7 rfl (lv_at hl 0 rfl) ?_
      refine lv_bipush (v := nI 9) hx hb dX2_takeOrder_8 (by decide) ?_
      refine nv_icmp_ge (tgt := 65) hx hb dX2_takeOrder_10 (by decide) (by first | omega | (have := sLen_lt (4 + k) (by omega); omega)) (by first | omega | (have := sLen_lt (4 + k) (by omega); omega)) (fun c2 => ?_) (fun c2 => ?_)
      · refine lv_aload_n hx hb dX2_takeOrder_65 rfl (lv_at hl 2 rfl) ?_
        refine lv_iload_n hx hb dX2_takeOrder_66 rfl (lv_at hl 1 rfl) ?_
        refine va_put (D := D) (ci := 4) (v := .int (nI (fm SA ty pl k))) (ty := .int) (C := RX2) (T := TX2) (N := 6) hx hb hts in_X2 tyX2 tyX2_ok nmX2 hown hK.1 hP (hD _ _ _) hS 0 rfl rfl 2 (by decide) fl_23 (fun _ h9 => h9) rfl (by decide +kernel) rfl rfl (Nat.le_of_ble_eq_true rfl) dX2_takeOrder_67 (fun H locs hP _ hS => ?_)
        have hP : va_P D vwCl [(x 0, .inr (4, [.ref (x 1), .int (nI o), .int (nI (fm SA ty pl k)), .int (nI ty), .ref (x 2), .int (nI vc2)])), (x 1, .inl (cI, 5, .inl V2)), (x 2, .inl (cC, 60, .inl (gN SA)))] H := hP
        refine lv_iconst (v := nI 0) hx hb dX2_takeOrder_70 (by decide) ?_
        exact nv_retG hq hx hb hr hlocks (nar_z (by first | omega | (have := sLen_lt (4 + k) (by omega); omega))) (nv_in0 (oE_none (fun j hj => hnone j (by omega)))) hS (⟨_, _, _, fun q => absurd q (oE_none (fun j hj => hnone j (by omega))), by rw [← fm_9, ← show k = 9 by omega]; exact hP⟩) dX2_takeOrder_71
      · refine lv_iload_n hx hb dX2_takeOrder_13 rfl (lv_at hl 0 rfl) ?_
        refine nv_kSr (va_runS (As := [.int (nI k)]) (rest := []) ⟨hx, hb, hml, hown, hts⟩ (c_X2_patternOf l k (by omega)) (va_cwS 1 hts gX2_takeOrder_X2_patternOf rfl rfl rfl (by decide +kernel) ⟨Nat.le_of_ble_eq_true rfl, Nat.le_of_ble_eq_true rfl⟩) (nt_pS hT hS trivial) rfl rfl hl.1 rfl (lv_room (Nat.le_of_ble_eq_true rfl)) dX2_takeOrder_14 ⟨Nat.zero_le _, Nat.zero_le _⟩) ?_
        refine lv_astore_n (lv' := [(3, .ref (sa.1 (4 + k))), (2, .int (nI k)), (1, .int (nI (fm SA ty pl k))), (0, .ref (x 0))]) hx hb dX2_takeOrder_17 rfl hl (by decide) rfl (fun ls hl => ?_)
        refine lv_aload_n hx hb dX2_takeOrder_18 rfl (lv_at hl 3 rfl) ?_
        refine lv_aload_n hx hb dX2_takeOrder_19 rfl (lv_at hl 0 rfl) ?_
        refine nv_kG (va_runV (As := [.ref (sa.1 (4 + k))]) (rest := []) ⟨hx, hb, hml, hown, hts⟩ (c_X2_endOfMatch l hD hty hS7 hpl k (by omega)) (cwV 1 hts gX2_takeOrder_X2_endOfMatch rfl rfl rfl (by decide +kernel) ⟨Nat.le_of_ble_eq_true rfl, Nat.le_of_ble_eq_true rfl⟩) (nt_pV hT hS hP (va_recv hK.1 hP (ci := 4) (q0 := 0) rfl rfl)) rfl rfl hl.1 rfl (lv_room (Nat.le_of_ble_eq_true rfl)) dX2_takeOrder_20 ⟨Nat.zero_le _, Nat.zero_le _⟩) hS (fun _ h9 => h9) (fun H locs hP1 hK1 hS => ?_)
        obtain ⟨V1, vc1, hV1, hP⟩ := hP1
        have hP : va_P D vwCl [(x 0, .inr (4, [.ref (x 1), .int (nI o), .int (nI pl), .int (nI ty), .ref (x 2), .int (nI vc1)])), (x 1, .inl (cI, 5, .inl V1)), (x 2, .inl (cC, 60, .inl (gN SA)))] H := hP
        have hem := eM_le (F := SA) (ty := ty) (sp := pl) (k := k) (by omega)
        refine lv_istore (lv' := [(4, .int (nI ((eM SA ty pl k).1))), (3, .ref (sa.1 (4 + k))), (2, .int (nI k)), (1, .int (nI (fm SA ty pl k))), (0, .ref (x 0))]) hx hb dX2_takeOrder_23 hl (by decide) rfl (fun ls hl => ?_)
        refine lv_iload hx hb dX2_takeOrder_25 (lv_at hl 0 rfl) ?_
        refine lv_aload_n hx hb dX2_takeOrder_27 rfl (lv_at hl 4 rfl) ?_
        refine va_get (D := D) (ci := 4) (v := .int (nI pl)) (C := RX2) (T := TX2) (N := 6) hx hb hts in_X2 hown hK.1 hP 0 rfl rfl 2 (by decide) fl_23 (fun _ h9 => h9) rfl dX2_takeOrder_28 ?_
        refine lv_aload_n hx hb dX2_takeOrder_31 rfl (lv_at hl 1 rfl) ?_
        refine nv_kS (va_runV (As := []) (rest := [.int (nI pl), .int (nI ((eM SA ty pl k).1))]) ⟨hx, hb, hml, hown, hts⟩ (c_J0_length_8abf5 l (4 + k) (by omega)) (cwV 0 hts gX2_takeOrder_J0_length_8abf5 rfl rfl rfl (by decide +kernel) ⟨Nat.le_of_ble_eq_true rfl, Nat.le_of_ble_eq_true rfl⟩) (nt_pV hT hS trivial (vk_recv hT.2.1 (by omega) hS)) rfl rfl hl.1 rfl (lv_room (Nat.le_of_ble_eq_true rfl)) dX2_takeOrder_32 ⟨Nat.zero_le _, Nat.zero_le _⟩) ?_
        refine nv_iadd hx hb dX2_takeOrder_35 ?_
        refine nv_icmp_ne (tgt := 52) hx hb dX2_takeOrder_36 (by decide) (by first | omega | (have := sLen_lt (4 + k) (by omega); omega)) (by first | omega | (have := sLen_lt (4 + k) (by omega); omega)) (fun c3 => ?_) (fun c3 => ?_)
        · have hnz : ¬ (eM SA ty pl k).2 = 0 := fun q => c3 (hem.2.mp q)
          refine lv_iload_n hx hb dX2_takeOrder_52 rfl (lv_at hl 3 rfl) ?_
          refine lv_iload hx hb dX2_takeOrder_53 (lv_at hl 0 rfl) ?_
          refine nv_mmax hx hb (hml.trans hl.1.symm) hown (hts (.methodLink RX2 53 Lib.Math.max.name) (by decide +kernel)) (hts (.static Lib.Math.max.name) (by decide +kernel)) (hts (.initialized "java/lang/Math") (by decide +kernel)) (hts (.code Lib.Math.max.name Lib.Math.max.code 2 (some .int)) (by decide +kernel)) (Nat.le_of_ble_eq_true rfl) (Nat.le_of_ble_eq_true rfl) (Nat.zero_le _) (Nat.zero_le _) (by first | omega | (have := sLen_lt (4 + k) (by omega); omega)) (by first | omega | (have := sLen_lt (4 + k) (by omega); omega)) dX2_takeOrder_55 ?_
          refine nv_to (fm SA ty pl (k + 1)) rfl ?_
          refine lv_istore_n (lv' := [(1, .int (nI (fm SA ty pl (k + 1)))), (4, .int (nI ((eM SA ty pl k).1))), (3, .ref (sa.1 (4 + k))), (2, .int (nI k)), (0, .ref (x 0))]) hx hb dX2_takeOrder_58 rfl hl (by decide) rfl (fun ls hl => ?_)
          refine lv_iinc (v := nI (k + 1)) (lv' := [(2, .int (nI (k + 1))), (1, .int (nI (fm SA ty pl (k + 1)))), (4, .int (nI ((eM SA ty pl k).1))), (3, .ref (sa.1 (4 + k))), (0, .ref (x 0))]) hx hb dX2_takeOrder_59 hl (k := 3) rfl (by show nI _ + Int32.ofInt 1 = _; exact nI_add _ 1) (by decide) rfl (fun ls hl => ?_)
          refine lv_goto (tgt := 7) hx hb dX2_takeOrder_62 (by decide) ?_
          exact ih7  (k + 1) V1 vc1 ((by omega)) ((fun j hj => by rcases (show j < k ∨ j = k by omega) with h | h; exact hnone j h; subst h; exact hnz)) (by omega) _ _ hP hS ls (lv_sub hl [0, 1, 4] rfl)
        · have hz0 := hem.2.mpr c3
          have hht := oE_hit (F := SA) (ty := ty) (sp := pl) (k := k) (by omega) hz0
          refine lv_aload_n hx hb dX2_takeOrder_39 rfl (lv_at hl 4 rfl) ?_
          refine lv_iload_n hx hb dX2_takeOrder_40 rfl (lv_at hl 2 rfl) ?_
          refine va_put (D := D) (ci := 4) (v := .int (nI k)) (ty := .int) (C := RX2) (T := TX2) (N := 6) hx hb hts in_X2 tyX2 tyX2_ok nmX2 hown hK.1 hP (hD _ _ _) hS 0 rfl rfl 1 (by decide) fl_50 (fun _ h9 => h9) rfl (by decide +kernel) rfl rfl (Nat.le_of_ble_eq_true rfl) dX2_takeOrder_41 (fun H locs hP _ hS => ?_)
          have hP : va_P D vwCl [(x 0, .inr (4, [.ref (x 1), .int (nI k), .int (nI pl), .int (nI ty), .ref (x 2), .int (nI vc1)])), (x 1, .inl (cI, 5, .inl V1)), (x 2, .inl (cC, 60, .inl (gN SA)))] H := hP
          refine lv_aload_n hx hb dX2_takeOrder_44 rfl (lv_at hl 4 rfl) ?_
          refine lv_iload hx hb dX2_takeOrder_45 (lv_at hl 0 rfl) ?_
          refine va_put (D := D) (ci := 4) (v := .int (nI ((eM SA ty pl k).1))) (ty := .int) (C := RX2) (T := TX2) (N := 6) hx hb hts in_X2 tyX2 tyX2_ok nmX2 hown hK.1 hP (hD _ _ _) hS 0 rfl rfl 2 (by decide) fl_23 (fun _ h9 => h9) rfl (by decide +kernel) rfl rfl (Nat.le_of_ble_eq_true rfl) dX2_takeOrder_47 (fun H locs hP _ hS => ?_)
          have hP : va_P D vwCl [(x 0, .inr (4, [.ref (x 1), .int (nI k), .int (nI ((eM SA ty pl k).1)), .int (nI ty), .ref (x 2), .int (nI vc1)])), (x 1, .inl (cI, 5, .inl V1)), (x 2, .inl (cC, 60, .inl (gN SA)))] H := hP
          refine lv_iconst (v := nI 1) hx hb dX2_takeOrder_50 (by decide) ?_
          exact nv_retG hq hx hb hr hlocks (nar_z (by first | omega | (have := sLen_lt (4 + k) (by omega); omega))) (nv_in1 (by rw [hht.2]; exact hz0)) hS (⟨V1, _, _, fun _ => ⟨hht.1.symm, fun i hi => by rw [hht.1] at hi; rw [hV1 hz0]; exact (by have h9 := oV_go (F := SA) (ty := ty) (sp := pl) (T := V2) (by rw [hht.1]; omega) (i := i) (by rw [hht.1]; exact hi); rw [hht.1] at h9; exact h9)⟩, by rw [hht.2]; exact hP⟩) dX2_takeOrder_51
  exact hloop1 _ 0 V vc ((Nat.zero_le _)) ((fun j hj => absurd hj (Nat.not_lt_zero j))) (Nat.lt_succ_self _) _ _ hP hS ls (lv_sub hl [0, 1, 2] rfl)

theorem oL_k {F : Nat → Nat} {ty n : Nat} (h : kL F ty = n) : oL F ty = oE F ty (sn F ty n) := by
  show oE F ty (sn F ty (kL F ty)) = _
  rw [h]

set_option maxHeartbeats 1000000 in
set_option maxRecDepth 100000 in
theorem c_X2_countOrders (l : Launch) {D : va_G} {cI cC cD cR : ClassId} {sa : sA} {A : Nat → Prop} {x : Nat → Nat} {V : Nat → Int32} {SA : Nat → Nat} {o pl ty vc : Nat} (hD : ∀ V S fs, va_D A [(x 0, .inr (4, fs)), (x 1, .inl (cI, 5, .inl V)), (x 2, .inl (cC, 60, .inl (gN S)))]) (hty : ty ≤ 60) (hS7 : ∀ i, i < ty → SA i < 128)  : Met l yX2_countOrders wsX2_countOrders ({ frames := 8, cells := 0, slots := 0, locals := 182 }) (va_Pc [.ref (x 0)] (tPre D [(cI, .int), (cC, .char), (cD, .object "DoorDialect$Door"), (cR, .object "DoorDialect$House")] nN sa A (fun H => va_P D vwCl [(x 0, .inr (4, [.ref (x 1), .int (nI o), .int (nI pl), .int (nI ty), .ref (x 2), .int (nI vc)])), (x 1, .inl (cI, 5, .inl V)), (x 2, .inl (cC, 60, .inl (gN SA)))] H))) (gQ ((if mal SA ty then -1 else nI (kL SA ty + 1))) ((fun H => ∃ V1 o1 vc1, va_P D vwCl (iw cI cC x (V1) (SA) (o1) ((oL SA ty).1) (ty) (vc1)) H)) A) 0 0 A := by
  refine nv_met (cc := cX2_countOrders) (maxL := 2) (ret := (some .int)) (by decide) rfl (Nat.le_of_ble_eq_true rfl) ?_
  intro p0 e0 s m0 args below meth c0 Q hq hargs hnA hpre ls hl
  obtain ⟨hx, hb, hr, hts, hown, hlocks, hml⟩ := hnA
  obtain ⟨hP, hT⟩ := hpre
  have hK := hT.1
  have hown : s.vm.findClass RX2 = some m0.cls := hown
  have hP : va_P D vwCl [(x 0, .inr (4, [.ref (x 1), .int (nI o), .int (nI pl), .int (nI ty), .ref (x 2), .int (nI vc)])), (x 1, .inl (cI, 5, .inl V)), (x 2, .inl (cC, 60, .inl (gN SA)))] s.heap := hP
  have hl : lv_has ls 2 [(0, .ref (x 0))] := hl
  have hS : va_S A s.heap s.heap [] := va_S.rf
  have in_X2 : ∀ w ∈ wsX20, w ∈ wsX2_countOrders := by decide +kernel
  have fl_19 := hts (.fieldLink RX2 19 "DoorDialect$Input" "length" "I") (by decide +kernel)
  have fl_23 := hts (.fieldLink RX2 23 "DoorDialect$Input" "place" "I") (by decide +kernel)
  refine lv_aload_n hx hb dX2_countOrders_0 rfl (lv_at hl 0 rfl) ?_
  refine nv_kGv (va_runV (As := []) (rest := []) ⟨hx, hb, hml, hown, hts⟩ (c_X2_rewind l hD) (cwV 0 hts gX2_countOrders_X2_rewind rfl rfl rfl (by decide +kernel) ⟨Nat.le_of_ble_eq_true rfl, Nat.le_of_ble_eq_true rfl⟩) (nt_pV hT hS hP (va_recv hK.1 hP (ci := 4) (q0 := 0) rfl rfl)) rfl rfl hl.1 rfl (lv_room (Nat.le_of_ble_eq_true rfl)) dX2_countOrders_1 ⟨Nat.zero_le _, Nat.zero_le _⟩) hS (fun _ h9 => h9) (fun H locs hP1 hK1 hS => ?_)
  have hP : va_P D vwCl [(x 0, .inr (4, [.ref (x 1), .int (nI o), .int (nI 0), .int (nI ty), .ref (x 2), .int (nI vc)])), (x 1, .inl (cI, 5, .inl V)), (x 2, .inl (cC, 60, .inl (gN SA)))] H := hP1
  refine lv_iconst (v := nI 1) hx hb dX2_countOrders_4 (by decide) ?_
  refine lv_istore_n (lv' := [(1, .int (nI 1)), (0, .ref (x 0))]) hx hb dX2_countOrders_5 rfl hl (by decide) rfl (fun ls hl => ?_)
  have hloop1 : ∀ (nn : Nat) (n : Nat) (V1 : Nat → Int32) (o1 : Nat) (vc1 : Nat), (∀ j, j < n → gd SA ty j) → 32 - n < nn → ∀ (H : Heap) (locs : List Loc), va_P D vwCl [(x 0, .inr (4, [.ref (x 1), .int (nI o1), .int (nI (sn SA ty n)), .int (nI ty), .ref (x 2), .int (nI vc1)])), (x 1, .inl (cI, 5, .inl V1)), (x 2, .inl (cC, 60, .inl (gN SA)))] H → va_S A s.heap H locs → ∀ (ls : Array Slot), lv_has ls 2 [(1, .int (nI (n + 1))), (0, .ref (x 0))] → W p0 l e0 ({ frames := 8, cells := 0, slots := 0, locals := 182 }) s m0 args below meth c0 H locs 0 0 Q (F0 m0 6 ls []) := by
    intro nn6
    induction nn6 with
    | zero => intro n V1 o1 vc1 hg hn0 _ _ _ _ _ _; exact absurd hn0 (Nat.not_lt_zero _)
    | succ nn6 ih6 =>
      intro n V1 o1 vc1 hg hn6 H locs hP hS ls hl
      have hP : va_P D vwCl [(x 0, .inr (4, [.ref (x 1), .int (nI o1), .int (nI (sn SA ty n)), .int (nI ty), .ref (x 2), .int (nI vc1)])), (x 1, .inl (cI, 5, .inl V1)), (x 2, .inl (cC, 60, .inl (gN SA)))] H := hP
      have hsn := sn_ok hg
      refine lv_iload_n hx hb dX2_countOrders_6 rfl (lv_at hl 0 rfl) ?_
      refine lv_bipush (v := nI 60) hx hb dX2_countOrders_7 (by decide) ?_
      refine nv_icmp_gt (tgt := 51) hx hb dX2_countOrders_9 (by decide) (by omega) (by omega) (fun c2 => ?_) (fun c2 => ?_)
      · exfalso; omega
      · refine lv_aload_n hx hb dX2_countOrders_12 rfl (lv_at hl 1 rfl) ?_
        refine nv_kG (va_runV (As := []) (rest := []) ⟨hx, hb, hml, hown, hts⟩ (c_X2_takeOrder l hD hty hS7 (by omega)) (cwV 0 hts gX2_countOrders_X2_takeOrder rfl rfl rfl (by decide +kernel) ⟨Nat.le_of_ble_eq_true rfl, Nat.le_of_ble_eq_true rfl⟩) (nt_pV hT hS hP (va_recv hK.1 hP (ci := 4) (q0 := 0) rfl rfl)) rfl rfl hl.1 rfl (lv_room (Nat.le_of_ble_eq_true rfl)) dX2_countOrders_13 ⟨Nat.zero_le _, Nat.zero_le _⟩) hS (fun _ h9 => h9) (fun H locs hP1 hK1 hS => ?_)
        obtain ⟨V1, o1, vc1, hvs, hP⟩ := hP1
        have hP : va_P D vwCl [(x 0, .inr (4, [.ref (x 1), .int (nI o1), .int (nI ((oE SA ty (sn SA ty n)).1)), .int (nI ty), .ref (x 2), .int (nI vc1)])), (x 1, .inl (cI, 5, .inl V1)), (x 2, .inl (cC, 60, .inl (gN SA)))] H := hP
        have hoe := (oE_e (F := SA) (sp := (sn SA ty n)) hty (by omega)).1
        refine nv_ifb_ne (tgt := 21) hx hb dX2_countOrders_16 (by decide) (fun c3 => ?_) (fun c3 => ?_)
        · refine lv_aload_n hx hb dX2_countOrders_21 rfl (lv_at hl 1 rfl) ?_
          refine va_get (D := D) (ci := 4) (v := .int (nI ((oE SA ty (sn SA ty n)).1))) (C := RX2) (T := TX2) (N := 6) hx hb hts in_X2 hown hK.1 hP 0 rfl rfl 2 (by decide) fl_23 (fun _ h9 => h9) rfl dX2_countOrders_22 ?_
          refine lv_aload_n hx hb dX2_countOrders_25 rfl (lv_at hl 1 rfl) ?_
          refine va_get (D := D) (ci := 4) (v := .int (nI ty)) (C := RX2) (T := TX2) (N := 6) hx hb hts in_X2 hown hK.1 hP 0 rfl rfl 3 (by decide) fl_19 (fun _ h9 => h9) rfl dX2_countOrders_26 ?_
          refine nv_icmp_lt (tgt := 34) hx hb dX2_countOrders_29 (by decide) (by omega) (by omega) (fun c4 => ?_) (fun c4 => ?_)
          · refine lv_aload_n hx hb dX2_countOrders_34 rfl (lv_at hl 1 rfl) ?_
            refine lv_bipush (v := nI 59) hx hb dX2_countOrders_35 (by decide) ?_
            refine nv_kG (va_runV (As := [.int (nI 59)]) (rest := []) ⟨hx, hb, hml, hown, hts⟩ (c_X2_takeSign l hD hty hS7 (by omega) 59 (by omega)) (cwV 1 hts gX2_countOrders_X2_takeSign rfl rfl rfl (by decide +kernel) ⟨Nat.le_of_ble_eq_true rfl, Nat.le_of_ble_eq_true rfl⟩) (nt_pV hT hS hP (va_recv hK.1 hP (ci := 4) (q0 := 0) rfl rfl)) rfl rfl hl.1 rfl (lv_room (Nat.le_of_ble_eq_true rfl)) dX2_countOrders_37 ⟨Nat.zero_le _, Nat.zero_le _⟩) hS (fun _ h9 => h9) (fun H locs hP1 hK1 hS => ?_)
            have hP : va_P D vwCl [(x 0, .inr (4, [.ref (x 1), .int (nI o1), .int (nI ((if hrx SA ty ((oE SA ty (sn SA ty n)).1) = nI 59 then (oE SA ty (sn SA ty n)).1 + 1 else (oE SA ty (sn SA ty n)).1))), .int (nI ty), .ref (x 2), .int (nI vc1)])), (x 1, .inl (cI, 5, .inl V1)), (x 2, .inl (cC, 60, .inl (gN SA)))] H := hP1
            refine nv_ifb_ne (tgt := 45) hx hb dX2_countOrders_40 (by decide) (fun c5 => ?_) (fun c5 => ?_)
            · rw [if_pos c5] at hP
              have hP : va_P D vwCl [(x 0, .inr (4, [.ref (x 1), .int (nI o1), .int (nI ((oE SA ty (sn SA ty n)).1 + 1)), .int (nI ty), .ref (x 2), .int (nI vc1)])), (x 1, .inl (cI, 5, .inl V1)), (x 2, .inl (cC, 60, .inl (gN SA)))] H := hP
              have hgd : gd SA ty n := ⟨c3, c5⟩
              refine lv_iinc (v := nI (n + 1 + 1)) (lv' := [(1, .int (nI (n + 1 + 1))), (0, .ref (x 0))]) hx hb dX2_countOrders_45 hl (k := 0) rfl (by show nI _ + Int32.ofInt 1 = _; exact nI_add _ 1) (by decide) rfl (fun ls hl => ?_)
              refine lv_goto (tgt := 6) hx hb dX2_countOrders_48 (by decide) ?_
              exact ih6  (n + 1) V1 o1 vc1 ((fun j hj => by rcases (show j < n ∨ j = n by omega) with h | h; exact hg j h; subst h; exact hgd)) (by omega) _ _ hP hS ls (lv_sub hl [0, 1] rfl)
            · rw [if_neg c5] at hP
              have hP : va_P D vwCl [(x 0, .inr (4, [.ref (x 1), .int (nI o1), .int (nI ((oE SA ty (sn SA ty n)).1)), .int (nI ty), .ref (x 2), .int (nI vc1)])), (x 1, .inl (cI, 5, .inl V1)), (x 2, .inl (cC, 60, .inl (gN SA)))] H := hP
              have hng : ¬ gd SA ty n := fun q => c5 q.2
              have hkl : kL SA ty = n := fd_some (fun j hj q => q (hg j hj)) hng (by omega)
              have hm : mal SA ty := Or.inr (by rw [oL_k hkl]; exact c4)
              refine lv_iconst (v := (-1)) hx hb dX2_countOrders_43 (by decide) ?_
              exact nv_retG hq hx hb hr hlocks (nar_i _) (by rw [if_pos hm]) hS (⟨_, _, _, by show va_P D vwCl (iw cI cC x _ _ _ (oE SA ty (sn SA ty (kL SA ty))).1 _ _) H; rw [hkl]; exact hP⟩) dX2_countOrders_44
          · have hng : ¬ gd SA ty n := fun q => absurd (hr_lt (F := SA) (by rw [q.2]; decide)) (by omega)
            have hkl : kL SA ty = n := fd_some (fun j hj q => q (hg j hj)) hng (by omega)
            have hm : ¬ mal SA ty := fun q => q.elim (fun z => z (by rw [oL_k hkl]; exact c3)) (fun z => by rw [oL_k hkl] at z; exact c4 z)
            refine lv_iload_n hx hb dX2_countOrders_32 rfl (lv_at hl 0 rfl) ?_
            exact nv_retG hq hx hb hr hlocks (nar_i _) (by rw [if_neg hm, hkl]) hS (⟨_, _, _, by show va_P D vwCl (iw cI cC x _ _ _ (oE SA ty (sn SA ty (kL SA ty))).1 _ _) H; rw [hkl]; exact hP⟩) dX2_countOrders_33
        · have hng : ¬ gd SA ty n := fun q => c3 q.1
          have hkl : kL SA ty = n := fd_some (fun j hj q => q (hg j hj)) hng (by omega)
          have hm : mal SA ty := Or.inl (by rw [oL_k hkl]; exact c3)
          refine lv_iconst (v := (-1)) hx hb dX2_countOrders_19 (by decide) ?_
          exact nv_retG hq hx hb hr hlocks (nar_i _) (by rw [if_pos hm]) hS (⟨_, _, _, by show va_P D vwCl (iw cI cC x _ _ _ (oE SA ty (sn SA ty (kL SA ty))).1 _ _) H; rw [hkl]; exact hP⟩) dX2_countOrders_20
  exact hloop1 _ 0 V o vc ((fun j hj => absurd hj (Nat.not_lt_zero j))) (Nat.lt_succ_self _) _ _ hP hS ls (lv_sub hl [0, 1] rfl)
