abbrev tHs : Type := hS
theorem cpf_at (f g : Nat → Nat) : ∀ i, i < 10 → (va_up (va_up (va_up (va_up (va_up (va_up (va_up (va_up (va_up (va_up f 0 (g 0)) 1 (g 1)) 2 (g 2)) 3 (g 3)) 4 (g 4)) 5 (g 5)) 6 (g 6)) 7 (g 7)) 8 (g 8)) 9 (g 9)) i = g i := by
  intro i hi
  rcases ten hi with rfl | rfl | rfl | rfl | rfl | rfl | rfl | rfl | rfl | rfl <;> rfl
theorem hu_dn {u : hS} {d e : Nat} {f : Nat → Nat} (h : ¬ e = d) : hs_d (hu_d u d f) e = hs_d u e := if_neg h

theorem cp_eq {z v : hS} (hd : ∀ j, j < 8 → ∀ i, i < 10 → hs_d z j i = hs_d v j i) : hEq (hu_c (hu_c (hu_c (hu_c (hu_c (hu_c (hu_c (hv_e (hv_kg (hv_kd (hv_g z (va_cpy (hs_g v) (hs_g z) 0 0 6)) (va_cpy (hs_kd v) (hs_kd (hv_g z (va_cpy (hs_g v) (hs_g z) 0 0 6))) 0 0 5)) (va_cpy (hs_kg v) (hs_kg (hv_kd (hv_g z (va_cpy (hs_g v) (hs_g z) 0 0 6)) (va_cpy (hs_kd v) (hs_kd (hv_g z (va_cpy (hs_g v) (hs_g z) 0 0 6))) 0 0 5))) 0 0 5)) (va_cpy (hs_e v) (hs_e (hv_kg (hv_kd (hv_g z (va_cpy (hs_g v) (hs_g z) 0 0 6)) (va_cpy (hs_kd v) (hs_kd (hv_g z (va_cpy (hs_g v) (hs_g z) 0 0 6))) 0 0 5)) (va_cpy (hs_kg v) (hs_kg (hv_kd (hv_g z (va_cpy (hs_g v) (hs_g z) 0 0 6)) (va_cpy (hs_kd v) (hs_kd (hv_g z (va_cpy (hs_g v) (hs_g z) 0 0 6))) 0 0 5))) 0 0 5))) 0 0 24)) 0 (hs_c v 0)) 1 (hs_c v 1)) 2 (hs_c v 2)) 3 (hs_c v 3)) 4 (hs_c v 4)) 5 (hs_c v 5)) 6 (hs_c v 6)) v := by
  refine ⟨fun k hk => ?_, fun k hk => cpy0 hk, fun k hk => cpy0 hk, fun k hk => ⟨cpy0 hk, cpy0 hk⟩, hd⟩
  rcases (show k = 0 ∨ k = 1 ∨ k = 2 ∨ k = 3 ∨ k = 4 ∨ k = 5 ∨ k = 6 by omega) with rfl | rfl | rfl | rfl | rfl | rfl | rfl <;> rfl

set_option maxHeartbeats 1000000 in
set_option maxRecDepth 100000 in
theorem c_X1_copyFrom (l : Launch) {D : va_G} {cI cC cD cR : ClassId} {sa : sA} {A : Nat → Prop} {ad ad2 : Nat → Nat} {u v : hS} (hD : ∀ z : hS, va_D A (hw cI cD ad z ++ hw cI cD ad2 v)) (hv : hOk v) : Met l yX1_copyFrom wsX1_copyFrom ({ frames := 1, cells := 0, slots := 0, locals := 68 }) (va_Pc [.ref (ad 0), .ref (ad2 0)] (tPre D [(cI, .int), (cC, .char), (cD, .object "DoorDialect$Door"), (cR, .object "DoorDialect$House")] nN sa A (fun H => va_P D vwCl (hw cI cD ad u ++ hw cI cD ad2 v) H))) (gQv ((fun H => ∃ z, hEq z v ∧ va_P D vwCl (hw cI cD ad z ++ hw cI cD ad2 v) H)) A) 0 0 A := by
  refine nv_met (cc := cX1_copyFrom) (maxL := 3) (ret := none) (by decide) rfl (Nat.le_of_ble_eq_true rfl) ?_
  intro p0 e0 s m0 args below meth c0 Q hq hargs hnA hpre ls hl
  obtain ⟨hx, hb, hr, hts, hown, hlocks, hml⟩ := hnA
  obtain ⟨hP, hT⟩ := hpre
  have hK := hT.1
  have hown : s.vm.findClass RX1 = some m0.cls := hown
  have hP : va_P D vwCl (hw cI cD ad u ++ hw cI cD ad2 v) s.heap := hP
  have hl : lv_has ls 3 [(0, .ref (ad 0)), (1, .ref (ad2 0))] := hl
  have hS : va_S A s.heap s.heap [] := va_S.rf
  have in_X1 : ∀ w ∈ wsX10, w ∈ wsX1_copyFrom := by decide +kernel
  have fl_11 := hts (.fieldLink RX1 11 "DoorDialect$House" "doors" "[LDoorDialect$Door;") (by decide +kernel)
  have fl_17 := hts (.fieldLink RX1 17 "DoorDialect$House" "governed" "[I") (by decide +kernel)
  have fl_21 := hts (.fieldLink RX1 21 "DoorDialect$House" "keyDeclensions" "[I") (by decide +kernel)
  have fl_24 := hts (.fieldLink RX1 24 "DoorDialect$House" "keyGenders" "[I") (by decide +kernel)
  have fl_27 := hts (.fieldLink RX1 27 "DoorDialect$House" "letters" "[I") (by decide +kernel)
  have fl_34 := hts (.fieldLink RX1 34 "DoorDialect$House" "doorCount" "I") (by decide +kernel)
  have fl_38 := hts (.fieldLink RX1 38 "DoorDialect$House" "thresholdCount" "I") (by decide +kernel)
  have fl_41 := hts (.fieldLink RX1 41 "DoorDialect$House" "keyCount" "I") (by decide +kernel)
  have fl_44 := hts (.fieldLink RX1 44 "DoorDialect$House" "agreedKnocks" "I") (by decide +kernel)
  have fl_47 := hts (.fieldLink RX1 47 "DoorDialect$House" "wrongKnocks" "I") (by decide +kernel)
  have fl_50 := hts (.fieldLink RX1 50 "DoorDialect$House" "fallenLatches" "I") (by decide +kernel)
  have fl_53 := hts (.fieldLink RX1 53 "DoorDialect$House" "freedDoors" "I") (by decide +kernel)
  refine lv_iconst (v := nI 0) hx hb dX1_copyFrom_0 (by decide) ?_
  refine lv_istore_n (lv' := [(2, .int (nI 0)), (0, .ref (ad 0)), (1, .ref (ad2 0))]) hx hb dX1_copyFrom_1 rfl hl (by decide) rfl (fun ls hl => ?_)
  have hloop1 : ∀ (nn : Nat) (k : Nat) (z : tHs), (k ≤ 8) → (∀ j, j < k → ∀ i, i < 10 → hs_d z j i = hs_d v j i) → 8 - k < nn → ∀ (H : Heap) (locs : List Loc), va_P D vwCl (hw cI cD ad z ++ hw cI cD ad2 v) H → va_S A s.heap H locs → ∀ (ls : Array Slot), lv_has ls 3 [(2, .int (nI k)), (0, .ref (ad 0)), (1, .ref (ad2 0))] → W p0 l e0 ({ frames := 1, cells := 0, slots := 0, locals := 68 }) s m0 args below meth c0 H locs 0 0 Q (F0 m0 2 ls []) := by
    intro nn2
    induction nn2 with
    | zero => intro k z hk8 hz9 hn0 _ _ _ _ _ _; exact absurd hn0 (Nat.not_lt_zero _)
    | succ nn2 ih2 =>
      intro k z hk8 hz9 hn2 H locs hP hS ls hl
      have hP : va_P D vwCl (hw cI cD ad z ++ hw cI cD ad2 v) H := hP
      refine lv_iload_n hx hb dX1_copyFrom_2 rfl (lv_at hl 0 rfl) ?_
      refine lv_bipush (v := nI 8) hx hb dX1_copyFrom_3 (by decide) ?_
      refine nv_icmp_ge (tgt := 29) hx hb dX1_copyFrom_5 (by decide) (by omega) (by omega) (fun c2 => ?_) (fun c2 => ?_)
      · refine lv_aload_n hx hb dX1_copyFrom_29 rfl (lv_at hl 2 rfl) ?_
        refine va_get (D := D) (ci := 3) (v := .ref (ad2 2)) (C := RX1) (T := TX1) (N := 12) hx hb hts in_X1 hown hK.1 hP 14 rfl rfl 1 (by decide) fl_17 (fun _ h9 => h9) rfl dX1_copyFrom_30 ?_
        refine lv_iconst (v := nI 0) hx hb dX1_copyFrom_33 (by decide) ?_
        refine lv_aload_n hx hb dX1_copyFrom_34 rfl (lv_at hl 1 rfl) ?_
        refine va_get (D := D) (ci := 3) (v := .ref (ad 2)) (C := RX1) (T := TX1) (N := 12) hx hb hts in_X1 hown hK.1 hP 0 rfl rfl 1 (by decide) fl_17 (fun _ h9 => h9) rfl dX1_copyFrom_35 ?_
        refine lv_iconst (v := nI 0) hx hb dX1_copyFrom_38 (by decide) ?_
        refine lv_bipush (v := nI 6) hx hb dX1_copyFrom_39 (by decide) ?_
        refine nv_copy0 (n := 6) hx hb (hml.trans hl.1.symm) hown (hts (.methodLink RX1 72 arraycopyName) (by decide +kernel)) (hts (.native arraycopyName) (by decide +kernel)) (hts (.static arraycopyName) (by decide +kernel)) (hts (.initialized "java/lang/System") (by decide +kernel)) hK.1 hP (hD _) hS 16 2 0 rfl rfl rfl (by decide) (Nat.le_of_ble_eq_true rfl) (Nat.le_of_ble_eq_true (by decide +kernel)) dX1_copyFrom_41 (fun H locs hP hS => ?_)
        have hP : va_P D vwCl (hw cI cD ad (hv_g z (va_cpy (hs_g v) (hs_g z) 0 0 6)) ++ hw cI cD ad2 v) H := hP
        refine lv_aload_n hx hb dX1_copyFrom_44 rfl (lv_at hl 2 rfl) ?_
        refine va_get (D := D) (ci := 3) (v := .ref (ad2 3)) (C := RX1) (T := TX1) (N := 12) hx hb hts in_X1 hown hK.1 hP 14 rfl rfl 2 (by decide) fl_21 (fun _ h9 => h9) rfl dX1_copyFrom_45 ?_
        refine lv_iconst (v := nI 0) hx hb dX1_copyFrom_48 (by decide) ?_
        refine lv_aload_n hx hb dX1_copyFrom_49 rfl (lv_at hl 1 rfl) ?_
        refine va_get (D := D) (ci := 3) (v := .ref (ad 3)) (C := RX1) (T := TX1) (N := 12) hx hb hts in_X1 hown hK.1 hP 0 rfl rfl 2 (by decide) fl_21 (fun _ h9 => h9) rfl dX1_copyFrom_50 ?_
        refine lv_iconst (v := nI 0) hx hb dX1_copyFrom_53 (by decide) ?_
        refine lv_iconst (v := nI 5) hx hb dX1_copyFrom_54 (by decide) ?_
        refine nv_copy0 (n := 5) hx hb (hml.trans hl.1.symm) hown (hts (.methodLink RX1 72 arraycopyName) (by decide +kernel)) (hts (.native arraycopyName) (by decide +kernel)) (hts (.static arraycopyName) (by decide +kernel)) (hts (.initialized "java/lang/System") (by decide +kernel)) hK.1 hP (hD _) hS 17 3 0 rfl rfl rfl (by decide) (Nat.le_of_ble_eq_true rfl) (Nat.le_of_ble_eq_true (by decide +kernel)) dX1_copyFrom_55 (fun H locs hP hS => ?_)
        have hP : va_P D vwCl (hw cI cD ad (hv_kd (hv_g z (va_cpy (hs_g v) (hs_g z) 0 0 6)) (va_cpy (hs_kd v) (hs_kd (hv_g z (va_cpy (hs_g v) (hs_g z) 0 0 6))) 0 0 5)) ++ hw cI cD ad2 v) H := hP
        refine lv_aload_n hx hb dX1_copyFrom_58 rfl (lv_at hl 2 rfl) ?_
        refine va_get (D := D) (ci := 3) (v := .ref (ad2 4)) (C := RX1) (T := TX1) (N := 12) hx hb hts in_X1 hown hK.1 hP 14 rfl rfl 3 (by decide) fl_24 (fun _ h9 => h9) rfl dX1_copyFrom_59 ?_
        refine lv_iconst (v := nI 0) hx hb dX1_copyFrom_62 (by decide) ?_
        refine lv_aload_n hx hb dX1_copyFrom_63 rfl (lv_at hl 1 rfl) ?_
        refine va_get (D := D) (ci := 3) (v := .ref (ad 4)) (C := RX1) (T := TX1) (N := 12) hx hb hts in_X1 hown hK.1 hP 0 rfl rfl 3 (by decide) fl_24 (fun _ h9 => h9) rfl dX1_copyFrom_64 ?_
        refine lv_iconst (v := nI 0) hx hb dX1_copyFrom_67 (by decide) ?_
        refine lv_iconst (v := nI 5) hx hb dX1_copyFrom_68 (by decide) ?_
        refine nv_copy0 (n := 5) hx hb (hml.trans hl.1.symm) hown (hts (.methodLink RX1 72 arraycopyName) (by decide +kernel)) (hts (.native arraycopyName) (by decide +kernel)) (hts (.static arraycopyName) (by decide +kernel)) (hts (.initialized "java/lang/System") (by decide +kernel)) hK.1 hP (hD _) hS 18 4 0 rfl rfl rfl (by decide) (Nat.le_of_ble_eq_true rfl) (Nat.le_of_ble_eq_true (by decide +kernel)) dX1_copyFrom_69 (fun H locs hP hS => ?_)
        have hP : va_P D vwCl (hw cI cD ad (hv_kg (hv_kd (hv_g z (va_cpy (hs_g v) (hs_g z) 0 0 6)) (va_cpy (hs_kd v) (hs_kd (hv_g z (va_cpy (hs_g v) (hs_g z) 0 0 6))) 0 0 5)) (va_cpy (hs_kg v) (hs_kg (hv_kd (hv_g z (va_cpy (hs_g v) (hs_g z) 0 0 6)) (va_cpy (hs_kd v) (hs_kd (hv_g z (va_cpy (hs_g v) (hs_g z) 0 0 6))) 0 0 5))) 0 0 5)) ++ hw cI cD ad2 v) H := hP
        refine lv_aload_n hx hb dX1_copyFrom_72 rfl (lv_at hl 2 rfl) ?_
        refine va_get (D := D) (ci := 3) (v := .ref (ad2 5)) (C := RX1) (T := TX1) (N := 12) hx hb hts in_X1 hown hK.1 hP 14 rfl rfl 4 (by decide) fl_27 (fun _ h9 => h9) rfl dX1_copyFrom_73 ?_
        refine lv_iconst (v := nI 0) hx hb dX1_copyFrom_76 (by decide) ?_
        refine lv_aload_n hx hb dX1_copyFrom_77 rfl (lv_at hl 1 rfl) ?_
        refine va_get (D := D) (ci := 3) (v := .ref (ad 5)) (C := RX1) (T := TX1) (N := 12) hx hb hts in_X1 hown hK.1 hP 0 rfl rfl 4 (by decide) fl_27 (fun _ h9 => h9) rfl dX1_copyFrom_78 ?_
        refine lv_iconst (v := nI 0) hx hb dX1_copyFrom_81 (by decide) ?_
        refine lv_bipush (v := nI 24) hx hb dX1_copyFrom_82 (by decide) ?_
        refine nv_copy0 (n := 24) hx hb (hml.trans hl.1.symm) hown (hts (.methodLink RX1 72 arraycopyName) (by decide +kernel)) (hts (.native arraycopyName) (by decide +kernel)) (hts (.static arraycopyName) (by decide +kernel)) (hts (.initialized "java/lang/System") (by decide +kernel)) hK.1 hP (hD _) hS 19 5 0 rfl rfl rfl (by decide) (Nat.le_of_ble_eq_true rfl) (Nat.le_of_ble_eq_true (by decide +kernel)) dX1_copyFrom_84 (fun H locs hP hS => ?_)
        have hP : va_P D vwCl (hw cI cD ad (hv_e (hv_kg (hv_kd (hv_g z (va_cpy (hs_g v) (hs_g z) 0 0 6)) (va_cpy (hs_kd v) (hs_kd (hv_g z (va_cpy (hs_g v) (hs_g z) 0 0 6))) 0 0 5)) (va_cpy (hs_kg v) (hs_kg (hv_kd (hv_g z (va_cpy (hs_g v) (hs_g z) 0 0 6)) (va_cpy (hs_kd v) (hs_kd (hv_g z (va_cpy (hs_g v) (hs_g z) 0 0 6))) 0 0 5))) 0 0 5)) (va_cpy (hs_e v) (hs_e (hv_kg (hv_kd (hv_g z (va_cpy (hs_g v) (hs_g z) 0 0 6)) (va_cpy (hs_kd v) (hs_kd (hv_g z (va_cpy (hs_g v) (hs_g z) 0 0 6))) 0 0 5)) (va_cpy (hs_kg v) (hs_kg (hv_kd (hv_g z (va_cpy (hs_g v) (hs_g z) 0 0 6)) (va_cpy (hs_kd v) (hs_kd (hv_g z (va_cpy (hs_g v) (hs_g z) 0 0 6))) 0 0 5))) 0 0 5))) 0 0 24)) ++ hw cI cD ad2 v) H := hP
        refine lv_aload_n hx hb dX1_copyFrom_87 rfl (lv_at hl 1 rfl) ?_
        refine lv_aload_n hx hb dX1_copyFrom_88 rfl (lv_at hl 2 rfl) ?_
        refine va_get (D := D) (ci := 3) (v := .int (nI (hs_c v 0))) (C := RX1) (T := TX1) (N := 12) hx hb hts in_X1 hown hK.1 hP 14 rfl rfl 5 (by decide) fl_34 (fun _ h9 => h9) rfl dX1_copyFrom_89 ?_
        refine va_put (D := D) (ci := 3) (v := .int (nI (hs_c v 0))) (ty := .int) (C := RX1) (T := TX1) (N := 12) hx hb hts in_X1 tyX1 tyX1_ok nmX1 hown hK.1 hP (hD _) hS 0 rfl rfl 5 (by decide) fl_34 (fun _ h9 => h9) rfl (by decide +kernel) rfl rfl (Nat.le_of_ble_eq_true rfl) dX1_copyFrom_92 (fun H locs hP _ hS => ?_)
        have hP : va_P D vwCl (hw cI cD ad (hu_c (hv_e (hv_kg (hv_kd (hv_g z (va_cpy (hs_g v) (hs_g z) 0 0 6)) (va_cpy (hs_kd v) (hs_kd (hv_g z (va_cpy (hs_g v) (hs_g z) 0 0 6))) 0 0 5)) (va_cpy (hs_kg v) (hs_kg (hv_kd (hv_g z (va_cpy (hs_g v) (hs_g z) 0 0 6)) (va_cpy (hs_kd v) (hs_kd (hv_g z (va_cpy (hs_g v) (hs_g z) 0 0 6))) 0 0 5))) 0 0 5)) (va_cpy (hs_e v) (hs_e (hv_kg (hv_kd (hv_g z (va_cpy (hs_g v) (hs_g z) 0 0 6)) (va_cpy (hs_kd v) (hs_kd (hv_g z (va_cpy (hs_g v) (hs_g z) 0 0 6))) 0 0 5)) (va_cpy (hs_kg v) (hs_kg (hv_kd (hv_g z (va_cpy (hs_g v) (hs_g z) 0 0 6)) (va_cpy (hs_kd v) (hs_kd (hv_g z (va_cpy (hs_g v) (hs_g z) 0 0 6))) 0 0 5))) 0 0 5))) 0 0 24)) 0 (hs_c v 0)) ++ hw cI cD ad2 v) H := hP
        refine lv_aload_n hx hb dX1_copyFrom_95 rfl (lv_at hl 1 rfl) ?_
        refine lv_aload_n hx hb dX1_copyFrom_96 rfl (lv_at hl 2 rfl) ?_
        refine va_get (D := D) (ci := 3) (v := .int (nI (hs_c v 1))) (C := RX1) (T := TX1) (N := 12) hx hb hts in_X1 hown hK.1 hP 14 rfl rfl 6 (by decide) fl_38 (fun _ h9 => h9) rfl dX1_copyFrom_97 ?_
        refine va_put (D := D) (ci := 3) (v := .int (nI (hs_c v 1))) (ty := .int) (C := RX1) (T := TX1) (N := 12) hx hb hts in_X1 tyX1 tyX1_ok nmX1 hown hK.1 hP (hD _) hS 0 rfl rfl 6 (by decide) fl_38 (fun _ h9 => h9) rfl (by decide +kernel) rfl rfl (Nat.le_of_ble_eq_true rfl) dX1_copyFrom_100 (fun H locs hP _ hS => ?_)
        have hP : va_P D vwCl (hw cI cD ad (hu_c (hu_c (hv_e (hv_kg (hv_kd (hv_g z (va_cpy (hs_g v) (hs_g z) 0 0 6)) (va_cpy (hs_kd v) (hs_kd (hv_g z (va_cpy (hs_g v) (hs_g z) 0 0 6))) 0 0 5)) (va_cpy (hs_kg v) (hs_kg (hv_kd (hv_g z (va_cpy (hs_g v) (hs_g z) 0 0 6)) (va_cpy (hs_kd v) (hs_kd (hv_g z (va_cpy (hs_g v) (hs_g z) 0 0 6))) 0 0 5))) 0 0 5)) (va_cpy (hs_e v) (hs_e (hv_kg (hv_kd (hv_g z (va_cpy (hs_g v) (hs_g z) 0 0 6)) (va_cpy (hs_kd v) (hs_kd (hv_g z (va_cpy (hs_g v) (hs_g z) 0 0 6))) 0 0 5)) (va_cpy (hs_kg v) (hs_kg (hv_kd (hv_g z (va_cpy (hs_g v) (hs_g z) 0 0 6)) (va_cpy (hs_kd v) (hs_kd (hv_g z (va_cpy (hs_g v) (hs_g z) 0 0 6))) 0 0 5))) 0 0 5))) 0 0 24)) 0 (hs_c v 0)) 1 (hs_c v 1)) ++ hw cI cD ad2 v) H := hP
        refine lv_aload_n hx hb dX1_copyFrom_103 rfl (lv_at hl 1 rfl) ?_
        refine lv_aload_n hx hb dX1_copyFrom_104 rfl (lv_at hl 2 rfl) ?_
        refine va_get (D := D) (ci := 3) (v := .int (nI (hs_c v 2))) (C := RX1) (T := TX1) (N := 12) hx hb hts in_X1 hown hK.1 hP 14 rfl rfl 7 (by decide) fl_41 (fun _ h9 => h9) rfl dX1_copyFrom_105 ?_
        refine va_put (D := D) (ci := 3) (v := .int (nI (hs_c v 2))) (ty := .int) (C := RX1) (T := TX1) (N := 12) hx hb hts in_X1 tyX1 tyX1_ok nmX1 hown hK.1 hP (hD _) hS 0 rfl rfl 7 (by decide) fl_41 (fun _ h9 => h9) rfl (by decide +kernel) rfl rfl (Nat.le_of_ble_eq_true rfl) dX1_copyFrom_108 (fun H locs hP _ hS => ?_)
        have hP : va_P D vwCl (hw cI cD ad (hu_c (hu_c (hu_c (hv_e (hv_kg (hv_kd (hv_g z (va_cpy (hs_g v) (hs_g z) 0 0 6)) (va_cpy (hs_kd v) (hs_kd (hv_g z (va_cpy (hs_g v) (hs_g z) 0 0 6))) 0 0 5)) (va_cpy (hs_kg v) (hs_kg (hv_kd (hv_g z (va_cpy (hs_g v) (hs_g z) 0 0 6)) (va_cpy (hs_kd v) (hs_kd (hv_g z (va_cpy (hs_g v) (hs_g z) 0 0 6))) 0 0 5))) 0 0 5)) (va_cpy (hs_e v) (hs_e (hv_kg (hv_kd (hv_g z (va_cpy (hs_g v) (hs_g z) 0 0 6)) (va_cpy (hs_kd v) (hs_kd (hv_g z (va_cpy (hs_g v) (hs_g z) 0 0 6))) 0 0 5)) (va_cpy (hs_kg v) (hs_kg (hv_kd (hv_g z (va_cpy (hs_g v) (hs_g z) 0 0 6)) (va_cpy (hs_kd v) (hs_kd (hv_g z (va_cpy (hs_g v) (hs_g z) 0 0 6))) 0 0 5))) 0 0 5))) 0 0 24)) 0 (hs_c v 0)) 1 (hs_c v 1)) 2 (hs_c v 2)) ++ hw cI cD ad2 v) H := hP
        refine lv_aload_n hx hb dX1_copyFrom_111 rfl (lv_at hl 1 rfl) ?_
        refine lv_aload_n hx hb dX1_copyFrom_112 rfl (lv_at hl 2 rfl) ?_
        refine va_get (D := D) (ci := 3) (v := .int (nI (hs_c v 3))) (C := RX1) (T := TX1) (N := 12) hx hb hts in_X1 hown hK.1 hP 14 rfl rfl 8 (by decide) fl_44 (fun _ h9 => h9) rfl dX1_copyFrom_113 ?_
        refine va_put (D := D) (ci := 3) (v := .int (nI (hs_c v 3))) (ty := .int) (C := RX1) (T := TX1) (N := 12) hx hb hts in_X1 tyX1 tyX1_ok nmX1 hown hK.1 hP (hD _) hS 0 rfl rfl 8 (by decide) fl_44 (fun _ h9 => h9) rfl (by decide +kernel) rfl rfl (Nat.le_of_ble_eq_true rfl) dX1_copyFrom_116 (fun H locs hP _ hS => ?_)
        have hP : va_P D vwCl (hw cI cD ad (hu_c (hu_c (hu_c (hu_c (hv_e (hv_kg (hv_kd (hv_g z (va_cpy (hs_g v) (hs_g z) 0 0 6)) (va_cpy (hs_kd v) (hs_kd (hv_g z (va_cpy (hs_g v) (hs_g z) 0 0 6))) 0 0 5)) (va_cpy (hs_kg v) (hs_kg (hv_kd (hv_g z (va_cpy (hs_g v) (hs_g z) 0 0 6)) (va_cpy (hs_kd v) (hs_kd (hv_g z (va_cpy (hs_g v) (hs_g z) 0 0 6))) 0 0 5))) 0 0 5)) (va_cpy (hs_e v) (hs_e (hv_kg (hv_kd (hv_g z (va_cpy (hs_g v) (hs_g z) 0 0 6)) (va_cpy (hs_kd v) (hs_kd (hv_g z (va_cpy (hs_g v) (hs_g z) 0 0 6))) 0 0 5)) (va_cpy (hs_kg v) (hs_kg (hv_kd (hv_g z (va_cpy (hs_g v) (hs_g z) 0 0 6)) (va_cpy (hs_kd v) (hs_kd (hv_g z (va_cpy (hs_g v) (hs_g z) 0 0 6))) 0 0 5))) 0 0 5))) 0 0 24)) 0 (hs_c v 0)) 1 (hs_c v 1)) 2 (hs_c v 2)) 3 (hs_c v 3)) ++ hw cI cD ad2 v) H := hP
        refine lv_aload_n hx hb dX1_copyFrom_119 rfl (lv_at hl 1 rfl) ?_
        refine lv_aload_n hx hb dX1_copyFrom_120 rfl (lv_at hl 2 rfl) ?_
        refine va_get (D := D) (ci := 3) (v := .int (nI (hs_c v 4))) (C := RX1) (T := TX1) (N := 12) hx hb hts in_X1 hown hK.1 hP 14 rfl rfl 9 (by decide) fl_47 (fun _ h9 => h9) rfl dX1_copyFrom_121 ?_
        refine va_put (D := D) (ci := 3) (v := .int (nI (hs_c v 4))) (ty := .int) (C := RX1) (T := TX1) (N := 12) hx hb hts in_X1 tyX1 tyX1_ok nmX1 hown hK.1 hP (hD _) hS 0 rfl rfl 9 (by decide) fl_47 (fun _ h9 => h9) rfl (by decide +kernel) rfl rfl (Nat.le_of_ble_eq_true rfl) dX1_copyFrom_124 (fun H locs hP _ hS => ?_)
        have hP : va_P D vwCl (hw cI cD ad (hu_c (hu_c (hu_c (hu_c (hu_c (hv_e (hv_kg (hv_kd (hv_g z (va_cpy (hs_g v) (hs_g z) 0 0 6)) (va_cpy (hs_kd v) (hs_kd (hv_g z (va_cpy (hs_g v) (hs_g z) 0 0 6))) 0 0 5)) (va_cpy (hs_kg v) (hs_kg (hv_kd (hv_g z (va_cpy (hs_g v) (hs_g z) 0 0 6)) (va_cpy (hs_kd v) (hs_kd (hv_g z (va_cpy (hs_g v) (hs_g z) 0 0 6))) 0 0 5))) 0 0 5)) (va_cpy (hs_e v) (hs_e (hv_kg (hv_kd (hv_g z (va_cpy (hs_g v) (hs_g z) 0 0 6)) (va_cpy (hs_kd v) (hs_kd (hv_g z (va_cpy (hs_g v) (hs_g z) 0 0 6))) 0 0 5)) (va_cpy (hs_kg v) (hs_kg (hv_kd (hv_g z (va_cpy (hs_g v) (hs_g z) 0 0 6)) (va_cpy (hs_kd v) (hs_kd (hv_g z (va_cpy (hs_g v) (hs_g z) 0 0 6))) 0 0 5))) 0 0 5))) 0 0 24)) 0 (hs_c v 0)) 1 (hs_c v 1)) 2 (hs_c v 2)) 3 (hs_c v 3)) 4 (hs_c v 4)) ++ hw cI cD ad2 v) H := hP
        refine lv_aload_n hx hb dX1_copyFrom_127 rfl (lv_at hl 1 rfl) ?_
        refine lv_aload_n hx hb dX1_copyFrom_128 rfl (lv_at hl 2 rfl) ?_
        refine va_get (D := D) (ci := 3) (v := .int (nI (hs_c v 5))) (C := RX1) (T := TX1) (N := 12) hx hb hts in_X1 hown hK.1 hP 14 rfl rfl 10 (by decide) fl_50 (fun _ h9 => h9) rfl dX1_copyFrom_129 ?_
        refine va_put (D := D) (ci := 3) (v := .int (nI (hs_c v 5))) (ty := .int) (C := RX1) (T := TX1) (N := 12) hx hb hts in_X1 tyX1 tyX1_ok nmX1 hown hK.1 hP (hD _) hS 0 rfl rfl 10 (by decide) fl_50 (fun _ h9 => h9) rfl (by decide +kernel) rfl rfl (Nat.le_of_ble_eq_true rfl) dX1_copyFrom_132 (fun H locs hP _ hS => ?_)
        have hP : va_P D vwCl (hw cI cD ad (hu_c (hu_c (hu_c (hu_c (hu_c (hu_c (hv_e (hv_kg (hv_kd (hv_g z (va_cpy (hs_g v) (hs_g z) 0 0 6)) (va_cpy (hs_kd v) (hs_kd (hv_g z (va_cpy (hs_g v) (hs_g z) 0 0 6))) 0 0 5)) (va_cpy (hs_kg v) (hs_kg (hv_kd (hv_g z (va_cpy (hs_g v) (hs_g z) 0 0 6)) (va_cpy (hs_kd v) (hs_kd (hv_g z (va_cpy (hs_g v) (hs_g z) 0 0 6))) 0 0 5))) 0 0 5)) (va_cpy (hs_e v) (hs_e (hv_kg (hv_kd (hv_g z (va_cpy (hs_g v) (hs_g z) 0 0 6)) (va_cpy (hs_kd v) (hs_kd (hv_g z (va_cpy (hs_g v) (hs_g z) 0 0 6))) 0 0 5)) (va_cpy (hs_kg v) (hs_kg (hv_kd (hv_g z (va_cpy (hs_g v) (hs_g z) 0 0 6)) (va_cpy (hs_kd v) (hs_kd (hv_g z (va_cpy (hs_g v) (hs_g z) 0 0 6))) 0 0 5))) 0 0 5))) 0 0 24)) 0 (hs_c v 0)) 1 (hs_c v 1)) 2 (hs_c v 2)) 3 (hs_c v 3)) 4 (hs_c v 4)) 5 (hs_c v 5)) ++ hw cI cD ad2 v) H := hP
        refine lv_aload_n hx hb dX1_copyFrom_135 rfl (lv_at hl 1 rfl) ?_
        refine lv_aload_n hx hb dX1_copyFrom_136 rfl (lv_at hl 2 rfl) ?_
        refine va_get (D := D) (ci := 3) (v := .int (nI (hs_c v 6))) (C := RX1) (T := TX1) (N := 12) hx hb hts in_X1 hown hK.1 hP 14 rfl rfl 11 (by decide) fl_53 (fun _ h9 => h9) rfl dX1_copyFrom_137 ?_
        refine va_put (D := D) (ci := 3) (v := .int (nI (hs_c v 6))) (ty := .int) (C := RX1) (T := TX1) (N := 12) hx hb hts in_X1 tyX1 tyX1_ok nmX1 hown hK.1 hP (hD _) hS 0 rfl rfl 11 (by decide) fl_53 (fun _ h9 => h9) rfl (by decide +kernel) rfl rfl (Nat.le_of_ble_eq_true rfl) dX1_copyFrom_140 (fun H locs hP _ hS => ?_)
        have hP : va_P D vwCl (hw cI cD ad (hu_c (hu_c (hu_c (hu_c (hu_c (hu_c (hu_c (hv_e (hv_kg (hv_kd (hv_g z (va_cpy (hs_g v) (hs_g z) 0 0 6)) (va_cpy (hs_kd v) (hs_kd (hv_g z (va_cpy (hs_g v) (hs_g z) 0 0 6))) 0 0 5)) (va_cpy (hs_kg v) (hs_kg (hv_kd (hv_g z (va_cpy (hs_g v) (hs_g z) 0 0 6)) (va_cpy (hs_kd v) (hs_kd (hv_g z (va_cpy (hs_g v) (hs_g z) 0 0 6))) 0 0 5))) 0 0 5)) (va_cpy (hs_e v) (hs_e (hv_kg (hv_kd (hv_g z (va_cpy (hs_g v) (hs_g z) 0 0 6)) (va_cpy (hs_kd v) (hs_kd (hv_g z (va_cpy (hs_g v) (hs_g z) 0 0 6))) 0 0 5)) (va_cpy (hs_kg v) (hs_kg (hv_kd (hv_g z (va_cpy (hs_g v) (hs_g z) 0 0 6)) (va_cpy (hs_kd v) (hs_kd (hv_g z (va_cpy (hs_g v) (hs_g z) 0 0 6))) 0 0 5))) 0 0 5))) 0 0 24)) 0 (hs_c v 0)) 1 (hs_c v 1)) 2 (hs_c v 2)) 3 (hs_c v 3)) 4 (hs_c v 4)) 5 (hs_c v 5)) 6 (hs_c v 6)) ++ hw cI cD ad2 v) H := hP
        exact nv_retGv hq hx hb hr hlocks hS (⟨_, cp_eq (fun j hj => hz9 j (by omega)), hP⟩) dX1_copyFrom_143
      · refine lv_aload_n hx hb dX1_copyFrom_8 rfl (lv_at hl 1 rfl) ?_
        refine va_get (D := D) (ci := 3) (v := .ref (ad 1)) (C := RX1) (T := TX1) (N := 12) hx hb hts in_X1 hown hK.1 hP 0 rfl rfl 0 (by decide) fl_11 (fun _ h9 => h9) rfl dX1_copyFrom_9 ?_
        refine lv_iload_n hx hb dX1_copyFrom_12 rfl (lv_at hl 0 rfl) ?_
        refine nv_aldq (i := k) hx hb hK.1 hP 1 2 rfl rfl (by omega) (by decide) dX1_copyFrom_13 ?_
        refine lv_aload_n hx hb dX1_copyFrom_14 rfl (lv_at hl 2 rfl) ?_
        refine va_get (D := D) (ci := 3) (v := .ref (ad2 1)) (C := RX1) (T := TX1) (N := 12) hx hb hts in_X1 hown hK.1 hP 14 rfl rfl 0 (by decide) fl_11 (fun _ h9 => h9) rfl dX1_copyFrom_15 ?_
        refine lv_iload_n hx hb dX1_copyFrom_18 rfl (lv_at hl 0 rfl) ?_
        refine nv_aldq (i := k) hx hb hK.1 hP 15 2 rfl rfl (by omega) (by decide) dX1_copyFrom_19 ?_
        refine nv_kGv (va_runV (As := [.ref (ad2 (6 + k))]) (rest := []) ⟨hx, hb, hml, hown, hts⟩ (c_X0_copyFrom l hD k (by omega) (hv k (by omega)).1 (hv k (by omega)).2) (cwV 1 hts gX1_copyFrom_X0_copyFrom rfl rfl rfl (by decide +kernel) ⟨Nat.le_of_ble_eq_true rfl, Nat.le_of_ble_eq_true rfl⟩) (nt_pV hT hS hP (va_recv hK.1 hP (ci := 2) (q0 := 6 + (k)) rfl (hwa_at (k) (by omega)))) rfl rfl hl.1 rfl (lv_room (Nat.le_of_ble_eq_true rfl)) dX1_copyFrom_20 ⟨Nat.zero_le _, Nat.zero_le _⟩) hS (fun _ h9 => h9) (fun H locs hP1 hK1 hS => ?_)
        have hP : va_P D vwCl (hw cI cD ad (hu_d z k (va_up (va_up (va_up (va_up (va_up (va_up (va_up (va_up (va_up (va_up (hs_d z k) 0 (hs_d v k 0)) 1 (hs_d v k 1)) 2 (hs_d v k 2)) 3 (hs_d v k 3)) 4 (hs_d v k 4)) 5 (hs_d v k 5)) 6 (hs_d v k 6)) 7 (hs_d v k 7)) 8 (hs_d v k 8)) 9 (hs_d v k 9))) ++ hw cI cD ad2 v) H := hP1
        refine lv_iinc (v := nI (k + 1)) (lv' := [(2, .int (nI (k + 1))), (0, .ref (ad 0)), (1, .ref (ad2 0))]) hx hb dX1_copyFrom_23 hl (k := 0) rfl (by show nI _ + Int32.ofInt 1 = _; exact nI_add _ 1) (by decide) rfl (fun ls hl => ?_)
        refine lv_goto (tgt := 2) hx hb dX1_copyFrom_26 (by decide) ?_
        exact ih2  (k + 1) ((hu_d z k (va_up (va_up (va_up (va_up (va_up (va_up (va_up (va_up (va_up (va_up (hs_d z k) 0 (hs_d v k 0)) 1 (hs_d v k 1)) 2 (hs_d v k 2)) 3 (hs_d v k 3)) 4 (hs_d v k 4)) 5 (hs_d v k 5)) 6 (hs_d v k 6)) 7 (hs_d v k 7)) 8 (hs_d v k 8)) 9 (hs_d v k 9)))) ((by omega)) ((fun j hj i hi => by rcases (show j < k ∨ j = k by omega) with h | h; rw [hu_dn (by omega)]; exact hz9 j h i hi; subst h; rw [hu_dd]; exact cpf_at _ _ i hi)) (by omega) _ _ hP hS ls (lv_sub hl [0, 1, 2] rfl)
  exact hloop1 _ 0 u ((Nat.zero_le _)) ((fun j hj => absurd hj (Nat.not_lt_zero j))) (Nat.lt_succ_self _) _ _ hP hS ls (lv_sub hl [0, 1, 2] rfl)

theorem vow_eq : ∀ k, k < 5 → sch 3 k - 97 = vow k ∧ 97 ≤ sch 3 k ∧ k < sLen.getD 3 0 := by decide +kernel
theorem gNew_at {d c n : Nat} (hc : c < 4) (hn : n < 2) (hd : d < 3) : gNew (8 + ((d * 4 + c) * 2 + n)) = vow ((d + 2 * c + n) % 5) := by
  unfold gNew
  rw [if_pos (by omega)]
  congr 1
  rw [show (8 + ((d * 4 + c) * 2 + n) - 8) / 8 = d by omega, show (8 + ((d * 4 + c) * 2 + n) - 8) % 8 / 2 = c by omega, show (8 + ((d * 4 + c) * 2 + n) - 8) % 2 = n by omega]

set_option maxHeartbeats 1000000 in
set_option maxRecDepth 100000 in
theorem c_X1_makeNew (l : Launch) {D : va_G} {cI cC cD cR : ClassId} {sa : sA} {A : Nat → Prop} {ad : Nat → Nat} {u : hS} (hD : ∀ v : hS, va_D A (hw cI cD ad v)) (hk : hOk u) : Met l yX1_makeNew wsX1_makeNew ({ frames := 4, cells := 0, slots := 0, locals := 85 }) (va_Pc [.ref (ad 0)] (tPre D [(cI, .int), (cC, .char), (cD, .object "DoorDialect$Door"), (cR, .object "DoorDialect$House")] nN sa A (fun H => va_P D vwCl (hw cI cD ad u) H))) (gQv ((hO D cI cD ad gNew)) A) 0 0 A := by
  refine nv_met (cc := cX1_makeNew) (maxL := 5) (ret := none) (by decide) rfl (Nat.le_of_ble_eq_true rfl) ?_
  intro p0 e0 s m0 args below meth c0 Q hq hargs hnA hpre ls hl
  obtain ⟨hx, hb, hr, hts, hown, hlocks, hml⟩ := hnA
  obtain ⟨hP, hT⟩ := hpre
  have hK := hT.1
  have hown : s.vm.findClass RX1 = some m0.cls := hown
  have hP : va_P D vwCl (hw cI cD ad u) s.heap := hP
  have hl : lv_has ls 5 [(0, .ref (ad 0))] := hl
  have hS : va_S A s.heap s.heap [] := va_S.rf
  have in_X1 : ∀ w ∈ wsX10, w ∈ wsX1_makeNew := by decide +kernel
  have fl_27 := hts (.fieldLink RX1 27 "DoorDialect$House" "letters" "[I") (by decide +kernel)
  have fl_34 := hts (.fieldLink RX1 34 "DoorDialect$House" "doorCount" "I") (by decide +kernel)
  have fl_38 := hts (.fieldLink RX1 38 "DoorDialect$House" "thresholdCount" "I") (by decide +kernel)
  have fl_41 := hts (.fieldLink RX1 41 "DoorDialect$House" "keyCount" "I") (by decide +kernel)
  have fl_44 := hts (.fieldLink RX1 44 "DoorDialect$House" "agreedKnocks" "I") (by decide +kernel)
  have fl_47 := hts (.fieldLink RX1 47 "DoorDialect$House" "wrongKnocks" "I") (by decide +kernel)
  have fl_50 := hts (.fieldLink RX1 50 "DoorDialect$House" "fallenLatches" "I") (by decide +kernel)
  have fl_53 := hts (.fieldLink RX1 53 "DoorDialect$House" "freedDoors" "I") (by decide +kernel)
  refine lv_aload_n hx hb dX1_makeNew_0 rfl (lv_at hl 0 rfl) ?_
  refine lv_iconst (v := nI 0) hx hb dX1_makeNew_1 (by decide) ?_
  refine va_put (D := D) (ci := 3) (v := .int (nI 0)) (ty := .int) (C := RX1) (T := TX1) (N := 12) hx hb hts in_X1 tyX1 tyX1_ok nmX1 hown hK.1 hP (hD _) hS 0 rfl rfl 5 (by decide) fl_34 (fun _ h9 => h9) rfl (by decide +kernel) rfl rfl (Nat.le_of_ble_eq_true rfl) dX1_makeNew_2 (fun H locs hP _ hS => ?_)
  have hP : va_P D vwCl (hw cI cD ad (hu_c u 0 0)) H := hP
  refine lv_aload_n hx hb dX1_makeNew_5 rfl (lv_at hl 0 rfl) ?_
  refine lv_iconst (v := nI 0) hx hb dX1_makeNew_6 (by decide) ?_
  refine va_put (D := D) (ci := 3) (v := .int (nI 0)) (ty := .int) (C := RX1) (T := TX1) (N := 12) hx hb hts in_X1 tyX1 tyX1_ok nmX1 hown hK.1 hP (hD _) hS 0 rfl rfl 6 (by decide) fl_38 (fun _ h9 => h9) rfl (by decide +kernel) rfl rfl (Nat.le_of_ble_eq_true rfl) dX1_makeNew_7 (fun H locs hP _ hS => ?_)
  have hP : va_P D vwCl (hw cI cD ad (hu_c (hu_c u 0 0) 1 0)) H := hP
  refine lv_aload_n hx hb dX1_makeNew_10 rfl (lv_at hl 0 rfl) ?_
  refine lv_iconst (v := nI 0) hx hb dX1_makeNew_11 (by decide) ?_
  refine va_put (D := D) (ci := 3) (v := .int (nI 0)) (ty := .int) (C := RX1) (T := TX1) (N := 12) hx hb hts in_X1 tyX1 tyX1_ok nmX1 hown hK.1 hP (hD _) hS 0 rfl rfl 7 (by decide) fl_41 (fun _ h9 => h9) rfl (by decide +kernel) rfl rfl (Nat.le_of_ble_eq_true rfl) dX1_makeNew_12 (fun H locs hP _ hS => ?_)
  have hP : va_P D vwCl (hw cI cD ad (hu_c (hu_c (hu_c u 0 0) 1 0) 2 0)) H := hP
  refine lv_aload_n hx hb dX1_makeNew_15 rfl (lv_at hl 0 rfl) ?_
  refine lv_iconst (v := nI 0) hx hb dX1_makeNew_16 (by decide) ?_
  refine va_put (D := D) (ci := 3) (v := .int (nI 0)) (ty := .int) (C := RX1) (T := TX1) (N := 12) hx hb hts in_X1 tyX1 tyX1_ok nmX1 hown hK.1 hP (hD _) hS 0 rfl rfl 8 (by decide) fl_44 (fun _ h9 => h9) rfl (by decide +kernel) rfl rfl (Nat.le_of_ble_eq_true rfl) dX1_makeNew_17 (fun H locs hP _ hS => ?_)
  have hP : va_P D vwCl (hw cI cD ad (hu_c (hu_c (hu_c (hu_c u 0 0) 1 0) 2 0) 3 0)) H := hP
  refine lv_aload_n hx hb dX1_makeNew_20 rfl (lv_at hl 0 rfl) ?_
  refine lv_iconst (v := nI 0) hx hb dX1_makeNew_21 (by decide) ?_
  refine va_put (D := D) (ci := 3) (v := .int (nI 0)) (ty := .int) (C := RX1) (T := TX1) (N := 12) hx hb hts in_X1 tyX1 tyX1_ok nmX1 hown hK.1 hP (hD _) hS 0 rfl rfl 9 (by decide) fl_47 (fun _ h9 => h9) rfl (by decide +kernel) rfl rfl (Nat.le_of_ble_eq_true rfl) dX1_makeNew_22 (fun H locs hP _ hS => ?_)
  have hP : va_P D vwCl (hw cI cD ad (hu_c (hu_c (hu_c (hu_c (hu_c u 0 0) 1 0) 2 0) 3 0) 4 0)) H := hP
  refine lv_aload_n hx hb dX1_makeNew_25 rfl (lv_at hl 0 rfl) ?_
  refine lv_iconst (v := nI 0) hx hb dX1_makeNew_26 (by decide) ?_
  refine va_put (D := D) (ci := 3) (v := .int (nI 0)) (ty := .int) (C := RX1) (T := TX1) (N := 12) hx hb hts in_X1 tyX1 tyX1_ok nmX1 hown hK.1 hP (hD _) hS 0 rfl rfl 10 (by decide) fl_50 (fun _ h9 => h9) rfl (by decide +kernel) rfl rfl (Nat.le_of_ble_eq_true rfl) dX1_makeNew_27 (fun H locs hP _ hS => ?_)
  have hP : va_P D vwCl (hw cI cD ad (hu_c (hu_c (hu_c (hu_c (hu_c (hu_c u 0 0) 1 0) 2 0) 3 0) 4 0) 5 0)) H := hP
  refine lv_aload_n hx hb dX1_makeNew_30 rfl (lv_at hl 0 rfl) ?_
  refine lv_iconst (v := nI 0) hx hb dX1_makeNew_31 (by decide) ?_
  refine va_put (D := D) (ci := 3) (v := .int (nI 0)) (ty := .int) (C := RX1) (T := TX1) (N := 12) hx hb hts in_X1 tyX1 tyX1_ok nmX1 hown hK.1 hP (hD _) hS 0 rfl rfl 11 (by decide) fl_53 (fun _ h9 => h9) rfl (by decide +kernel) rfl rfl (Nat.le_of_ble_eq_true rfl) dX1_makeNew_32 (fun H locs hP _ hS => ?_)
  have hP : va_P D vwCl (hw cI cD ad (hu_c (hu_c (hu_c (hu_c (hu_c (hu_c (hu_c u 0 0) 1 0) 2 0) 3 0) 4 0) 5 0) 6 0)) H := hP
  refine lv_iconst (v := nI 0) hx hb dX1_makeNew_35 (by decide) ?_
  refine lv_istore_n (lv' := [(1, .int (nI 0)), (0, .ref (ad 0))]) hx hb dX1_makeNew_36 rfl hl (by decide) rfl (fun ls hl => ?_)
  have hloop1 : ∀ (nn : Nat) (d : Nat) (z : tHs), (d ≤ 3) → (∀ k, k < 7 → hs_c z k = 0) → (∀ j, j < 8 * d → hs_e z j = gNew (8 + j)) → (hOk z) → 3 - d < nn → ∀ (H : Heap) (locs : List Loc), va_P D vwCl (hw cI cD ad z) H → va_S A s.heap H locs → ∀ (ls : Array Slot), lv_has ls 5 [(1, .int (nI d)), (0, .ref (ad 0))] → W p0 l e0 ({ frames := 4, cells := 0, slots := 0, locals := 85 }) s m0 args below meth c0 H locs 0 0 Q (F0 m0 37 ls []) := by
    intro nn37
    induction nn37 with
    | zero => intro d z hd3 hzc hze hzk hn0 _ _ _ _ _ _; exact absurd hn0 (Nat.not_lt_zero _)
    | succ nn37 ih37 =>
      intro d z hd3 hzc hze hzk hn37 H locs hP hS ls hl
      have hP : va_P D vwCl (hw cI cD ad z) H := hP
      refine lv_iload_n hx hb dX1_makeNew_37 rfl (lv_at hl 0 rfl) ?_
      refine lv_iconst (v := nI 3) hx hb dX1_makeNew_38 (by decide) ?_
      refine nv_icmp_ge (tgt := 106) hx hb dX1_makeNew_39 (by decide) (by omega) (by omega) (fun c2 => ?_) (fun c2 => ?_)
      · exact nv_retGv hq hx hb hr hlocks hS (⟨_, hR_new hzc (fun k hk => hze k (by omega)), hzk, hP⟩) dX1_makeNew_106
      · refine lv_iconst (v := nI 0) hx hb dX1_makeNew_42 (by decide) ?_
        refine lv_istore_n (lv' := [(2, .int (nI 0)), (1, .int (nI d)), (0, .ref (ad 0))]) hx hb dX1_makeNew_43 rfl hl (by decide) rfl (fun ls hl => ?_)
        have hloop3 : ∀ (nn : Nat) (c : Nat) (z : tHs), (c ≤ 4) → (∀ k, k < 7 → hs_c z k = 0) → (∀ j, j < 8 * d + 2 * c → hs_e z j = gNew (8 + j)) → (hOk z) → 4 - c < nn → ∀ (H : Heap) (locs : List Loc), va_P D vwCl (hw cI cD ad z) H → va_S A s.heap H locs → ∀ (ls : Array Slot), lv_has ls 5 [(2, .int (nI c)), (1, .int (nI d)), (0, .ref (ad 0))] → W p0 l e0 ({ frames := 4, cells := 0, slots := 0, locals := 85 }) s m0 args below meth c0 H locs 0 0 Q (F0 m0 44 ls []) := by
          intro nn44
          induction nn44 with
          | zero => intro c z hc4 hzc hze hzk hn0 _ _ _ _ _ _; exact absurd hn0 (Nat.not_lt_zero _)
          | succ nn44 ih44 =>
            intro c z hc4 hzc hze hzk hn44 H locs hP hS ls hl
            have hP : va_P D vwCl (hw cI cD ad z) H := hP
            refine lv_iload_n hx hb dX1_makeNew_44 rfl (lv_at hl 0 rfl) ?_
            refine lv_iconst (v := nI 4) hx hb dX1_makeNew_45 (by decide) ?_
            refine nv_icmp_ge (tgt := 100) hx hb dX1_makeNew_46 (by decide) (by omega) (by omega) (fun c4 => ?_) (fun c4 => ?_)
            · refine lv_iinc (v := nI (d + 1)) (lv' := [(1, .int (nI (d + 1))), (2, .int (nI c)), (0, .ref (ad 0))]) hx hb dX1_makeNew_100 hl (k := 1) rfl (by show nI _ + Int32.ofInt 1 = _; exact nI_add _ 1) (by decide) rfl (fun ls hl => ?_)
              refine lv_goto (tgt := 37) hx hb dX1_makeNew_103 (by decide) ?_
              exact ih37  (d + 1) z ((by omega)) (hzc) ((fun j hj => hze j (by omega))) (hzk) (by omega) _ _ hP hS ls (lv_sub hl [0, 2] rfl)
            · refine lv_iconst (v := nI 0) hx hb dX1_makeNew_49 (by decide) ?_
              refine lv_istore_n (lv' := [(3, .int (nI 0)), (2, .int (nI c)), (1, .int (nI d)), (0, .ref (ad 0))]) hx hb dX1_makeNew_50 rfl hl (by decide) rfl (fun ls hl => ?_)
              have hloop5 : ∀ (nn : Nat) (n : Nat) (z : tHs), (n ≤ 2) → (∀ k, k < 7 → hs_c z k = 0) → (∀ j, j < 8 * d + 2 * c + n → hs_e z j = gNew (8 + j)) → (hOk z) → 2 - n < nn → ∀ (H : Heap) (locs : List Loc), va_P D vwCl (hw cI cD ad z) H → va_S A s.heap H locs → ∀ (ls : Array Slot), lv_has ls 5 [(3, .int (nI n)), (2, .int (nI c)), (1, .int (nI d)), (0, .ref (ad 0))] → W p0 l e0 ({ frames := 4, cells := 0, slots := 0, locals := 85 }) s m0 args below meth c0 H locs 0 0 Q (F0 m0 51 ls []) := by
                intro nn51
                induction nn51 with
                | zero => intro n z hn2 hzc hze hzk hn0 _ _ _ _ _ _; exact absurd hn0 (Nat.not_lt_zero _)
                | succ nn51 ih51 =>
                  intro n z hn2 hzc hze hzk hn51 H locs hP hS ls hl
                  have hP : va_P D vwCl (hw cI cD ad z) H := hP
                  refine lv_iload_n hx hb dX1_makeNew_51 rfl (lv_at hl 0 rfl) ?_
                  refine lv_iconst (v := nI 2) hx hb dX1_makeNew_52 (by decide) ?_
                  refine nv_icmp_ge (tgt := 94) hx hb dX1_makeNew_53 (by decide) (by omega) (by omega) (fun c6 => ?_) (fun c6 => ?_)
                  · refine lv_iinc (v := nI (c + 1)) (lv' := [(2, .int (nI (c + 1))), (3, .int (nI n)), (1, .int (nI d)), (0, .ref (ad 0))]) hx hb dX1_makeNew_94 hl (k := 1) rfl (by show nI _ + Int32.ofInt 1 = _; exact nI_add _ 1) (by decide) rfl (fun ls hl => ?_)
                    refine lv_goto (tgt := 44) hx hb dX1_makeNew_97 (by decide) ?_
                    exact ih44  (c + 1) z ((by omega)) (hzc) ((fun j hj => hze j (by omega))) (hzk) (by omega) _ _ hP hS ls (lv_sub hl [0, 2, 3] rfl)
                  · refine lv_iload_n hx hb dX1_makeNew_56 rfl (lv_at hl 2 rfl) ?_
                    refine lv_iconst (v := nI 2) hx hb dX1_makeNew_57 (by decide) ?_
                    refine lv_iload_n hx hb dX1_makeNew_58 rfl (lv_at hl 1 rfl) ?_
                    refine nv_imul hx hb dX1_makeNew_59 ?_
                    refine nv_iadd hx hb dX1_makeNew_60 ?_
                    refine lv_iload_n hx hb dX1_makeNew_61 rfl (lv_at hl 0 rfl) ?_
                    refine nv_iadd hx hb dX1_makeNew_62 ?_
                    refine lv_iconst (v := nI 5) hx hb dX1_makeNew_63 (by decide) ?_
                    refine nv_irem hx hb dX1_makeNew_64 (by omega) (by omega) (by omega) ?_
                    refine lv_istore (lv' := [(4, .int (nI ((d + (2 * c) + n) % 5))), (3, .int (nI n)), (2, .int (nI c)), (1, .int (nI d)), (0, .ref (ad 0))]) hx hb dX1_makeNew_65 hl (by decide) rfl (fun ls hl => ?_)
                    have qv := vow_eq ((d + 2 * c + n) % 5) (by omega)
                    refine lv_aload_n hx hb dX1_makeNew_67 rfl (lv_at hl 4 rfl) ?_
                    refine va_get (D := D) (ci := 3) (v := .ref (ad 5)) (C := RX1) (T := TX1) (N := 12) hx hb hts in_X1 hown hK.1 hP 0 rfl rfl 4 (by decide) fl_27 (fun _ h9 => h9) rfl dX1_makeNew_68 ?_
                    refine lv_iload_n hx hb dX1_makeNew_71 rfl (lv_at hl 3 rfl) ?_
                    refine lv_iload_n hx hb dX1_makeNew_72 rfl (lv_at hl 2 rfl) ?_
                    refine lv_iload_n hx hb dX1_makeNew_73 rfl (lv_at hl 1 rfl) ?_
                    refine nv_kS (va_runS (As := [.int (nI d), .int (nI c), .int (nI n)]) (rest := [.ref (ad 5)]) ⟨hx, hb, hml, hown, hts⟩ (c_X1_letterPlace l d c n) (va_cwS 3 hts gX1_makeNew_X1_letterPlace rfl rfl rfl (by decide +kernel) ⟨Nat.le_of_ble_eq_true rfl, Nat.le_of_ble_eq_true rfl⟩) (nt_pS hT hS trivial) rfl rfl hl.1 rfl (lv_room (Nat.le_of_ble_eq_true rfl)) dX1_makeNew_74 ⟨Nat.zero_le _, Nat.zero_le _⟩) ?_
                    refine va_ldcS hx hb hown (hT.2.2.1 (RX1, 60, "aeiou", 3) (by decide +kernel)) dX1_makeNew_77 ?_
                    refine lv_iload hx hb dX1_makeNew_79 (lv_at hl 0 rfl) ?_
                    refine nv_kS (va_runV (As := [.int (nI ((d + (2 * c) + n) % 5))]) (rest := [.int (nI ((d * 4 + c) * 2 + n)), .ref (ad 5)]) ⟨hx, hb, hml, hown, hts⟩ (c_J0_charAt_5068e l 3 (by decide) ((d + (2 * c) + n) % 5) qv.2.2) (cwV 1 hts gX1_makeNew_J0_charAt_5068e rfl rfl rfl (by decide +kernel) ⟨Nat.le_of_ble_eq_true rfl, Nat.le_of_ble_eq_true rfl⟩) (nt_pV hT hS trivial (vk_recv hT.2.1 (by decide) hS)) rfl rfl hl.1 rfl (lv_room (Nat.le_of_ble_eq_true rfl)) dX1_makeNew_81 ⟨Nat.zero_le _, Nat.zero_le _⟩) ?_
                    refine lv_bipush (v := nI 97) hx hb dX1_makeNew_84 (by decide) ?_
                    refine nv_isub hx hb dX1_makeNew_86 (by have := qv.2.1; omega) ?_
                    refine nv_gast (i := (d * 4 + c) * 2 + n) (v := sch 3 ((d + (2 * c) + n) % 5) - 97) hx hb hK.1 hP (hD _) hS 5 0 rfl rfl (by omega) (by decide) dX1_makeNew_87 (fun H locs hP hS => ?_)
                    have hP : va_P D vwCl (hw cI cD ad (hu_e z ((d * 4 + c) * 2 + n) (sch 3 ((d + (2 * c) + n) % 5) - 97))) H := hP
                    refine lv_iinc (v := nI (n + 1)) (lv' := [(3, .int (nI (n + 1))), (4, .int (nI ((d + (2 * c) + n) % 5))), (2, .int (nI c)), (1, .int (nI d)), (0, .ref (ad 0))]) hx hb dX1_makeNew_88 hl (k := 1) rfl (by show nI _ + Int32.ofInt 1 = _; exact nI_add _ 1) (by decide) rfl (fun ls hl => ?_)
                    refine lv_goto (tgt := 51) hx hb dX1_makeNew_91 (by decide) ?_
                    exact ih51  (n + 1) ((hu_e z ((d * 4 + c) * 2 + n) (sch 3 ((d + (2 * c) + n) % 5) - 97))) ((by omega)) (hzc) ((fun j hj => by by_cases q : j = (d * 4 + c) * 2 + n; subst q; exact (up_eq rfl).trans (qv.1.trans (gNew_at (by omega) (by omega) (by omega)).symm); exact (up_ne q).trans (hze j (by omega)))) (hzk) (by omega) _ _ hP hS ls (lv_sub hl [0, 2, 3, 4] rfl)
              exact hloop5 _ 0 z ((Nat.zero_le _)) (hzc) ((fun j hj => hze j (by omega))) (hzk) (Nat.lt_succ_self _) _ _ hP hS ls (lv_sub hl [0, 1, 2, 3] rfl)
        exact hloop3 _ 0 z ((Nat.zero_le _)) (hzc) ((fun j hj => hze j (by omega))) (hzk) (Nat.lt_succ_self _) _ _ hP hS ls (lv_sub hl [0, 1, 2] rfl)
  exact hloop1 _ 0 ((hu_c (hu_c (hu_c (hu_c (hu_c (hu_c (hu_c u 0 0) 1 0) 2 0) 3 0) 4 0) 5 0) 6 0)) ((Nat.zero_le _)) ((fun k hk => by rcases (show k = 0 ∨ k = 1 ∨ k = 2 ∨ k = 3 ∨ k = 4 ∨ k = 5 ∨ k = 6 by omega) with rfl | rfl | rfl | rfl | rfl | rfl | rfl <;> rfl)) ((fun j hj => absurd hj (by omega))) (hk) (Nat.lt_succ_self _) _ _ hP hS ls (lv_sub hl [0, 1] rfl)
