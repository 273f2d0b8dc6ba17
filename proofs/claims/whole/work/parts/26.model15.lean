theorem vO_w {F : Nat → Nat} {ty sp : Nat} {G : Nat → Nat} (h : (vO F ty sp G).1 = 0) : (vO F ty sp G).2.1 = 0 := vOrd_w h
theorem vO_G {F : Nat → Nat} {ty sp : Nat} {G : Nat → Nat} (h : ¬ (vO F ty sp G).1 = 0) : (vO F ty sp G).2.2.2.2 = G ∧ (vO F ty sp G).2.2.2.1 = 0 := vOrd_G h
theorem vO_n (F : Nat → Nat) (ty sp : Nat) (G : Nat → Nat) : (vO F ty sp G).1 ≤ 3 := vOrd_n _ _ _ _ _ _ _

set_option maxHeartbeats 1000000 in
set_option maxRecDepth 100000 in
theorem c_X7_read (l : Launch) {D : va_G} {cI cC : ClassId} {h aG aB aH aS aI aL aT : Nat} {G B Hi Sv In Le : Nat → Nat} {To : Nat → Int32} {ch hs ty wy ln th sp iw : Nat} {ea ra wd : Int32} {A : Nat → Prop} (hD : ∀ (G B Hi Sv In Le : Nat → Nat) (To : Nat → Int32) (fs : List Value), va_D A [(h, .inr (9, fs)), (aG, .inl (cI, 128, .inl (gN G))), (aB, .inl (cI, 128, .inl (gN B))), (aH, .inl (cI, 1024, .inl (gN Hi))), (aS, .inl (cI, 128, .inl (gN Sv))), (aI, .inl (cI, 60, .inl (gN In))), (aL, .inl (cC, 40, .inl (gN Le))), (aT, .inl (cI, 360, .inl To))]) {b : Nat} (hG : gWf b G) (h25 : 25 ≤ b) (hb20 : b + 32 < 2 ^ 20) (hty : ty ≤ 60) (hch : ch ≤ 8) : Met l yX7_read wsX7_read ({ frames := 5, cells := 0, slots := 0, locals := 109 }) (va_Pc [.ref h] (sPre D [(cI, .int), (cC, .char)] [] (fun H => va_P D vwCl [(h, .inr (9, [.ref aG, .ref aB, .ref aH, .int (nI ch), .ref aS, .int (nI hs), .ref aI, .int (nI ty), .int ea, .int ra, .int (nI wy), .int wd, .ref aL, .int (nI ln), .int (nI th), .int (nI sp), .int (nI iw), .ref aT])), (aG, .inl (cI, 128, .inl (gN G))), (aB, .inl (cI, 128, .inl (gN B))), (aH, .inl (cI, 1024, .inl (gN Hi))), (aS, .inl (cI, 128, .inl (gN Sv))), (aI, .inl (cI, 60, .inl (gN In))), (aL, .inl (cC, 40, .inl (gN Le))), (aT, .inl (cI, 360, .inl To))] H))) (mQ D ((if mal In ty then 0 else (if rS In ty G < kL In ty + 1 then 0 else nI (kL In ty + 1)))) [(h, .inr (9, [.ref aG, .ref aB, .ref aH, .int (nI ((if mal In ty then ch else (if rS In ty G < kL In ty + 1 then ch else (if ch = 8 then 8 else ch + 1))))), .ref aS, .int (nI hs), .ref aI, .int (nI 0), .int ((if mal In ty then nI (oE In ty (sn In ty (kL In ty))).1 else ea)), .int ((if mal In ty then ra else (if rS In ty G < kL In ty + 1 then nI (rS In ty G) else ra))), .int (nI ((if mal In ty then wy else (if rS In ty G < kL In ty + 1 then vWy (vS In ty G (rS In ty G)) wy else wy)))), .int ((if mal In ty then wd else (if rS In ty G < kL In ty + 1 then vWd (vS In ty G (rS In ty G)) wd else wd))), .ref aL, .int (nI ln), .int (nI ((if mal In ty then 1 else (if rS In ty G < kL In ty + 1 then 2 else 0)))), .int (nI ((oE In ty (sn In ty (kL In ty))).1)), .int (nI ((if mal In ty then 1 else 0))), .ref aT])), (aG, .inl (cI, 128, .inl (gN ((if mal In ty then G else (if rS In ty G < kL In ty + 1 then G else (GS In ty G (kL In ty + 1)))))))), (aB, .inl (cI, 128, .inl (gN ((if mal In ty then B else G))))), (aH, .inl (cI, 1024, .inl (gN ((if mal In ty then Hi else (if rS In ty G < kL In ty + 1 then Hi else (hPush Hi G ch))))))), (aS, .inl (cI, 128, .inl (gN Sv))), (aI, .inl (cI, 60, .inl (gN In))), (aL, .inl (cC, 40, .inl (gN Le))), (aT, .inl (cI, 360, .inl ((Tn In ty To (kL In ty + 1)))))] A) 0 0 A := by
  refine nv_met (cc := cX7_read) (maxL := 5) (ret := (some .int)) (by decide) rfl (Nat.le_of_ble_eq_true rfl) ?_
  intro p0 e0 s m0 args below meth c0 Q hq hargs hnA hpre ls hl
  obtain ⟨hx, hb, hr, hts, hown, hlocks, hml⟩ := hnA
  obtain ⟨hP, hK⟩ := hpre
  have hown : s.vm.findClass RX7 = some m0.cls := hown
  have hP : va_P D vwCl [(h, .inr (9, [.ref aG, .ref aB, .ref aH, .int (nI ch), .ref aS, .int (nI hs), .ref aI, .int (nI ty), .int ea, .int ra, .int (nI wy), .int wd, .ref aL, .int (nI ln), .int (nI th), .int (nI sp), .int (nI iw), .ref aT])), (aG, .inl (cI, 128, .inl (gN G))), (aB, .inl (cI, 128, .inl (gN B))), (aH, .inl (cI, 1024, .inl (gN Hi))), (aS, .inl (cI, 128, .inl (gN Sv))), (aI, .inl (cI, 60, .inl (gN In))), (aL, .inl (cC, 40, .inl (gN Le))), (aT, .inl (cI, 360, .inl To))] s.heap := hP
  have hl : lv_has ls 5 [(0, .ref h)] := hl
  have hS : va_S A s.heap s.heap [] := va_S.rf
  have in_X7 : ∀ w ∈ wsX70, w ∈ wsX7_read := by decide +kernel
  have fl_25 := hts (.fieldLink RX7 25 "DoorDialectModel" "errorAt" "I") (by decide +kernel)
  have fl_29 := hts (.fieldLink RX7 29 "DoorDialectModel" "refusedAt" "I") (by decide +kernel)
  have fl_42 := hts (.fieldLink RX7 42 "DoorDialectModel" "thrown" "I") (by decide +kernel)
  have fl_192 := hts (.fieldLink RX7 192 "DoorDialectModel" "typed" "I") (by decide +kernel)
  have fl_198 := hts (.fieldLink RX7 198 "DoorDialectModel" "spot" "I") (by decide +kernel)
  have fl_201 := hts (.fieldLink RX7 201 "DoorDialectModel" "isWrong" "Z") (by decide +kernel)
  refine lv_aload_n hx hb dX7_read_0 rfl (lv_at hl 0 rfl) ?_
  refine lv_iconst (v := nI 0) hx hb dX7_read_1 (by decide) ?_
  refine va_put (D := D) (ci := 9) (v := .int (nI 0)) (ty := .int) (C := RX7) (T := TX7) (N := 18) hx hb hts in_X7 tyX7 tyX7_ok nmX7 hown hK.1 hP (hD _ _ _ _ _ _ _ _) hS 0 rfl rfl 15 (by decide) fl_198 (fun _ h9 => h9) rfl (by decide +kernel) rfl rfl (Nat.le_of_ble_eq_true rfl) dX7_read_2 (fun H locs hP _ hS => ?_)
  have hP : va_P D vwCl [(h, .inr (9, [.ref aG, .ref aB, .ref aH, .int (nI ch), .ref aS, .int (nI hs), .ref aI, .int (nI ty), .int ea, .int ra, .int (nI wy), .int wd, .ref aL, .int (nI ln), .int (nI th), .int (nI 0), .int (nI iw), .ref aT])), (aG, .inl (cI, 128, .inl (gN G))), (aB, .inl (cI, 128, .inl (gN B))), (aH, .inl (cI, 1024, .inl (gN Hi))), (aS, .inl (cI, 128, .inl (gN Sv))), (aI, .inl (cI, 60, .inl (gN In))), (aL, .inl (cC, 40, .inl (gN Le))), (aT, .inl (cI, 360, .inl To))] H := hP
  refine lv_aload_n hx hb dX7_read_5 rfl (lv_at hl 0 rfl) ?_
  refine lv_iconst (v := nI 0) hx hb dX7_read_6 (by decide) ?_
  refine va_put (D := D) (ci := 9) (v := .int (nI 0)) (ty := .boolean) (C := RX7) (T := TX7) (N := 18) hx hb hts in_X7 tyX7 tyX7_ok nmX7 hown hK.1 hP (hD _ _ _ _ _ _ _ _) hS 0 rfl rfl 16 (by decide) fl_201 (fun _ h9 => h9) rfl (by decide +kernel) (nar_z (by omega)) (fit_z (by omega)) (Nat.le_of_ble_eq_true rfl) dX7_read_7 (fun H locs hP _ hS => ?_)
  have hP : va_P D vwCl [(h, .inr (9, [.ref aG, .ref aB, .ref aH, .int (nI ch), .ref aS, .int (nI hs), .ref aI, .int (nI ty), .int ea, .int ra, .int (nI wy), .int wd, .ref aL, .int (nI ln), .int (nI th), .int (nI 0), .int (nI 0), .ref aT])), (aG, .inl (cI, 128, .inl (gN G))), (aB, .inl (cI, 128, .inl (gN B))), (aH, .inl (cI, 1024, .inl (gN Hi))), (aS, .inl (cI, 128, .inl (gN Sv))), (aI, .inl (cI, 60, .inl (gN In))), (aL, .inl (cC, 40, .inl (gN Le))), (aT, .inl (cI, 360, .inl To))] H := hP
  refine lv_iconst (v := nI 0) hx hb dX7_read_10 (by decide) ?_
  refine lv_istore_n (lv' := [(1, .int (nI 0)), (0, .ref h)]) hx hb dX7_read_11 rfl hl (by decide) rfl (fun ls hl => ?_)
  refine lv_iconst (v := nI 1) hx hb dX7_read_12 (by decide) ?_
  refine lv_istore_n (lv' := [(2, .int (nI 1)), (1, .int (nI 0)), (0, .ref h)]) hx hb dX7_read_13 rfl hl (by decide) rfl (fun ls hl => ?_)
  refine lv_iload_n hx hb dX7_read_14 rfl (lv_at hl 0 rfl) ?_
  refine nv_if_eq (tgt := 72) hx hb dX7_read_15 (by decide) (by omega) (fun c1 => ?_) (fun c1 => ?_)
  · exact absurd c1 (by decide)
  · have hloop2 : ∀ (nn : Nat) (n : Nat), (∀ j, j < n → gd In ty j) → 31 - n < nn → ∀ (H : Heap) (locs : List Loc), va_P D vwCl [(h, .inr (9, [.ref aG, .ref aB, .ref aH, .int (nI ch), .ref aS, .int (nI hs), .ref aI, .int (nI ty), .int ea, .int ra, .int (nI wy), .int wd, .ref aL, .int (nI ln), .int (nI th), .int (nI (sn In ty n)), .int (nI 0), .ref aT])), (aG, .inl (cI, 128, .inl (gN G))), (aB, .inl (cI, 128, .inl (gN B))), (aH, .inl (cI, 1024, .inl (gN Hi))), (aS, .inl (cI, 128, .inl (gN Sv))), (aI, .inl (cI, 60, .inl (gN In))), (aL, .inl (cC, 40, .inl (gN Le))), (aT, .inl (cI, 360, .inl ((Tn In ty To n))))] H → va_S A s.heap H locs → ∀ (ls : Array Slot), lv_has ls 5 [(2, .int (nI 1)), (1, .int (nI n)), (0, .ref h)] → W p0 l e0 ({ frames := 5, cells := 0, slots := 0, locals := 109 }) s m0 args below meth c0 H locs 0 0 Q (F0 m0 18 ls []) := by
      intro nn18
      induction nn18 with
      | zero => intro n hg hn0 _ _ _ _ _ _; exact absurd hn0 (Nat.not_lt_zero _)
      | succ nn18 ih18 =>
        intro n hg hn18 H locs hP hS ls hl
        have hP : va_P D vwCl [(h, .inr (9, [.ref aG, .ref aB, .ref aH, .int (nI ch), .ref aS, .int (nI hs), .ref aI, .int (nI ty), .int ea, .int ra, .int (nI wy), .int wd, .ref aL, .int (nI ln), .int (nI th), .int (nI (sn In ty n)), .int (nI 0), .ref aT])), (aG, .inl (cI, 128, .inl (gN G))), (aB, .inl (cI, 128, .inl (gN B))), (aH, .inl (cI, 1024, .inl (gN Hi))), (aS, .inl (cI, 128, .inl (gN Sv))), (aI, .inl (cI, 60, .inl (gN In))), (aL, .inl (cC, 40, .inl (gN Le))), (aT, .inl (cI, 360, .inl ((Tn In ty To n))))] H := hP
        have hsn := sn_ok hg
        refine lv_aload_n hx hb dX7_read_18 rfl (lv_at hl 2 rfl) ?_
        refine lv_bipush (v := nI 6) hx hb dX7_read_19 (by decide) ?_
        refine lv_iload_n hx hb dX7_read_21 rfl (lv_at hl 1 rfl) ?_
        refine nv_imul hx hb dX7_read_22 ?_
        refine nv_kMv (va_runV (As := [.int (nI (6 * n))]) (rest := []) ⟨hx, hb, hml, hown, hts⟩ (c_X7_readsOrder l hD hty (by omega) (6 * n) (by omega)) (cwV 1 hts gX7_read_X7_readsOrder rfl rfl rfl (by decide +kernel) ⟨Nat.le_of_ble_eq_true rfl, Nat.le_of_ble_eq_true rfl⟩) (nv_pV hK hP (va_recv hK.1 hP (ci := 9) (q0 := 0) rfl rfl)) rfl rfl hl.1 rfl (lv_room (Nat.le_of_ble_eq_true rfl)) dX7_read_23 ⟨Nat.zero_le _, Nat.zero_le _⟩) hS (fun H locs hP hS => ?_)
        have hP : va_P D vwCl [(h, .inr (9, [.ref aG, .ref aB, .ref aH, .int (nI ch), .ref aS, .int (nI hs), .ref aI, .int (nI ty), .int ea, .int ra, .int (nI wy), .int wd, .ref aL, .int (nI ln), .int (nI th), .int (nI ((rdO In ty (sn In ty n) ((Tn In ty To n)) (6 * n)).1.1)), .int (nI ((rdO In ty (sn In ty n) ((Tn In ty To n)) (6 * n)).1.2)), .ref aT])), (aG, .inl (cI, 128, .inl (gN G))), (aB, .inl (cI, 128, .inl (gN B))), (aH, .inl (cI, 1024, .inl (gN Hi))), (aS, .inl (cI, 128, .inl (gN Sv))), (aI, .inl (cI, 60, .inl (gN In))), (aL, .inl (cC, 40, .inl (gN Le))), (aT, .inl (cI, 360, .inl (((rdO In ty (sn In ty n) ((Tn In ty To n)) (6 * n)).2))))] H := hP
        rw [rdO_E] at hP
        have hP : va_P D vwCl [(h, .inr (9, [.ref aG, .ref aB, .ref aH, .int (nI ch), .ref aS, .int (nI hs), .ref aI, .int (nI ty), .int ea, .int ra, .int (nI wy), .int wd, .ref aL, .int (nI ln), .int (nI th), .int (nI ((oE In ty (sn In ty n)).1)), .int (nI ((oE In ty (sn In ty n)).2)), .ref aT])), (aG, .inl (cI, 128, .inl (gN G))), (aB, .inl (cI, 128, .inl (gN B))), (aH, .inl (cI, 1024, .inl (gN Hi))), (aS, .inl (cI, 128, .inl (gN Sv))), (aI, .inl (cI, 60, .inl (gN In))), (aL, .inl (cC, 40, .inl (gN Le))), (aT, .inl (cI, 360, .inl ((Tn In ty To (n + 1)))))] H := hP
        have hE := oE_e (F := In) hty hsn.2
        obtain ⟨hE1, hE2⟩ := id hE
        refine lv_iinc (v := nI (n + 1)) (lv' := [(1, .int (nI (n + 1))), (2, .int (nI 1)), (0, .ref h)]) hx hb dX7_read_26 hl (k := 1) rfl (by show nI _ + Int32.ofInt 1 = _; exact nI_add _ 1) (by decide) rfl (fun ls hl => ?_)
        refine lv_aload_n hx hb dX7_read_29 rfl (lv_at hl 2 rfl) ?_
        refine va_get (D := D) (ci := 9) (v := .int (nI ((oE In ty (sn In ty n)).2))) (C := RX7) (T := TX7) (N := 18) hx hb hts in_X7 hown hK.1 hP 0 rfl rfl 16 (by decide) fl_201 (fun _ h9 => h9) rfl dX7_read_30 ?_
        refine nv_if_ne (tgt := 49) hx hb dX7_read_33 (by decide) (by omega) (fun c3 => ?_) (fun c3 => ?_)
        · refine lv_iconst (v := nI 0) hx hb dX7_read_49 (by decide) ?_
          refine lv_istore_n (lv' := [(2, .int (nI 0)), (1, .int (nI (n + 1))), (0, .ref h)]) hx hb dX7_read_50 rfl hl (by decide) rfl (fun ls hl => ?_)
          refine lv_aload_n hx hb dX7_read_51 rfl (lv_at hl 2 rfl) ?_
          refine lv_dup hx hb dX7_read_52 rfl ?_
          refine va_get (D := D) (ci := 9) (v := .int (nI ((oE In ty (sn In ty n)).1))) (C := RX7) (T := TX7) (N := 18) hx hb hts in_X7 hown hK.1 hP 0 rfl rfl 15 (by decide) fl_198 (fun _ h9 => h9) rfl dX7_read_53 ?_
          refine lv_iload_n hx hb dX7_read_56 rfl (lv_at hl 0 rfl) ?_
          refine nv_if_eq (tgt := 64) hx hb dX7_read_57 (by decide) (by omega) (fun c4 => ?_) (fun c4 => ?_)
          · refine lv_iconst (v := nI 0) hx hb dX7_read_64 (by decide) ?_
            refine nv_iadd hx hb dX7_read_65 ?_
            refine nv_to ((oE In ty (sn In ty n)).1) rfl ?_
            refine va_put (D := D) (ci := 9) (v := .int (nI ((oE In ty (sn In ty n)).1))) (ty := .int) (C := RX7) (T := TX7) (N := 18) hx hb hts in_X7 tyX7 tyX7_ok nmX7 hown hK.1 hP (hD _ _ _ _ _ _ _ _) hS 0 rfl rfl 15 (by decide) fl_198 (fun _ h9 => h9) rfl (by decide +kernel) rfl rfl (Nat.le_of_ble_eq_true rfl) dX7_read_66 (fun H locs hP _ hS => ?_)
            have hP : va_P D vwCl [(h, .inr (9, [.ref aG, .ref aB, .ref aH, .int (nI ch), .ref aS, .int (nI hs), .ref aI, .int (nI ty), .int ea, .int ra, .int (nI wy), .int wd, .ref aL, .int (nI ln), .int (nI th), .int (nI ((oE In ty (sn In ty n)).1)), .int (nI ((oE In ty (sn In ty n)).2)), .ref aT])), (aG, .inl (cI, 128, .inl (gN G))), (aB, .inl (cI, 128, .inl (gN B))), (aH, .inl (cI, 1024, .inl (gN Hi))), (aS, .inl (cI, 128, .inl (gN Sv))), (aI, .inl (cI, 60, .inl (gN In))), (aL, .inl (cC, 40, .inl (gN Le))), (aT, .inl (cI, 360, .inl ((Tn In ty To (n + 1)))))] H := hP
            refine lv_goto (tgt := 14) hx hb dX7_read_69 (by decide) ?_
            refine lv_iload_n hx hb dX7_read_14 rfl (lv_at hl 0 rfl) ?_
            refine nv_if_eq (tgt := 72) hx hb dX7_read_15 (by decide) (by omega) (fun c5 => ?_) (fun c5 => ?_)
            · have hng : ¬ gd In ty n := fun q => c3 q.1
              have hkl : kL In ty = n := fd_some (fun j hj q => q (hg j hj)) hng (by omega)
              have hn30 : kL In ty ≤ 30 := by rw [hkl]; omega
              have hl : lv_has ls 5 [(2, .int (nI 0)), (1, .int (nI (kL In ty + 1))), (0, .ref h)] := by rw [hkl]; exact hl
              have hP : va_P D vwCl [(h, .inr (9, [.ref aG, .ref aB, .ref aH, .int (nI ch), .ref aS, .int (nI hs), .ref aI, .int (nI ty), .int ea, .int ra, .int (nI wy), .int wd, .ref aL, .int (nI ln), .int (nI th), .int (nI ((oE In ty (sn In ty (kL In ty))).1)), .int (nI ((oE In ty (sn In ty (kL In ty))).2)), .ref aT])), (aG, .inl (cI, 128, .inl (gN G))), (aB, .inl (cI, 128, .inl (gN B))), (aH, .inl (cI, 1024, .inl (gN Hi))), (aS, .inl (cI, 128, .inl (gN Sv))), (aI, .inl (cI, 60, .inl (gN In))), (aL, .inl (cC, 40, .inl (gN Le))), (aT, .inl (cI, 360, .inl ((Tn In ty To (kL In ty + 1)))))] H := by rw [hkl]; exact hP
              have hE1 : (oE In ty (sn In ty (kL In ty))).1 ≤ 60 := by rw [hkl]; exact hE1
              have hE2 : (oE In ty (sn In ty (kL In ty))).2 ≤ 1 := by rw [hkl]; exact hE2
              have hc33 : ¬ (oE In ty (sn In ty (kL In ty))).2 = 0 := by rw [hkl]; exact c3
              clear hsn hE hn18 hg ih18
              have hm : mal In ty := Or.inl hc33
              refine lv_aload_n hx hb dX7_read_72 rfl (lv_at hl 2 rfl) ?_
              refine lv_aload_n hx hb dX7_read_73 rfl (lv_at hl 2 rfl) ?_
              refine va_get (D := D) (ci := 9) (v := .int (nI ((oE In ty (sn In ty (kL In ty))).2))) (C := RX7) (T := TX7) (N := 18) hx hb hts in_X7 hown hK.1 hP 0 rfl rfl 16 (by decide) fl_201 (fun _ h9 => h9) rfl dX7_read_74 ?_
              refine nv_if_ne (tgt := 91) hx hb dX7_read_77 (by decide) (by omega) (fun c6 => ?_) (fun c6 => ?_)
              · refine lv_iconst (v := nI 1) hx hb dX7_read_91 (by decide) ?_
                refine lv_goto (tgt := 96) hx hb dX7_read_92 (by decide) ?_
                refine va_put (D := D) (ci := 9) (v := .int (nI 1)) (ty := .boolean) (C := RX7) (T := TX7) (N := 18) hx hb hts in_X7 tyX7 tyX7_ok nmX7 hown hK.1 hP (hD _ _ _ _ _ _ _ _) hS 0 rfl rfl 16 (by decide) fl_201 (fun _ h9 => h9) rfl (by decide +kernel) (nar_z (by omega)) (fit_z (by omega)) (Nat.le_of_ble_eq_true rfl) dX7_read_96 (fun H locs hP _ hS => ?_)
                have hP : va_P D vwCl [(h, .inr (9, [.ref aG, .ref aB, .ref aH, .int (nI ch), .ref aS, .int (nI hs), .ref aI, .int (nI ty), .int ea, .int ra, .int (nI wy), .int wd, .ref aL, .int (nI ln), .int (nI th), .int (nI ((oE In ty (sn In ty (kL In ty))).1)), .int (nI 1), .ref aT])), (aG, .inl (cI, 128, .inl (gN G))), (aB, .inl (cI, 128, .inl (gN B))), (aH, .inl (cI, 1024, .inl (gN Hi))), (aS, .inl (cI, 128, .inl (gN Sv))), (aI, .inl (cI, 60, .inl (gN In))), (aL, .inl (cC, 40, .inl (gN Le))), (aT, .inl (cI, 360, .inl ((Tn In ty To (kL In ty + 1)))))] H := hP
                refine lv_aload_n hx hb dX7_read_99 rfl (lv_at hl 2 rfl) ?_
                refine lv_iconst (v := nI 0) hx hb dX7_read_100 (by decide) ?_
                refine va_put (D := D) (ci := 9) (v := .int (nI 0)) (ty := .int) (C := RX7) (T := TX7) (N := 18) hx hb hts in_X7 tyX7 tyX7_ok nmX7 hown hK.1 hP (hD _ _ _ _ _ _ _ _) hS 0 rfl rfl 7 (by decide) fl_192 (fun _ h9 => h9) rfl (by decide +kernel) rfl rfl (Nat.le_of_ble_eq_true rfl) dX7_read_101 (fun H locs hP _ hS => ?_)
                have hP : va_P D vwCl [(h, .inr (9, [.ref aG, .ref aB, .ref aH, .int (nI ch), .ref aS, .int (nI hs), .ref aI, .int (nI 0), .int ea, .int ra, .int (nI wy), .int wd, .ref aL, .int (nI ln), .int (nI th), .int (nI ((oE In ty (sn In ty (kL In ty))).1)), .int (nI 1), .ref aT])), (aG, .inl (cI, 128, .inl (gN G))), (aB, .inl (cI, 128, .inl (gN B))), (aH, .inl (cI, 1024, .inl (gN Hi))), (aS, .inl (cI, 128, .inl (gN Sv))), (aI, .inl (cI, 60, .inl (gN In))), (aL, .inl (cC, 40, .inl (gN Le))), (aT, .inl (cI, 360, .inl ((Tn In ty To (kL In ty + 1)))))] H := hP
                refine lv_aload_n hx hb dX7_read_104 rfl (lv_at hl 2 rfl) ?_
                refine va_get (D := D) (ci := 9) (v := .int (nI 1)) (C := RX7) (T := TX7) (N := 18) hx hb hts in_X7 hown hK.1 hP 0 rfl rfl 16 (by decide) fl_201 (fun _ h9 => h9) rfl dX7_read_105 ?_
                refine nv_if_eq (tgt := 125) hx hb dX7_read_108 (by decide) (by omega) (fun c7 => ?_) (fun c7 => ?_)
                · exact absurd c7 (by decide)
                · refine lv_aload_n hx hb dX7_read_111 rfl (lv_at hl 2 rfl) ?_
                  refine lv_aload_n hx hb dX7_read_112 rfl (lv_at hl 2 rfl) ?_
                  refine va_get (D := D) (ci := 9) (v := .int (nI ((oE In ty (sn In ty (kL In ty))).1))) (C := RX7) (T := TX7) (N := 18) hx hb hts in_X7 hown hK.1 hP 0 rfl rfl 15 (by decide) fl_198 (fun _ h9 => h9) rfl dX7_read_113 ?_
                  refine va_put (D := D) (ci := 9) (v := .int (nI ((oE In ty (sn In ty (kL In ty))).1))) (ty := .int) (C := RX7) (T := TX7) (N := 18) hx hb hts in_X7 tyX7 tyX7_ok nmX7 hown hK.1 hP (hD _ _ _ _ _ _ _ _) hS 0 rfl rfl 8 (by decide) fl_25 (fun _ h9 => h9) rfl (by decide +kernel) rfl rfl (Nat.le_of_ble_eq_true rfl) dX7_read_116 (fun H locs hP _ hS => ?_)
                  have hP : va_P D vwCl [(h, .inr (9, [.ref aG, .ref aB, .ref aH, .int (nI ch), .ref aS, .int (nI hs), .ref aI, .int (nI 0), .int (nI ((oE In ty (sn In ty (kL In ty))).1)), .int ra, .int (nI wy), .int wd, .ref aL, .int (nI ln), .int (nI th), .int (nI ((oE In ty (sn In ty (kL In ty))).1)), .int (nI 1), .ref aT])), (aG, .inl (cI, 128, .inl (gN G))), (aB, .inl (cI, 128, .inl (gN B))), (aH, .inl (cI, 1024, .inl (gN Hi))), (aS, .inl (cI, 128, .inl (gN Sv))), (aI, .inl (cI, 60, .inl (gN In))), (aL, .inl (cC, 40, .inl (gN Le))), (aT, .inl (cI, 360, .inl ((Tn In ty To (kL In ty + 1)))))] H := hP
                  refine lv_aload_n hx hb dX7_read_119 rfl (lv_at hl 2 rfl) ?_
                  refine lv_iconst (v := nI 1) hx hb dX7_read_120 (by decide) ?_
                  refine nv_kM (va_runV (As := [.int (nI 1)]) (rest := []) ⟨hx, hb, hml, hown, hts⟩ (c_X7_fails l hD 1) (cwV 1 hts gX7_read_X7_fails rfl rfl rfl (by decide +kernel) ⟨Nat.le_of_ble_eq_true rfl, Nat.le_of_ble_eq_true rfl⟩) (nv_pV hK hP (va_recv hK.1 hP (ci := 9) (q0 := 0) rfl rfl)) rfl rfl hl.1 rfl (lv_room (Nat.le_of_ble_eq_true rfl)) dX7_read_121 ⟨Nat.zero_le _, Nat.zero_le _⟩) hS (fun H locs hP hS => ?_)
                  have hP : va_P D vwCl [(h, .inr (9, [.ref aG, .ref aB, .ref aH, .int (nI ch), .ref aS, .int (nI hs), .ref aI, .int (nI 0), .int (nI ((oE In ty (sn In ty (kL In ty))).1)), .int ra, .int (nI wy), .int wd, .ref aL, .int (nI ln), .int (nI 1), .int (nI ((oE In ty (sn In ty (kL In ty))).1)), .int (nI 1), .ref aT])), (aG, .inl (cI, 128, .inl (gN G))), (aB, .inl (cI, 128, .inl (gN B))), (aH, .inl (cI, 1024, .inl (gN Hi))), (aS, .inl (cI, 128, .inl (gN Sv))), (aI, .inl (cI, 60, .inl (gN In))), (aL, .inl (cC, 40, .inl (gN Le))), (aT, .inl (cI, 360, .inl ((Tn In ty To (kL In ty + 1)))))] H := hP
                  exact nv_retM hq hx hb hr hlocks (nar_i _) (by rw [if_pos hm] <;> rfl) hS hP (by simp only [if_pos hm] <;> rfl) dX7_read_124
              · exact absurd c6 hc33
            · exact absurd c5 (by decide)
          · exact absurd c4 (by decide)
        · refine lv_aload_n hx hb dX7_read_36 rfl (lv_at hl 2 rfl) ?_
          refine nv_kS (va_runV (As := []) (rest := []) ⟨hx, hb, hml, hown, hts⟩ (c_X7_here l hty (hE.1)) (cwV 0 hts gX7_read_X7_here rfl rfl rfl (by decide +kernel) ⟨Nat.le_of_ble_eq_true rfl, Nat.le_of_ble_eq_true rfl⟩) (nv_pV hK hP (va_recv hK.1 hP (ci := 9) (q0 := 0) rfl rfl)) rfl rfl hl.1 rfl (lv_room (Nat.le_of_ble_eq_true rfl)) dX7_read_37 ⟨Nat.zero_le _, Nat.zero_le _⟩) ?_
          refine lv_bipush (v := nI 59) hx hb dX7_read_40 (by decide) ?_
          refine lv_icmp_ne (tgt := 49) hx hb dX7_read_42 (by decide) (fun c8 => ?_) (fun c8 => ?_)
          · refine lv_iconst (v := nI 0) hx hb dX7_read_49 (by decide) ?_
            refine lv_istore_n (lv' := [(2, .int (nI 0)), (1, .int (nI (n + 1))), (0, .ref h)]) hx hb dX7_read_50 rfl hl (by decide) rfl (fun ls hl => ?_)
            refine lv_aload_n hx hb dX7_read_51 rfl (lv_at hl 2 rfl) ?_
            refine lv_dup hx hb dX7_read_52 rfl ?_
            refine va_get (D := D) (ci := 9) (v := .int (nI ((oE In ty (sn In ty n)).1))) (C := RX7) (T := TX7) (N := 18) hx hb hts in_X7 hown hK.1 hP 0 rfl rfl 15 (by decide) fl_198 (fun _ h9 => h9) rfl dX7_read_53 ?_
            refine lv_iload_n hx hb dX7_read_56 rfl (lv_at hl 0 rfl) ?_
            refine nv_if_eq (tgt := 64) hx hb dX7_read_57 (by decide) (by omega) (fun c9 => ?_) (fun c9 => ?_)
            · refine lv_iconst (v := nI 0) hx hb dX7_read_64 (by decide) ?_
              refine nv_iadd hx hb dX7_read_65 ?_
              refine nv_to ((oE In ty (sn In ty n)).1) rfl ?_
              refine va_put (D := D) (ci := 9) (v := .int (nI ((oE In ty (sn In ty n)).1))) (ty := .int) (C := RX7) (T := TX7) (N := 18) hx hb hts in_X7 tyX7 tyX7_ok nmX7 hown hK.1 hP (hD _ _ _ _ _ _ _ _) hS 0 rfl rfl 15 (by decide) fl_198 (fun _ h9 => h9) rfl (by decide +kernel) rfl rfl (Nat.le_of_ble_eq_true rfl) dX7_read_66 (fun H locs hP _ hS => ?_)
              have hP : va_P D vwCl [(h, .inr (9, [.ref aG, .ref aB, .ref aH, .int (nI ch), .ref aS, .int (nI hs), .ref aI, .int (nI ty), .int ea, .int ra, .int (nI wy), .int wd, .ref aL, .int (nI ln), .int (nI th), .int (nI ((oE In ty (sn In ty n)).1)), .int (nI ((oE In ty (sn In ty n)).2)), .ref aT])), (aG, .inl (cI, 128, .inl (gN G))), (aB, .inl (cI, 128, .inl (gN B))), (aH, .inl (cI, 1024, .inl (gN Hi))), (aS, .inl (cI, 128, .inl (gN Sv))), (aI, .inl (cI, 60, .inl (gN In))), (aL, .inl (cC, 40, .inl (gN Le))), (aT, .inl (cI, 360, .inl ((Tn In ty To (n + 1)))))] H := hP
              refine lv_goto (tgt := 14) hx hb dX7_read_69 (by decide) ?_
              refine lv_iload_n hx hb dX7_read_14 rfl (lv_at hl 0 rfl) ?_
              refine nv_if_eq (tgt := 72) hx hb dX7_read_15 (by decide) (by omega) (fun c10 => ?_) (fun c10 => ?_)
              · have hng : ¬ gd In ty n := fun q => c8 q.2
                have hkl : kL In ty = n := fd_some (fun j hj q => q (hg j hj)) hng (by omega)
                have hn30 : kL In ty ≤ 30 := by rw [hkl]; omega
                have hl : lv_has ls 5 [(2, .int (nI 0)), (1, .int (nI (kL In ty + 1))), (0, .ref h)] := by rw [hkl]; exact hl
                have hP : va_P D vwCl [(h, .inr (9, [.ref aG, .ref aB, .ref aH, .int (nI ch), .ref aS, .int (nI hs), .ref aI, .int (nI ty), .int ea, .int ra, .int (nI wy), .int wd, .ref aL, .int (nI ln), .int (nI th), .int (nI ((oE In ty (sn In ty (kL In ty))).1)), .int (nI ((oE In ty (sn In ty (kL In ty))).2)), .ref aT])), (aG, .inl (cI, 128, .inl (gN G))), (aB, .inl (cI, 128, .inl (gN B))), (aH, .inl (cI, 1024, .inl (gN Hi))), (aS, .inl (cI, 128, .inl (gN Sv))), (aI, .inl (cI, 60, .inl (gN In))), (aL, .inl (cC, 40, .inl (gN Le))), (aT, .inl (cI, 360, .inl ((Tn In ty To (kL In ty + 1)))))] H := by rw [hkl]; exact hP
                have hE1 : (oE In ty (sn In ty (kL In ty))).1 ≤ 60 := by rw [hkl]; exact hE1
                have hE2 : (oE In ty (sn In ty (kL In ty))).2 ≤ 1 := by rw [hkl]; exact hE2
                have hc33 : (oE In ty (sn In ty (kL In ty))).2 = 0 := by rw [hkl]; exact c3
                clear hsn hE hn18 hg ih18
                refine lv_aload_n hx hb dX7_read_72 rfl (lv_at hl 2 rfl) ?_
                refine lv_aload_n hx hb dX7_read_73 rfl (lv_at hl 2 rfl) ?_
                refine va_get (D := D) (ci := 9) (v := .int (nI ((oE In ty (sn In ty (kL In ty))).2))) (C := RX7) (T := TX7) (N := 18) hx hb hts in_X7 hown hK.1 hP 0 rfl rfl 16 (by decide) fl_201 (fun _ h9 => h9) rfl dX7_read_74 ?_
                refine nv_if_ne (tgt := 91) hx hb dX7_read_77 (by decide) (by omega) (fun c11 => ?_) (fun c11 => ?_)
                · exact absurd hc33 c11
                · refine lv_aload_n hx hb dX7_read_80 rfl (lv_at hl 2 rfl) ?_
                  refine va_get (D := D) (ci := 9) (v := .int (nI ((oE In ty (sn In ty (kL In ty))).1))) (C := RX7) (T := TX7) (N := 18) hx hb hts in_X7 hown hK.1 hP 0 rfl rfl 15 (by decide) fl_198 (fun _ h9 => h9) rfl dX7_read_81 ?_
                  refine lv_aload_n hx hb dX7_read_84 rfl (lv_at hl 2 rfl) ?_
                  refine va_get (D := D) (ci := 9) (v := .int (nI ty)) (C := RX7) (T := TX7) (N := 18) hx hb hts in_X7 hown hK.1 hP 0 rfl rfl 7 (by decide) fl_192 (fun _ h9 => h9) rfl dX7_read_85 ?_
                  refine nv_icmp_ge (tgt := 95) hx hb dX7_read_88 (by decide) (by omega) (by omega) (fun c12 => ?_) (fun c12 => ?_)
                  · have hm : ¬ mal In ty := fun q => q.elim (fun z => z hc33) (fun z => absurd z (Nat.not_lt.mpr c12))
                    have hkl9 := (kL_gd (F := In) hty).1
                    refine lv_iconst (v := nI 0) hx hb dX7_read_95 (by decide) ?_
                    refine va_put (D := D) (ci := 9) (v := .int (nI 0)) (ty := .boolean) (C := RX7) (T := TX7) (N := 18) hx hb hts in_X7 tyX7 tyX7_ok nmX7 hown hK.1 hP (hD _ _ _ _ _ _ _ _) hS 0 rfl rfl 16 (by decide) fl_201 (fun _ h9 => h9) rfl (by decide +kernel) (nar_z (by omega)) (fit_z (by omega)) (Nat.le_of_ble_eq_true rfl) dX7_read_96 (fun H locs hP _ hS => ?_)
                    have hP : va_P D vwCl [(h, .inr (9, [.ref aG, .ref aB, .ref aH, .int (nI ch), .ref aS, .int (nI hs), .ref aI, .int (nI ty), .int ea, .int ra, .int (nI wy), .int wd, .ref aL, .int (nI ln), .int (nI th), .int (nI ((oE In ty (sn In ty (kL In ty))).1)), .int (nI 0), .ref aT])), (aG, .inl (cI, 128, .inl (gN G))), (aB, .inl (cI, 128, .inl (gN B))), (aH, .inl (cI, 1024, .inl (gN Hi))), (aS, .inl (cI, 128, .inl (gN Sv))), (aI, .inl (cI, 60, .inl (gN In))), (aL, .inl (cC, 40, .inl (gN Le))), (aT, .inl (cI, 360, .inl ((Tn In ty To (kL In ty + 1)))))] H := hP
                    refine lv_aload_n hx hb dX7_read_99 rfl (lv_at hl 2 rfl) ?_
                    refine lv_iconst (v := nI 0) hx hb dX7_read_100 (by decide) ?_
                    refine va_put (D := D) (ci := 9) (v := .int (nI 0)) (ty := .int) (C := RX7) (T := TX7) (N := 18) hx hb hts in_X7 tyX7 tyX7_ok nmX7 hown hK.1 hP (hD _ _ _ _ _ _ _ _) hS 0 rfl rfl 7 (by decide) fl_192 (fun _ h9 => h9) rfl (by decide +kernel) rfl rfl (Nat.le_of_ble_eq_true rfl) dX7_read_101 (fun H locs hP _ hS => ?_)
                    have hP : va_P D vwCl [(h, .inr (9, [.ref aG, .ref aB, .ref aH, .int (nI ch), .ref aS, .int (nI hs), .ref aI, .int (nI 0), .int ea, .int ra, .int (nI wy), .int wd, .ref aL, .int (nI ln), .int (nI th), .int (nI ((oE In ty (sn In ty (kL In ty))).1)), .int (nI 0), .ref aT])), (aG, .inl (cI, 128, .inl (gN G))), (aB, .inl (cI, 128, .inl (gN B))), (aH, .inl (cI, 1024, .inl (gN Hi))), (aS, .inl (cI, 128, .inl (gN Sv))), (aI, .inl (cI, 60, .inl (gN In))), (aL, .inl (cC, 40, .inl (gN Le))), (aT, .inl (cI, 360, .inl ((Tn In ty To (kL In ty + 1)))))] H := hP
                    refine lv_aload_n hx hb dX7_read_104 rfl (lv_at hl 2 rfl) ?_
                    refine va_get (D := D) (ci := 9) (v := .int (nI 0)) (C := RX7) (T := TX7) (N := 18) hx hb hts in_X7 hown hK.1 hP 0 rfl rfl 16 (by decide) fl_201 (fun _ h9 => h9) rfl dX7_read_105 ?_
                    refine nv_if_eq (tgt := 125) hx hb dX7_read_108 (by decide) (by omega) (fun c13 => ?_) (fun c13 => ?_)
                    · refine lv_aload_n hx hb dX7_read_125 rfl (lv_at hl 2 rfl) ?_
                      refine nv_kMv (va_runV (As := []) (rest := []) ⟨hx, hb, hml, hown, hts⟩ (c_X7_looksBack l hD) (cwV 0 hts gX7_read_X7_looksBack rfl rfl rfl (by decide +kernel) ⟨Nat.le_of_ble_eq_true rfl, Nat.le_of_ble_eq_true rfl⟩) (nv_pV hK hP (va_recv hK.1 hP (ci := 9) (q0 := 0) rfl rfl)) rfl rfl hl.1 rfl (lv_room (Nat.le_of_ble_eq_true rfl)) dX7_read_126 ⟨Nat.zero_le _, Nat.zero_le _⟩) hS (fun H locs hP hS => ?_)
                      have hP : va_P D vwCl [(h, .inr (9, [.ref aG, .ref aB, .ref aH, .int (nI ch), .ref aS, .int (nI hs), .ref aI, .int (nI 0), .int ea, .int ra, .int (nI wy), .int wd, .ref aL, .int (nI ln), .int (nI th), .int (nI ((oE In ty (sn In ty (kL In ty))).1)), .int (nI 0), .ref aT])), (aG, .inl (cI, 128, .inl (gN G))), (aB, .inl (cI, 128, .inl (gN G))), (aH, .inl (cI, 1024, .inl (gN Hi))), (aS, .inl (cI, 128, .inl (gN Sv))), (aI, .inl (cI, 60, .inl (gN In))), (aL, .inl (cC, 40, .inl (gN Le))), (aT, .inl (cI, 360, .inl ((Tn In ty To (kL In ty + 1)))))] H := hP
                      refine lv_iconst (v := nI 0) hx hb dX7_read_129 (by decide) ?_
                      refine lv_istore_n (lv' := [(3, .int (nI 0)), (2, .int (nI 0)), (1, .int (nI (kL In ty + 1))), (0, .ref h)]) hx hb dX7_read_130 rfl hl (by decide) rfl (fun ls hl => ?_)
                      have hloop14 : ∀ (nn : Nat) (k : Nat) (t : Nat), (k ≤ kL In ty + 1) → (∀ j, j < k → (vS In ty G j).1 = 0) → kL In ty + 1 - k < nn → ∀ (H : Heap) (locs : List Loc), va_P D vwCl [(h, .inr (9, [.ref aG, .ref aB, .ref aH, .int (nI ch), .ref aS, .int (nI hs), .ref aI, .int (nI 0), .int ea, .int ra, .int (nI wy), .int wd, .ref aL, .int (nI ln), .int (nI t), .int (nI ((oE In ty (sn In ty (kL In ty))).1)), .int (nI 0), .ref aT])), (aG, .inl (cI, 128, .inl (gN ((GS In ty G k))))), (aB, .inl (cI, 128, .inl (gN G))), (aH, .inl (cI, 1024, .inl (gN Hi))), (aS, .inl (cI, 128, .inl (gN Sv))), (aI, .inl (cI, 60, .inl (gN In))), (aL, .inl (cC, 40, .inl (gN Le))), (aT, .inl (cI, 360, .inl ((Tn In ty To (kL In ty + 1)))))] H → va_S A s.heap H locs → ∀ (ls : Array Slot), lv_has ls 5 [(3, .int (nI k)), (2, .int (nI 0)), (1, .int (nI (kL In ty + 1))), (0, .ref h)] → W p0 l e0 ({ frames := 5, cells := 0, slots := 0, locals := 109 }) s m0 args below meth c0 H locs 0 0 Q (F0 m0 131 ls []) := by
                        intro nn131
                        induction nn131 with
                        | zero => intro k t hk hr9 hn0 _ _ _ _ _ _; exact absurd hn0 (Nat.not_lt_zero _)
                        | succ nn131 ih131 =>
                          intro k t hk hr9 hn131 H locs hP hS ls hl
                          have hP : va_P D vwCl [(h, .inr (9, [.ref aG, .ref aB, .ref aH, .int (nI ch), .ref aS, .int (nI hs), .ref aI, .int (nI 0), .int ea, .int ra, .int (nI wy), .int wd, .ref aL, .int (nI ln), .int (nI t), .int (nI ((oE In ty (sn In ty (kL In ty))).1)), .int (nI 0), .ref aT])), (aG, .inl (cI, 128, .inl (gN ((GS In ty G k))))), (aB, .inl (cI, 128, .inl (gN G))), (aH, .inl (cI, 1024, .inl (gN Hi))), (aS, .inl (cI, 128, .inl (gN Sv))), (aI, .inl (cI, 60, .inl (gN In))), (aL, .inl (cC, 40, .inl (gN Le))), (aT, .inl (cI, 360, .inl ((Tn In ty To (kL In ty + 1)))))] H := hP
                          refine lv_iload_n hx hb dX7_read_131 rfl (lv_at hl 0 rfl) ?_
                          refine lv_iload_n hx hb dX7_read_132 rfl (lv_at hl 2 rfl) ?_
                          refine nv_icmp_ge (tgt := 176) hx hb dX7_read_133 (by decide) (by omega) (by omega) (fun c15 => ?_) (fun c15 => ?_)
                          · have hR : rS In ty G = kL In ty + 1 := fd_none (fun j hj q => q (hr9 j (by omega)))
                            have hkk : k = kL In ty + 1 := by omega
                            refine lv_aload_n hx hb dX7_read_176 rfl (lv_at hl 3 rfl) ?_
                            refine lv_aload_n hx hb dX7_read_177 rfl (lv_at hl 3 rfl) ?_
                            refine lv_iload_n hx hb dX7_read_178 rfl (lv_at hl 2 rfl) ?_
                            refine nv_kM (va_runV (As := [.int (nI (kL In ty + 1))]) (rest := [.ref h]) ⟨hx, hb, hml, hown, hts⟩ (c_X7_done l hD (nI (kL In ty + 1))) (cwV 1 hts gX7_read_X7_done rfl rfl rfl (by decide +kernel) ⟨Nat.le_of_ble_eq_true rfl, Nat.le_of_ble_eq_true rfl⟩) (nv_pV hK hP (va_recv hK.1 hP (ci := 9) (q0 := 0) rfl rfl)) rfl rfl hl.1 rfl (lv_room (Nat.le_of_ble_eq_true rfl)) dX7_read_179 ⟨Nat.zero_le _, Nat.zero_le _⟩) hS (fun H locs hP hS => ?_)
                            have hP : va_P D vwCl [(h, .inr (9, [.ref aG, .ref aB, .ref aH, .int (nI ch), .ref aS, .int (nI hs), .ref aI, .int (nI 0), .int ea, .int ra, .int (nI wy), .int wd, .ref aL, .int (nI ln), .int (nI 0), .int (nI ((oE In ty (sn In ty (kL In ty))).1)), .int (nI 0), .ref aT])), (aG, .inl (cI, 128, .inl (gN ((GS In ty G k))))), (aB, .inl (cI, 128, .inl (gN G))), (aH, .inl (cI, 1024, .inl (gN Hi))), (aS, .inl (cI, 128, .inl (gN Sv))), (aI, .inl (cI, 60, .inl (gN In))), (aL, .inl (cC, 40, .inl (gN Le))), (aT, .inl (cI, 360, .inl ((Tn In ty To (kL In ty + 1)))))] H := hP
                            refine nv_kM (va_runV (As := [.int (nI (kL In ty + 1))]) (rest := []) ⟨hx, hb, hml, hown, hts⟩ (c_X7_kept l hD (nI (kL In ty + 1)) (by omega) (by omega)) (cwV 1 hts gX7_read_X7_kept rfl rfl rfl (by decide +kernel) ⟨Nat.le_of_ble_eq_true rfl, Nat.le_of_ble_eq_true rfl⟩) (nv_pV hK hP (va_recv hK.1 hP (ci := 9) (q0 := 0) rfl rfl)) rfl rfl hl.1 rfl (lv_room (Nat.le_of_ble_eq_true rfl)) dX7_read_182 ⟨Nat.zero_le _, Nat.zero_le _⟩) hS (fun H locs hP hS => ?_)
                            have hP : va_P D vwCl [(h, .inr (9, [.ref aG, .ref aB, .ref aH, .int (nI ((if 0 = 0 then (if ch = 8 then 8 else ch + 1) else ch))), .ref aS, .int (nI hs), .ref aI, .int (nI 0), .int ea, .int ra, .int (nI wy), .int wd, .ref aL, .int (nI ln), .int (nI 0), .int (nI ((oE In ty (sn In ty (kL In ty))).1)), .int (nI 0), .ref aT])), (aG, .inl (cI, 128, .inl (gN ((if 0 = 0 then (GS In ty G k) else G))))), (aB, .inl (cI, 128, .inl (gN G))), (aH, .inl (cI, 1024, .inl (gN ((if 0 = 0 then hPush Hi G ch else Hi))))), (aS, .inl (cI, 128, .inl (gN Sv))), (aI, .inl (cI, 60, .inl (gN In))), (aL, .inl (cC, 40, .inl (gN Le))), (aT, .inl (cI, 360, .inl ((Tn In ty To (kL In ty + 1)))))] H := hP
                            exact nv_retM hq hx hb hr hlocks (nar_i _) (by rw [hR, if_neg hm, if_neg (Nat.lt_irrefl _)] <;> rfl) hS hP (by rw [hR, hkk]; simp only [if_neg hm, if_neg (Nat.lt_irrefl _)] <;> rfl) dX7_read_185
                          · have h0 := oE_all hm hty k (by omega)
                            have hW := gWf_GS hm hty hG h25 hb20 k hk
                            refine lv_aload_n hx hb dX7_read_136 rfl (lv_at hl 3 rfl) ?_
                            refine lv_bipush (v := nI 6) hx hb dX7_read_137 (by decide) ?_
                            refine lv_iload_n hx hb dX7_read_139 rfl (lv_at hl 0 rfl) ?_
                            refine nv_imul hx hb dX7_read_140 ?_
                            refine nv_kM (va_runV (As := [.int (nI (6 * k))]) (rest := []) ⟨hx, hb, hml, hown, hts⟩ (c_X7_does l hD hW (6 * k) (kd In ty (sn In ty k)) (by omega) (oE_ok h0).1 (Tn_0 (by omega) (oE_ok h0).1) (fun q => Tn_z (by omega) h0 q)) (cwV 1 hts gX7_read_X7_does rfl rfl rfl (by decide +kernel) ⟨Nat.le_of_ble_eq_true rfl, Nat.le_of_ble_eq_true rfl⟩) (nv_pV hK hP (va_recv hK.1 hP (ci := 9) (q0 := 0) rfl rfl)) rfl rfl hl.1 rfl (lv_room (Nat.le_of_ble_eq_true rfl)) dX7_read_141 ⟨Nat.zero_le _, Nat.zero_le _⟩) hS (fun H locs hP hS => ?_)
                            have hP : va_P D vwCl [(h, .inr (9, [.ref aG, .ref aB, .ref aH, .int (nI ch), .ref aS, .int (nI hs), .ref aI, .int (nI 0), .int ea, .int ra, .int (nI (vWy (vOrd (kd In ty (sn In ty k)) (Tn In ty To (kL In ty + 1) (6 * k + 1)) (Tn In ty To (kL In ty + 1) (6 * k + 2)) (Tn In ty To (kL In ty + 1) (6 * k + 3)) (Tn In ty To (kL In ty + 1) (6 * k + 4)) (Tn In ty To (kL In ty + 1) (6 * k + 5)) (GS In ty G k)) wy)), .int (vWd (vOrd (kd In ty (sn In ty k)) (Tn In ty To (kL In ty + 1) (6 * k + 1)) (Tn In ty To (kL In ty + 1) (6 * k + 2)) (Tn In ty To (kL In ty + 1) (6 * k + 3)) (Tn In ty To (kL In ty + 1) (6 * k + 4)) (Tn In ty To (kL In ty + 1) (6 * k + 5)) (GS In ty G k)) wd), .ref aL, .int (nI ln), .int (nI ((vOrd (kd In ty (sn In ty k)) (Tn In ty To (kL In ty + 1) (6 * k + 1)) (Tn In ty To (kL In ty + 1) (6 * k + 2)) (Tn In ty To (kL In ty + 1) (6 * k + 3)) (Tn In ty To (kL In ty + 1) (6 * k + 4)) (Tn In ty To (kL In ty + 1) (6 * k + 5)) (GS In ty G k)).1)), .int (nI ((oE In ty (sn In ty (kL In ty))).1)), .int (nI 0), .ref aT])), (aG, .inl (cI, 128, .inl (gN ((vOrd (kd In ty (sn In ty k)) (Tn In ty To (kL In ty + 1) (6 * k + 1)) (Tn In ty To (kL In ty + 1) (6 * k + 2)) (Tn In ty To (kL In ty + 1) (6 * k + 3)) (Tn In ty To (kL In ty + 1) (6 * k + 4)) (Tn In ty To (kL In ty + 1) (6 * k + 5)) (GS In ty G k)).2.2.2.2)))), (aB, .inl (cI, 128, .inl (gN G))), (aH, .inl (cI, 1024, .inl (gN Hi))), (aS, .inl (cI, 128, .inl (gN Sv))), (aI, .inl (cI, 60, .inl (gN In))), (aL, .inl (cC, 40, .inl (gN Le))), (aT, .inl (cI, 360, .inl ((Tn In ty To (kL In ty + 1)))))] H := hP
                            rw [vO_T (F := In) (G := GS In ty G k) (To := To) (show k < kL In ty + 1 by omega) (oE_ok h0).1] at hP
                            refine iv_to (vO In ty (sn In ty k) (GS In ty G k)).2.2.2.1 (by rw [vO_T (F := In) (G := GS In ty G k) (To := To) (show k < kL In ty + 1 by omega) (oE_ok h0).1]) ?_
                            have hP : va_P D vwCl [(h, .inr (9, [.ref aG, .ref aB, .ref aH, .int (nI ch), .ref aS, .int (nI hs), .ref aI, .int (nI 0), .int ea, .int ra, .int (nI (vWy (vO In ty (sn In ty k) (GS In ty G k)) wy)), .int (vWd (vO In ty (sn In ty k) (GS In ty G k)) wd), .ref aL, .int (nI ln), .int (nI ((vO In ty (sn In ty k) (GS In ty G k)).1)), .int (nI ((oE In ty (sn In ty (kL In ty))).1)), .int (nI 0), .ref aT])), (aG, .inl (cI, 128, .inl (gN ((vO In ty (sn In ty k) (GS In ty G k)).2.2.2.2)))), (aB, .inl (cI, 128, .inl (gN G))), (aH, .inl (cI, 1024, .inl (gN Hi))), (aS, .inl (cI, 128, .inl (gN Sv))), (aI, .inl (cI, 60, .inl (gN In))), (aL, .inl (cC, 40, .inl (gN Le))), (aT, .inl (cI, 360, .inl ((Tn In ty To (kL In ty + 1)))))] H := hP
                            have hv3 := vO_n In ty (sn In ty k) (GS In ty G k)
                            refine lv_istore (lv' := [(4, .int ((vO In ty (sn In ty k) (GS In ty G k)).2.2.2.1)), (3, .int (nI k)), (2, .int (nI 0)), (1, .int (nI (kL In ty + 1))), (0, .ref h)]) hx hb dX7_read_144 hl (by decide) rfl (fun ls hl => ?_)
                            refine lv_aload_n hx hb dX7_read_146 rfl (lv_at hl 4 rfl) ?_
                            refine va_get (D := D) (ci := 9) (v := .int (nI ((vO In ty (sn In ty k) (GS In ty G k)).1))) (C := RX7) (T := TX7) (N := 18) hx hb hts in_X7 hown hK.1 hP 0 rfl rfl 14 (by decide) fl_42 (fun _ h9 => h9) rfl dX7_read_147 ?_
                            refine nv_if_eq (tgt := 170) hx hb dX7_read_150 (by decide) (by omega) (fun c16 => ?_) (fun c16 => ?_)
                            · refine lv_iinc (v := nI (k + 1)) (lv' := [(3, .int (nI (k + 1))), (4, .int ((vO In ty (sn In ty k) (GS In ty G k)).2.2.2.1)), (2, .int (nI 0)), (1, .int (nI (kL In ty + 1))), (0, .ref h)]) hx hb dX7_read_170 hl (k := 1) rfl (by show nI _ + Int32.ofInt 1 = _; exact nI_add _ 1) (by decide) rfl (fun ls hl => ?_)
                              refine lv_goto (tgt := 131) hx hb dX7_read_173 (by decide) ?_
                              exact ih131  (k + 1) ((vO In ty (sn In ty k) (GS In ty G k)).1) ((by omega)) ((fun j hj => by rcases (show j < k ∨ j = k by omega) with h | h; exact hr9 j h; subst h; exact c16)) (by omega) _ _ (by rw [vWy_0 (vO_w c16), vWd_0 (vO_w c16)] at hP; exact hP) hS ls (lv_sub hl [0, 2, 3, 4] rfl)
                            · have hR : rS In ty G = k := fd_some (fun j hj q => q (hr9 j hj)) c16 (by omega)
                              refine lv_aload_n hx hb dX7_read_153 rfl (lv_at hl 4 rfl) ?_
                              refine lv_iload_n hx hb dX7_read_154 rfl (lv_at hl 1 rfl) ?_
                              refine va_put (D := D) (ci := 9) (v := .int (nI k)) (ty := .int) (C := RX7) (T := TX7) (N := 18) hx hb hts in_X7 tyX7 tyX7_ok nmX7 hown hK.1 hP (hD _ _ _ _ _ _ _ _) hS 0 rfl rfl 9 (by decide) fl_29 (fun _ h9 => h9) rfl (by decide +kernel) rfl rfl (Nat.le_of_ble_eq_true rfl) dX7_read_155 (fun H locs hP _ hS => ?_)
                              have hP : va_P D vwCl [(h, .inr (9, [.ref aG, .ref aB, .ref aH, .int (nI ch), .ref aS, .int (nI hs), .ref aI, .int (nI 0), .int ea, .int (nI k), .int (nI (vWy (vO In ty (sn In ty k) (GS In ty G k)) wy)), .int (vWd (vO In ty (sn In ty k) (GS In ty G k)) wd), .ref aL, .int (nI ln), .int (nI ((vO In ty (sn In ty k) (GS In ty G k)).1)), .int (nI ((oE In ty (sn In ty (kL In ty))).1)), .int (nI 0), .ref aT])), (aG, .inl (cI, 128, .inl (gN ((vO In ty (sn In ty k) (GS In ty G k)).2.2.2.2)))), (aB, .inl (cI, 128, .inl (gN G))), (aH, .inl (cI, 1024, .inl (gN Hi))), (aS, .inl (cI, 128, .inl (gN Sv))), (aI, .inl (cI, 60, .inl (gN In))), (aL, .inl (cC, 40, .inl (gN Le))), (aT, .inl (cI, 360, .inl ((Tn In ty To (kL In ty + 1)))))] H := hP
                              refine lv_aload_n hx hb dX7_read_158 rfl (lv_at hl 4 rfl) ?_
                              refine lv_iconst (v := nI 2) hx hb dX7_read_159 (by decide) ?_
                              refine va_put (D := D) (ci := 9) (v := .int (nI 2)) (ty := .int) (C := RX7) (T := TX7) (N := 18) hx hb hts in_X7 tyX7 tyX7_ok nmX7 hown hK.1 hP (hD _ _ _ _ _ _ _ _) hS 0 rfl rfl 14 (by decide) fl_42 (fun _ h9 => h9) rfl (by decide +kernel) rfl rfl (Nat.le_of_ble_eq_true rfl) dX7_read_160 (fun H locs hP _ hS => ?_)
                              have hP : va_P D vwCl [(h, .inr (9, [.ref aG, .ref aB, .ref aH, .int (nI ch), .ref aS, .int (nI hs), .ref aI, .int (nI 0), .int ea, .int (nI k), .int (nI (vWy (vO In ty (sn In ty k) (GS In ty G k)) wy)), .int (vWd (vO In ty (sn In ty k) (GS In ty G k)) wd), .ref aL, .int (nI ln), .int (nI 2), .int (nI ((oE In ty (sn In ty (kL In ty))).1)), .int (nI 0), .ref aT])), (aG, .inl (cI, 128, .inl (gN ((vO In ty (sn In ty k) (GS In ty G k)).2.2.2.2)))), (aB, .inl (cI, 128, .inl (gN G))), (aH, .inl (cI, 1024, .inl (gN Hi))), (aS, .inl (cI, 128, .inl (gN Sv))), (aI, .inl (cI, 60, .inl (gN In))), (aL, .inl (cC, 40, .inl (gN Le))), (aT, .inl (cI, 360, .inl ((Tn In ty To (kL In ty + 1)))))] H := hP
                              refine lv_aload_n hx hb dX7_read_163 rfl (lv_at hl 4 rfl) ?_
                              refine lv_iload hx hb dX7_read_164 (lv_at hl 0 rfl) ?_
                              refine nv_kM (va_runV (As := [.int ((vO In ty (sn In ty k) (GS In ty G k)).2.2.2.1)]) (rest := []) ⟨hx, hb, hml, hown, hts⟩ (c_X7_kept l hD ((vO In ty (sn In ty k) (GS In ty G k)).2.2.2.1) (by omega) (by omega)) (cwV 1 hts gX7_read_X7_kept rfl rfl rfl (by decide +kernel) ⟨Nat.le_of_ble_eq_true rfl, Nat.le_of_ble_eq_true rfl⟩) (nv_pV hK hP (va_recv hK.1 hP (ci := 9) (q0 := 0) rfl rfl)) rfl rfl hl.1 rfl (lv_room (Nat.le_of_ble_eq_true rfl)) dX7_read_166 ⟨Nat.zero_le _, Nat.zero_le _⟩) hS (fun H locs hP hS => ?_)
                              have hP : va_P D vwCl [(h, .inr (9, [.ref aG, .ref aB, .ref aH, .int (nI ((if 2 = 0 then (if ch = 8 then 8 else ch + 1) else ch))), .ref aS, .int (nI hs), .ref aI, .int (nI 0), .int ea, .int (nI k), .int (nI (vWy (vO In ty (sn In ty k) (GS In ty G k)) wy)), .int (vWd (vO In ty (sn In ty k) (GS In ty G k)) wd), .ref aL, .int (nI ln), .int (nI 2), .int (nI ((oE In ty (sn In ty (kL In ty))).1)), .int (nI 0), .ref aT])), (aG, .inl (cI, 128, .inl (gN ((if 2 = 0 then (vO In ty (sn In ty k) (GS In ty G k)).2.2.2.2 else G))))), (aB, .inl (cI, 128, .inl (gN G))), (aH, .inl (cI, 1024, .inl (gN ((if 2 = 0 then hPush Hi G ch else Hi))))), (aS, .inl (cI, 128, .inl (gN Sv))), (aI, .inl (cI, 60, .inl (gN In))), (aL, .inl (cC, 40, .inl (gN Le))), (aT, .inl (cI, 360, .inl ((Tn In ty To (kL In ty + 1)))))] H := hP
                              exact nv_retM hq hx hb hr hlocks (nar_i _) (by rw [hR, if_neg hm, if_pos (show k < kL In ty + 1 by omega)] <;> rfl) hS hP (by rw [hR]; simp only [if_neg hm, if_pos (show k < kL In ty + 1 by omega)] <;> rfl) dX7_read_169
                      exact hloop14 _ 0 th ((Nat.zero_le _)) ((fun j hj => absurd hj (Nat.not_lt_zero j))) (Nat.lt_succ_self _) _ _ hP hS ls (lv_sub hl [0, 1, 2, 3] rfl)
                    · exact absurd c13 (by decide)
                  · have hm : mal In ty := Or.inr (Nat.lt_of_not_le c12)
                    refine lv_iconst (v := nI 1) hx hb dX7_read_91 (by decide) ?_
                    refine lv_goto (tgt := 96) hx hb dX7_read_92 (by decide) ?_
                    refine va_put (D := D) (ci := 9) (v := .int (nI 1)) (ty := .boolean) (C := RX7) (T := TX7) (N := 18) hx hb hts in_X7 tyX7 tyX7_ok nmX7 hown hK.1 hP (hD _ _ _ _ _ _ _ _) hS 0 rfl rfl 16 (by decide) fl_201 (fun _ h9 => h9) rfl (by decide +kernel) (nar_z (by omega)) (fit_z (by omega)) (Nat.le_of_ble_eq_true rfl) dX7_read_96 (fun H locs hP _ hS => ?_)
                    have hP : va_P D vwCl [(h, .inr (9, [.ref aG, .ref aB, .ref aH, .int (nI ch), .ref aS, .int (nI hs), .ref aI, .int (nI ty), .int ea, .int ra, .int (nI wy), .int wd, .ref aL, .int (nI ln), .int (nI th), .int (nI ((oE In ty (sn In ty (kL In ty))).1)), .int (nI 1), .ref aT])), (aG, .inl (cI, 128, .inl (gN G))), (aB, .inl (cI, 128, .inl (gN B))), (aH, .inl (cI, 1024, .inl (gN Hi))), (aS, .inl (cI, 128, .inl (gN Sv))), (aI, .inl (cI, 60, .inl (gN In))), (aL, .inl (cC, 40, .inl (gN Le))), (aT, .inl (cI, 360, .inl ((Tn In ty To (kL In ty + 1)))))] H := hP
                    refine lv_aload_n hx hb dX7_read_99 rfl (lv_at hl 2 rfl) ?_
                    refine lv_iconst (v := nI 0) hx hb dX7_read_100 (by decide) ?_
                    refine va_put (D := D) (ci := 9) (v := .int (nI 0)) (ty := .int) (C := RX7) (T := TX7) (N := 18) hx hb hts in_X7 tyX7 tyX7_ok nmX7 hown hK.1 hP (hD _ _ _ _ _ _ _ _) hS 0 rfl rfl 7 (by decide) fl_192 (fun _ h9 => h9) rfl (by decide +kernel) rfl rfl (Nat.le_of_ble_eq_true rfl) dX7_read_101 (fun H locs hP _ hS => ?_)
                    have hP : va_P D vwCl [(h, .inr (9, [.ref aG, .ref aB, .ref aH, .int (nI ch), .ref aS, .int (nI hs), .ref aI, .int (nI 0), .int ea, .int ra, .int (nI wy), .int wd, .ref aL, .int (nI ln), .int (nI th), .int (nI ((oE In ty (sn In ty (kL In ty))).1)), .int (nI 1), .ref aT])), (aG, .inl (cI, 128, .inl (gN G))), (aB, .inl (cI, 128, .inl (gN B))), (aH, .inl (cI, 1024, .inl (gN Hi))), (aS, .inl (cI, 128, .inl (gN Sv))), (aI, .inl (cI, 60, .inl (gN In))), (aL, .inl (cC, 40, .inl (gN Le))), (aT, .inl (cI, 360, .inl ((Tn In ty To (kL In ty + 1)))))] H := hP
                    refine lv_aload_n hx hb dX7_read_104 rfl (lv_at hl 2 rfl) ?_
                    refine va_get (D := D) (ci := 9) (v := .int (nI 1)) (C := RX7) (T := TX7) (N := 18) hx hb hts in_X7 hown hK.1 hP 0 rfl rfl 16 (by decide) fl_201 (fun _ h9 => h9) rfl dX7_read_105 ?_
                    refine nv_if_eq (tgt := 125) hx hb dX7_read_108 (by decide) (by omega) (fun c17 => ?_) (fun c17 => ?_)
                    · exact absurd c17 (by decide)
                    · refine lv_aload_n hx hb dX7_read_111 rfl (lv_at hl 2 rfl) ?_
                      refine lv_aload_n hx hb dX7_read_112 rfl (lv_at hl 2 rfl) ?_
                      refine va_get (D := D) (ci := 9) (v := .int (nI ((oE In ty (sn In ty (kL In ty))).1))) (C := RX7) (T := TX7) (N := 18) hx hb hts in_X7 hown hK.1 hP 0 rfl rfl 15 (by decide) fl_198 (fun _ h9 => h9) rfl dX7_read_113 ?_
                      refine va_put (D := D) (ci := 9) (v := .int (nI ((oE In ty (sn In ty (kL In ty))).1))) (ty := .int) (C := RX7) (T := TX7) (N := 18) hx hb hts in_X7 tyX7 tyX7_ok nmX7 hown hK.1 hP (hD _ _ _ _ _ _ _ _) hS 0 rfl rfl 8 (by decide) fl_25 (fun _ h9 => h9) rfl (by decide +kernel) rfl rfl (Nat.le_of_ble_eq_true rfl) dX7_read_116 (fun H locs hP _ hS => ?_)
                      have hP : va_P D vwCl [(h, .inr (9, [.ref aG, .ref aB, .ref aH, .int (nI ch), .ref aS, .int (nI hs), .ref aI, .int (nI 0), .int (nI ((oE In ty (sn In ty (kL In ty))).1)), .int ra, .int (nI wy), .int wd, .ref aL, .int (nI ln), .int (nI th), .int (nI ((oE In ty (sn In ty (kL In ty))).1)), .int (nI 1), .ref aT])), (aG, .inl (cI, 128, .inl (gN G))), (aB, .inl (cI, 128, .inl (gN B))), (aH, .inl (cI, 1024, .inl (gN Hi))), (aS, .inl (cI, 128, .inl (gN Sv))), (aI, .inl (cI, 60, .inl (gN In))), (aL, .inl (cC, 40, .inl (gN Le))), (aT, .inl (cI, 360, .inl ((Tn In ty To (kL In ty + 1)))))] H := hP
                      refine lv_aload_n hx hb dX7_read_119 rfl (lv_at hl 2 rfl) ?_
                      refine lv_iconst (v := nI 1) hx hb dX7_read_120 (by decide) ?_
                      refine nv_kM (va_runV (As := [.int (nI 1)]) (rest := []) ⟨hx, hb, hml, hown, hts⟩ (c_X7_fails l hD 1) (cwV 1 hts gX7_read_X7_fails rfl rfl rfl (by decide +kernel) ⟨Nat.le_of_ble_eq_true rfl, Nat.le_of_ble_eq_true rfl⟩) (nv_pV hK hP (va_recv hK.1 hP (ci := 9) (q0 := 0) rfl rfl)) rfl rfl hl.1 rfl (lv_room (Nat.le_of_ble_eq_true rfl)) dX7_read_121 ⟨Nat.zero_le _, Nat.zero_le _⟩) hS (fun H locs hP hS => ?_)
                      have hP : va_P D vwCl [(h, .inr (9, [.ref aG, .ref aB, .ref aH, .int (nI ch), .ref aS, .int (nI hs), .ref aI, .int (nI 0), .int (nI ((oE In ty (sn In ty (kL In ty))).1)), .int ra, .int (nI wy), .int wd, .ref aL, .int (nI ln), .int (nI 1), .int (nI ((oE In ty (sn In ty (kL In ty))).1)), .int (nI 1), .ref aT])), (aG, .inl (cI, 128, .inl (gN G))), (aB, .inl (cI, 128, .inl (gN B))), (aH, .inl (cI, 1024, .inl (gN Hi))), (aS, .inl (cI, 128, .inl (gN Sv))), (aI, .inl (cI, 60, .inl (gN In))), (aL, .inl (cC, 40, .inl (gN Le))), (aT, .inl (cI, 360, .inl ((Tn In ty To (kL In ty + 1)))))] H := hP
                      exact nv_retM hq hx hb hr hlocks (nar_i _) (by rw [if_pos hm] <;> rfl) hS hP (by simp only [if_pos hm] <;> rfl) dX7_read_124
              · exact absurd c10 (by decide)
            · exact absurd c9 (by decide)
          · refine lv_iconst (v := nI 1) hx hb dX7_read_45 (by decide) ?_
            refine lv_goto (tgt := 50) hx hb dX7_read_46 (by decide) ?_
            refine lv_istore_n (lv' := [(2, .int (nI 1)), (1, .int (nI (n + 1))), (0, .ref h)]) hx hb dX7_read_50 rfl hl (by decide) rfl (fun ls hl => ?_)
            refine lv_aload_n hx hb dX7_read_51 rfl (lv_at hl 2 rfl) ?_
            refine lv_dup hx hb dX7_read_52 rfl ?_
            refine va_get (D := D) (ci := 9) (v := .int (nI ((oE In ty (sn In ty n)).1))) (C := RX7) (T := TX7) (N := 18) hx hb hts in_X7 hown hK.1 hP 0 rfl rfl 15 (by decide) fl_198 (fun _ h9 => h9) rfl dX7_read_53 ?_
            refine lv_iload_n hx hb dX7_read_56 rfl (lv_at hl 0 rfl) ?_
            refine nv_if_eq (tgt := 64) hx hb dX7_read_57 (by decide) (by omega) (fun c18 => ?_) (fun c18 => ?_)
            · exact absurd c18 (by decide)
            · refine lv_iconst (v := nI 1) hx hb dX7_read_60 (by decide) ?_
              refine lv_goto (tgt := 65) hx hb dX7_read_61 (by decide) ?_
              refine nv_iadd hx hb dX7_read_65 ?_
              refine va_put (D := D) (ci := 9) (v := .int (nI ((oE In ty (sn In ty n)).1 + 1))) (ty := .int) (C := RX7) (T := TX7) (N := 18) hx hb hts in_X7 tyX7 tyX7_ok nmX7 hown hK.1 hP (hD _ _ _ _ _ _ _ _) hS 0 rfl rfl 15 (by decide) fl_198 (fun _ h9 => h9) rfl (by decide +kernel) rfl rfl (Nat.le_of_ble_eq_true rfl) dX7_read_66 (fun H locs hP _ hS => ?_)
              have hP : va_P D vwCl [(h, .inr (9, [.ref aG, .ref aB, .ref aH, .int (nI ch), .ref aS, .int (nI hs), .ref aI, .int (nI ty), .int ea, .int ra, .int (nI wy), .int wd, .ref aL, .int (nI ln), .int (nI th), .int (nI ((oE In ty (sn In ty n)).1 + 1)), .int (nI ((oE In ty (sn In ty n)).2)), .ref aT])), (aG, .inl (cI, 128, .inl (gN G))), (aB, .inl (cI, 128, .inl (gN B))), (aH, .inl (cI, 1024, .inl (gN Hi))), (aS, .inl (cI, 128, .inl (gN Sv))), (aI, .inl (cI, 60, .inl (gN In))), (aL, .inl (cC, 40, .inl (gN Le))), (aT, .inl (cI, 360, .inl ((Tn In ty To (n + 1)))))] H := hP
              refine lv_goto (tgt := 14) hx hb dX7_read_69 (by decide) ?_
              refine lv_iload_n hx hb dX7_read_14 rfl (lv_at hl 0 rfl) ?_
              refine nv_if_eq (tgt := 72) hx hb dX7_read_15 (by decide) (by omega) (fun c19 => ?_) (fun c19 => ?_)
              · exact absurd c19 (by decide)
              · exact ih18  (n + 1) ((fun j hj => by rcases (show j < n ∨ j = n by omega) with h | h; exact hg j h; subst h; exact ⟨c3, c8⟩)) (by omega) _ _ (by rw [c3] at hP; exact hP) hS ls (lv_sub hl [0, 1, 2] rfl)
    exact hloop2 _ 0 ((fun j hj => absurd hj (Nat.not_lt_zero j))) (Nat.lt_succ_self _) _ _ hP hS ls (lv_sub hl [0, 1, 2] rfl)
