def vWy (v : V) (wy : Nat) : Nat := if v.2.1 = 0 then wy else v.2.1
def vWd (v : V) (wd : Int32) : Int32 := if v.2.1 = 0 then wd else v.2.2.1

set_option maxHeartbeats 1000000 in
set_option maxRecDepth 100000 in
theorem c_X7_doorComes (l : Launch) {D : va_G} {cI cC : ClassId} {h aG aB aH aS aI aL aT : Nat} {G B Hi Sv In Le : Nat → Nat} {To : Nat → Int32} {ch hs ty wy ln th sp iw : Nat} {ea ra wd : Int32} {A : Nat → Prop} (hD : ∀ (G B Hi Sv In Le : Nat → Nat) (To : Nat → Int32) (fs : List Value), va_D A [(h, .inr (9, fs)), (aG, .inl (cI, 128, .inl (gN G))), (aB, .inl (cI, 128, .inl (gN B))), (aH, .inl (cI, 1024, .inl (gN Hi))), (aS, .inl (cI, 128, .inl (gN Sv))), (aI, .inl (cI, 60, .inl (gN In))), (aL, .inl (cC, 40, .inl (gN Le))), (aT, .inl (cI, 360, .inl To))]) {b : Nat} (hG : gWf b G) (a g : Int32) (z : Nat) (x y : Int32) : Met l yX7_doorComes wsX7_doorComes ({ frames := 2, cells := 0, slots := 0, locals := 44 }) (va_Pc [.ref h, .int a, .int g, .int (nI z), .int x, .int y] (sPre D [(cI, .int), (cC, .char)] [] (fun H => va_P D vwCl [(h, .inr (9, [.ref aG, .ref aB, .ref aH, .int (nI ch), .ref aS, .int (nI hs), .ref aI, .int (nI ty), .int ea, .int ra, .int (nI wy), .int wd, .ref aL, .int (nI ln), .int (nI th), .int (nI sp), .int (nI iw), .ref aT])), (aG, .inl (cI, 128, .inl (gN G))), (aB, .inl (cI, 128, .inl (gN B))), (aH, .inl (cI, 1024, .inl (gN Hi))), (aS, .inl (cI, 128, .inl (gN Sv))), (aI, .inl (cI, 60, .inl (gN In))), (aL, .inl (cC, 40, .inl (gN Le))), (aT, .inl (cI, 360, .inl To))] H))) (mQ D ((vDoor G a g z x y).2.2.2.1) [(h, .inr (9, [.ref aG, .ref aB, .ref aH, .int (nI ch), .ref aS, .int (nI hs), .ref aI, .int (nI ty), .int ea, .int ra, .int (nI (vWy (vDoor G a g z x y) wy)), .int (vWd (vDoor G a g z x y) wd), .ref aL, .int (nI ln), .int (nI ((vDoor G a g z x y).1)), .int (nI sp), .int (nI iw), .ref aT])), (aG, .inl (cI, 128, .inl (gN ((vDoor G a g z x y).2.2.2.2)))), (aB, .inl (cI, 128, .inl (gN B))), (aH, .inl (cI, 1024, .inl (gN Hi))), (aS, .inl (cI, 128, .inl (gN Sv))), (aI, .inl (cI, 60, .inl (gN In))), (aL, .inl (cC, 40, .inl (gN Le))), (aT, .inl (cI, 360, .inl To))] A) 0 0 A := by
  refine nv_met (cc := cX7_doorComes) (maxL := 7) (ret := (some .int)) (by decide) rfl (Nat.le_of_ble_eq_true rfl) ?_
  intro p0 e0 s m0 args below meth c0 Q hq hargs hnA hpre ls hl
  obtain ⟨hx, hb, hr, hts, hown, hlocks, hml⟩ := hnA
  obtain ⟨hP, hK⟩ := hpre
  have hown : s.vm.findClass RX7 = some m0.cls := hown
  have hP : va_P D vwCl [(h, .inr (9, [.ref aG, .ref aB, .ref aH, .int (nI ch), .ref aS, .int (nI hs), .ref aI, .int (nI ty), .int ea, .int ra, .int (nI wy), .int wd, .ref aL, .int (nI ln), .int (nI th), .int (nI sp), .int (nI iw), .ref aT])), (aG, .inl (cI, 128, .inl (gN G))), (aB, .inl (cI, 128, .inl (gN B))), (aH, .inl (cI, 1024, .inl (gN Hi))), (aS, .inl (cI, 128, .inl (gN Sv))), (aI, .inl (cI, 60, .inl (gN In))), (aL, .inl (cC, 40, .inl (gN Le))), (aT, .inl (cI, 360, .inl To))] s.heap := hP
  have hl : lv_has ls 7 [(0, .ref h), (1, .int a), (2, .int g), (3, .int (nI z)), (4, .int x), (5, .int y)] := hl
  have hS : va_S A s.heap s.heap [] := va_S.rf
  have in_X7 : ∀ w ∈ wsX70, w ∈ wsX7_doorComes := by decide +kernel
  have fl_7 := hts (.fieldLink RX7 7 "DoorDialectModel" "g" "[I") (by decide +kernel)
  obtain ⟨g_b, g_k, g_0, g_1, g_2, g_e, g_d, g_t, g_y, g_s, g_h⟩ := id hG
  refine lv_iload_n hx hb dX7_doorComes_0 rfl (lv_at hl 1 rfl) ?_
  refine nv_kS (va_runS (As := [.int a]) (rest := []) ⟨hx, hb, hml, hown, hts⟩ (c_X7_isThird l (a)) (va_cwS 1 hts gX7_doorComes_X7_isThird rfl rfl rfl (by decide +kernel) ⟨Nat.le_of_ble_eq_true rfl, Nat.le_of_ble_eq_true rfl⟩) (nv_pS hK trivial) rfl rfl hl.1 rfl (lv_room (Nat.le_of_ble_eq_true rfl)) dX7_doorComes_1 ⟨Nat.zero_le _, Nat.zero_le _⟩) ?_
  refine nv_ifb_eq (tgt := 21) hx hb dX7_doorComes_4 (by decide) (fun c1 => ?_) (fun c1 => ?_)
  · refine lv_aload_n hx hb dX7_doorComes_21 rfl (lv_at hl 0 rfl) ?_
    refine lv_iconst (v := nI 1) hx hb dX7_doorComes_22 (by decide) ?_
    refine nv_kM (va_runV (As := [.int (nI 1)]) (rest := []) ⟨hx, hb, hml, hown, hts⟩ (c_X7_fails l hD 1) (cwV 1 hts gX7_doorComes_X7_fails rfl rfl rfl (by decide +kernel) ⟨Nat.le_of_ble_eq_true rfl, Nat.le_of_ble_eq_true rfl⟩) (nv_pV hK hP (va_recv hK.1 hP (ci := 9) (q0 := 0) rfl rfl)) rfl rfl hl.1 rfl (lv_room (Nat.le_of_ble_eq_true rfl)) dX7_doorComes_23 ⟨Nat.zero_le _, Nat.zero_le _⟩) hS (fun H locs hP hS => ?_)
    have hP : va_P D vwCl [(h, .inr (9, [.ref aG, .ref aB, .ref aH, .int (nI ch), .ref aS, .int (nI hs), .ref aI, .int (nI ty), .int ea, .int ra, .int (nI wy), .int wd, .ref aL, .int (nI ln), .int (nI 1), .int (nI sp), .int (nI iw), .ref aT])), (aG, .inl (cI, 128, .inl (gN G))), (aB, .inl (cI, 128, .inl (gN B))), (aH, .inl (cI, 1024, .inl (gN Hi))), (aS, .inl (cI, 128, .inl (gN Sv))), (aI, .inl (cI, 60, .inl (gN In))), (aL, .inl (cC, 40, .inl (gN Le))), (aT, .inl (cI, 360, .inl To))] H := hP
    exact nv_retM hq hx hb hr hlocks (nar_i _) (by unfold vDoor; rw [if_pos (Or.inl c1)]; rfl) hS hP (by unfold vDoor; rw [if_pos (Or.inl c1)]; rfl) dX7_doorComes_26
  · obtain ⟨ak, h_ak, rfl⟩ := iR_of c1 (by decide)
    have et_ak : tN (nI ak) = ak := tN_nI (by omega)
    refine lv_iload_n hx hb dX7_doorComes_7 rfl (lv_at hl 2 rfl) ?_
    refine nv_kS (va_runS (As := [.int g]) (rest := []) ⟨hx, hb, hml, hown, hts⟩ (c_X7_isThird l (g)) (va_cwS 1 hts gX7_doorComes_X7_isThird rfl rfl rfl (by decide +kernel) ⟨Nat.le_of_ble_eq_true rfl, Nat.le_of_ble_eq_true rfl⟩) (nv_pS hK trivial) rfl rfl hl.1 rfl (lv_room (Nat.le_of_ble_eq_true rfl)) dX7_doorComes_8 ⟨Nat.zero_le _, Nat.zero_le _⟩) ?_
    refine nv_ifb_eq (tgt := 21) hx hb dX7_doorComes_11 (by decide) (fun c2 => ?_) (fun c2 => ?_)
    · refine lv_aload_n hx hb dX7_doorComes_21 rfl (lv_at hl 0 rfl) ?_
      refine lv_iconst (v := nI 1) hx hb dX7_doorComes_22 (by decide) ?_
      refine nv_kM (va_runV (As := [.int (nI 1)]) (rest := []) ⟨hx, hb, hml, hown, hts⟩ (c_X7_fails l hD 1) (cwV 1 hts gX7_doorComes_X7_fails rfl rfl rfl (by decide +kernel) ⟨Nat.le_of_ble_eq_true rfl, Nat.le_of_ble_eq_true rfl⟩) (nv_pV hK hP (va_recv hK.1 hP (ci := 9) (q0 := 0) rfl rfl)) rfl rfl hl.1 rfl (lv_room (Nat.le_of_ble_eq_true rfl)) dX7_doorComes_23 ⟨Nat.zero_le _, Nat.zero_le _⟩) hS (fun H locs hP hS => ?_)
      have hP : va_P D vwCl [(h, .inr (9, [.ref aG, .ref aB, .ref aH, .int (nI ch), .ref aS, .int (nI hs), .ref aI, .int (nI ty), .int ea, .int ra, .int (nI wy), .int wd, .ref aL, .int (nI ln), .int (nI 1), .int (nI sp), .int (nI iw), .ref aT])), (aG, .inl (cI, 128, .inl (gN G))), (aB, .inl (cI, 128, .inl (gN B))), (aH, .inl (cI, 1024, .inl (gN Hi))), (aS, .inl (cI, 128, .inl (gN Sv))), (aI, .inl (cI, 60, .inl (gN In))), (aL, .inl (cC, 40, .inl (gN Le))), (aT, .inl (cI, 360, .inl To))] H := hP
      exact nv_retM hq hx hb hr hlocks (nar_i _) (by unfold vDoor; simp only [et_ak]; rw [if_pos (Or.inr (Or.inl c2))]; rfl) hS hP (by unfold vDoor; simp only [et_ak]; rw [if_pos (Or.inr (Or.inl c2))]; rfl) dX7_doorComes_26
    · obtain ⟨gk, h_gk, rfl⟩ := iR_of c2 (by decide)
      have et_gk : tN (nI gk) = gk := tN_nI (by omega)
      refine lv_iload hx hb dX7_doorComes_14 (lv_at hl 4 rfl) ?_
      refine lv_iload hx hb dX7_doorComes_16 (lv_at hl 5 rfl) ?_
      refine lv_icmp_ne (tgt := 27) hx hb dX7_doorComes_18 (by decide) (fun c3 => ?_) (fun c3 => ?_)
      · refine lv_iload hx hb dX7_doorComes_27 (lv_at hl 4 rfl) ?_
        refine nv_kS (va_runS (As := [.int x]) (rest := []) ⟨hx, hb, hml, hown, hts⟩ (c_X7_isRoom l (x)) (va_cwS 1 hts gX7_doorComes_X7_isRoom rfl rfl rfl (by decide +kernel) ⟨Nat.le_of_ble_eq_true rfl, Nat.le_of_ble_eq_true rfl⟩) (nv_pS hK trivial) rfl rfl hl.1 rfl (lv_room (Nat.le_of_ble_eq_true rfl)) dX7_doorComes_29 ⟨Nat.zero_le _, Nat.zero_le _⟩) ?_
        refine nv_ifb_eq (tgt := 43) hx hb dX7_doorComes_32 (by decide) (fun c4 => ?_) (fun c4 => ?_)
        · refine lv_aload_n hx hb dX7_doorComes_43 rfl (lv_at hl 0 rfl) ?_
          refine lv_iconst (v := nI 2) hx hb dX7_doorComes_44 (by decide) ?_
          refine nv_kM (va_runV (As := [.int (nI 2)]) (rest := []) ⟨hx, hb, hml, hown, hts⟩ (c_X7_fails l hD 2) (cwV 1 hts gX7_doorComes_X7_fails rfl rfl rfl (by decide +kernel) ⟨Nat.le_of_ble_eq_true rfl, Nat.le_of_ble_eq_true rfl⟩) (nv_pV hK hP (va_recv hK.1 hP (ci := 9) (q0 := 0) rfl rfl)) rfl rfl hl.1 rfl (lv_room (Nat.le_of_ble_eq_true rfl)) dX7_doorComes_45 ⟨Nat.zero_le _, Nat.zero_le _⟩) hS (fun H locs hP hS => ?_)
          have hP : va_P D vwCl [(h, .inr (9, [.ref aG, .ref aB, .ref aH, .int (nI ch), .ref aS, .int (nI hs), .ref aI, .int (nI ty), .int ea, .int ra, .int (nI wy), .int wd, .ref aL, .int (nI ln), .int (nI 2), .int (nI sp), .int (nI iw), .ref aT])), (aG, .inl (cI, 128, .inl (gN G))), (aB, .inl (cI, 128, .inl (gN B))), (aH, .inl (cI, 1024, .inl (gN Hi))), (aS, .inl (cI, 128, .inl (gN Sv))), (aI, .inl (cI, 60, .inl (gN In))), (aL, .inl (cC, 40, .inl (gN Le))), (aT, .inl (cI, 360, .inl To))] H := hP
          exact nv_retM hq hx hb hr hlocks (nar_i _) (by unfold vDoor; simp only [et_ak, et_gk]; rw [if_neg (fun q => q.elim (fun z => z c1) (fun q => q.elim (fun z => z c2) c3)), if_pos (Or.inl c4)]; rfl) hS hP (by unfold vDoor; simp only [et_ak, et_gk]; rw [if_neg (fun q => q.elim (fun z => z c1) (fun q => q.elim (fun z => z c2) c3)), if_pos (Or.inl c4)]; rfl) dX7_doorComes_48
        · obtain ⟨xk, h_xk, rfl⟩ := iR_of c4 (by decide)
          have et_xk : tN (nI xk) = xk := tN_nI (by omega)
          refine lv_iload hx hb dX7_doorComes_35 (lv_at hl 5 rfl) ?_
          refine nv_kS (va_runS (As := [.int y]) (rest := []) ⟨hx, hb, hml, hown, hts⟩ (c_X7_isRoom l (y)) (va_cwS 1 hts gX7_doorComes_X7_isRoom rfl rfl rfl (by decide +kernel) ⟨Nat.le_of_ble_eq_true rfl, Nat.le_of_ble_eq_true rfl⟩) (nv_pS hK trivial) rfl rfl hl.1 rfl (lv_room (Nat.le_of_ble_eq_true rfl)) dX7_doorComes_37 ⟨Nat.zero_le _, Nat.zero_le _⟩) ?_
          refine nv_ifb_ne (tgt := 49) hx hb dX7_doorComes_40 (by decide) (fun c5 => ?_) (fun c5 => ?_)
          · obtain ⟨yk, h_yk, rfl⟩ := iR_of c5 (by decide)
            have et_yk : tN (nI yk) = yk := tN_nI (by omega)
            refine lv_aload_n hx hb dX7_doorComes_49 rfl (lv_at hl 0 rfl) ?_
            refine va_get (D := D) (ci := 9) (v := .ref aG) (C := RX7) (T := TX7) (N := 18) hx hb hts in_X7 hown hK.1 hP 0 rfl rfl 0 (by decide) fl_7 (fun _ h9 => h9) rfl dX7_doorComes_50 ?_
            refine lv_iconst (v := nI 0) hx hb dX7_doorComes_53 (by decide) ?_
            refine nv_gald (i := 0) hx hb hK.1 hP 1 0 rfl rfl (by first | omega | (simp only [gEndAt]; omega)) (by decide) dX7_doorComes_54 ?_
            have q6 : G 0 < 2 ^ 20 := hG.lt (k := 0) (by omega)
            refine lv_istore (lv' := [(6, .int (nI (G 0))), (0, .ref h), (1, .int (nI ak)), (2, .int (nI gk)), (3, .int (nI z)), (4, .int (nI xk)), (5, .int (nI yk))]) hx hb dX7_doorComes_55 hl (by decide) rfl (fun ls hl => ?_)
            refine lv_iload hx hb dX7_doorComes_57 (lv_at hl 0 rfl) ?_
            refine lv_bipush (v := nI 8) hx hb dX7_doorComes_59 (by decide) ?_
            refine nv_icmp_ne (tgt := 73) hx hb dX7_doorComes_61 (by decide) (by omega) (by omega) (fun c7 => ?_) (fun c7 => ?_)
            · refine lv_aload_n hx hb dX7_doorComes_73 rfl (lv_at hl 1 rfl) ?_
              refine va_get (D := D) (ci := 9) (v := .ref aG) (C := RX7) (T := TX7) (N := 18) hx hb hts in_X7 hown hK.1 hP 0 rfl rfl 0 (by decide) fl_7 (fun _ h9 => h9) rfl dX7_doorComes_74 ?_
              refine lv_bipush (v := nI 32) hx hb dX7_doorComes_77 (by decide) ?_
              refine lv_iload hx hb dX7_doorComes_79 (lv_at hl 0 rfl) ?_
              refine nv_iadd hx hb dX7_doorComes_81 ?_
              refine lv_iload_n hx hb dX7_doorComes_82 rfl (lv_at hl 2 rfl) ?_
              refine nv_gast (i := 32 + (G 0)) (v := ak) hx hb hK.1 hP (hD _ _ _ _ _ _ _ _) hS 1 0 rfl rfl (by first | omega | (simp only [gEndAt]; omega)) (by decide) dX7_doorComes_83 (fun H locs hP hS => ?_)
              have hP : va_P D vwCl [(h, .inr (9, [.ref aG, .ref aB, .ref aH, .int (nI ch), .ref aS, .int (nI hs), .ref aI, .int (nI ty), .int ea, .int ra, .int (nI wy), .int wd, .ref aL, .int (nI ln), .int (nI th), .int (nI sp), .int (nI iw), .ref aT])), (aG, .inl (cI, 128, .inl (gN ((va_up G (32 + (G 0)) (ak)))))), (aB, .inl (cI, 128, .inl (gN B))), (aH, .inl (cI, 1024, .inl (gN Hi))), (aS, .inl (cI, 128, .inl (gN Sv))), (aI, .inl (cI, 60, .inl (gN In))), (aL, .inl (cC, 40, .inl (gN Le))), (aT, .inl (cI, 360, .inl To))] H := hP
              refine lv_aload_n hx hb dX7_doorComes_84 rfl (lv_at hl 1 rfl) ?_
              refine va_get (D := D) (ci := 9) (v := .ref aG) (C := RX7) (T := TX7) (N := 18) hx hb hts in_X7 hown hK.1 hP 0 rfl rfl 0 (by decide) fl_7 (fun _ h9 => h9) rfl dX7_doorComes_85 ?_
              refine lv_bipush (v := nI 40) hx hb dX7_doorComes_88 (by decide) ?_
              refine lv_iload hx hb dX7_doorComes_90 (lv_at hl 0 rfl) ?_
              refine nv_iadd hx hb dX7_doorComes_92 ?_
              refine lv_iload_n hx hb dX7_doorComes_93 rfl (lv_at hl 3 rfl) ?_
              refine nv_gast (i := 40 + (G 0)) (v := gk) hx hb hK.1 hP (hD _ _ _ _ _ _ _ _) hS 1 0 rfl rfl (by first | omega | (simp only [gEndAt]; omega)) (by decide) dX7_doorComes_94 (fun H locs hP hS => ?_)
              have hP : va_P D vwCl [(h, .inr (9, [.ref aG, .ref aB, .ref aH, .int (nI ch), .ref aS, .int (nI hs), .ref aI, .int (nI ty), .int ea, .int ra, .int (nI wy), .int wd, .ref aL, .int (nI ln), .int (nI th), .int (nI sp), .int (nI iw), .ref aT])), (aG, .inl (cI, 128, .inl (gN ((va_up (va_up G (32 + (G 0)) (ak)) (40 + (G 0)) (gk)))))), (aB, .inl (cI, 128, .inl (gN B))), (aH, .inl (cI, 1024, .inl (gN Hi))), (aS, .inl (cI, 128, .inl (gN Sv))), (aI, .inl (cI, 60, .inl (gN In))), (aL, .inl (cC, 40, .inl (gN Le))), (aT, .inl (cI, 360, .inl To))] H := hP
              refine lv_aload_n hx hb dX7_doorComes_95 rfl (lv_at hl 1 rfl) ?_
              refine va_get (D := D) (ci := 9) (v := .ref aG) (C := RX7) (T := TX7) (N := 18) hx hb hts in_X7 hown hK.1 hP 0 rfl rfl 0 (by decide) fl_7 (fun _ h9 => h9) rfl dX7_doorComes_96 ?_
              refine lv_bipush (v := nI 48) hx hb dX7_doorComes_99 (by decide) ?_
              refine lv_iload hx hb dX7_doorComes_101 (lv_at hl 0 rfl) ?_
              refine nv_iadd hx hb dX7_doorComes_103 ?_
              refine lv_iload_n hx hb dX7_doorComes_104 rfl (lv_at hl 4 rfl) ?_
              refine nv_gast (i := 48 + (G 0)) (v := z) hx hb hK.1 hP (hD _ _ _ _ _ _ _ _) hS 1 0 rfl rfl (by first | omega | (simp only [gEndAt]; omega)) (by decide) dX7_doorComes_105 (fun H locs hP hS => ?_)
              have hP : va_P D vwCl [(h, .inr (9, [.ref aG, .ref aB, .ref aH, .int (nI ch), .ref aS, .int (nI hs), .ref aI, .int (nI ty), .int ea, .int ra, .int (nI wy), .int wd, .ref aL, .int (nI ln), .int (nI th), .int (nI sp), .int (nI iw), .ref aT])), (aG, .inl (cI, 128, .inl (gN ((va_up (va_up (va_up G (32 + (G 0)) (ak)) (40 + (G 0)) (gk)) (48 + (G 0)) (z)))))), (aB, .inl (cI, 128, .inl (gN B))), (aH, .inl (cI, 1024, .inl (gN Hi))), (aS, .inl (cI, 128, .inl (gN Sv))), (aI, .inl (cI, 60, .inl (gN In))), (aL, .inl (cC, 40, .inl (gN Le))), (aT, .inl (cI, 360, .inl To))] H := hP
              refine lv_aload_n hx hb dX7_doorComes_106 rfl (lv_at hl 1 rfl) ?_
              refine va_get (D := D) (ci := 9) (v := .ref aG) (C := RX7) (T := TX7) (N := 18) hx hb hts in_X7 hown hK.1 hP 0 rfl rfl 0 (by decide) fl_7 (fun _ h9 => h9) rfl dX7_doorComes_107 ?_
              refine lv_bipush (v := nI 88) hx hb dX7_doorComes_110 (by decide) ?_
              refine lv_iload hx hb dX7_doorComes_112 (lv_at hl 0 rfl) ?_
              refine nv_iadd hx hb dX7_doorComes_114 ?_
              refine lv_iload hx hb dX7_doorComes_115 (lv_at hl 5 rfl) ?_
              refine nv_gast (i := 88 + (G 0)) (v := xk) hx hb hK.1 hP (hD _ _ _ _ _ _ _ _) hS 1 0 rfl rfl (by first | omega | (simp only [gEndAt]; omega)) (by decide) dX7_doorComes_117 (fun H locs hP hS => ?_)
              have hP : va_P D vwCl [(h, .inr (9, [.ref aG, .ref aB, .ref aH, .int (nI ch), .ref aS, .int (nI hs), .ref aI, .int (nI ty), .int ea, .int ra, .int (nI wy), .int wd, .ref aL, .int (nI ln), .int (nI th), .int (nI sp), .int (nI iw), .ref aT])), (aG, .inl (cI, 128, .inl (gN ((va_up (va_up (va_up (va_up G (32 + (G 0)) (ak)) (40 + (G 0)) (gk)) (48 + (G 0)) (z)) (88 + (G 0)) (xk)))))), (aB, .inl (cI, 128, .inl (gN B))), (aH, .inl (cI, 1024, .inl (gN Hi))), (aS, .inl (cI, 128, .inl (gN Sv))), (aI, .inl (cI, 60, .inl (gN In))), (aL, .inl (cC, 40, .inl (gN Le))), (aT, .inl (cI, 360, .inl To))] H := hP
              refine lv_aload_n hx hb dX7_doorComes_118 rfl (lv_at hl 1 rfl) ?_
              refine va_get (D := D) (ci := 9) (v := .ref aG) (C := RX7) (T := TX7) (N := 18) hx hb hts in_X7 hown hK.1 hP 0 rfl rfl 0 (by decide) fl_7 (fun _ h9 => h9) rfl dX7_doorComes_119 ?_
              refine lv_bipush (v := nI 96) hx hb dX7_doorComes_122 (by decide) ?_
              refine lv_iload hx hb dX7_doorComes_124 (lv_at hl 0 rfl) ?_
              refine nv_iadd hx hb dX7_doorComes_126 ?_
              refine lv_iload hx hb dX7_doorComes_127 (lv_at hl 6 rfl) ?_
              refine nv_gast (i := 96 + (G 0)) (v := yk) hx hb hK.1 hP (hD _ _ _ _ _ _ _ _) hS 1 0 rfl rfl (by first | omega | (simp only [gEndAt]; omega)) (by decide) dX7_doorComes_129 (fun H locs hP hS => ?_)
              have hP : va_P D vwCl [(h, .inr (9, [.ref aG, .ref aB, .ref aH, .int (nI ch), .ref aS, .int (nI hs), .ref aI, .int (nI ty), .int ea, .int ra, .int (nI wy), .int wd, .ref aL, .int (nI ln), .int (nI th), .int (nI sp), .int (nI iw), .ref aT])), (aG, .inl (cI, 128, .inl (gN ((va_up (va_up (va_up (va_up (va_up G (32 + (G 0)) (ak)) (40 + (G 0)) (gk)) (48 + (G 0)) (z)) (88 + (G 0)) (xk)) (96 + (G 0)) (yk)))))), (aB, .inl (cI, 128, .inl (gN B))), (aH, .inl (cI, 1024, .inl (gN Hi))), (aS, .inl (cI, 128, .inl (gN Sv))), (aI, .inl (cI, 60, .inl (gN In))), (aL, .inl (cC, 40, .inl (gN Le))), (aT, .inl (cI, 360, .inl To))] H := hP
              refine lv_aload_n hx hb dX7_doorComes_130 rfl (lv_at hl 1 rfl) ?_
              refine va_get (D := D) (ci := 9) (v := .ref aG) (C := RX7) (T := TX7) (N := 18) hx hb hts in_X7 hown hK.1 hP 0 rfl rfl 0 (by decide) fl_7 (fun _ h9 => h9) rfl dX7_doorComes_131 ?_
              refine lv_iconst (v := nI 0) hx hb dX7_doorComes_134 (by decide) ?_
              refine lv_dup2_11 hx hb dX7_doorComes_135 rfl rfl ?_
              refine nv_gald (i := 0) hx hb hK.1 hP 1 0 rfl rfl (by first | omega | (simp only [gEndAt]; omega)) (by decide) dX7_doorComes_136 ?_
              refine lv_iconst (v := nI 1) hx hb dX7_doorComes_137 (by decide) ?_
              refine nv_iadd hx hb dX7_doorComes_138 ?_
              refine nv_gast (i := 0) (v := (va_up (va_up (va_up (va_up (va_up G (32 + (G 0)) (ak)) (40 + (G 0)) (gk)) (48 + (G 0)) (z)) (88 + (G 0)) (xk)) (96 + (G 0)) (yk)) 0 + 1) hx hb hK.1 hP (hD _ _ _ _ _ _ _ _) hS 1 0 rfl rfl (by first | omega | (simp only [gEndAt]; omega)) (by decide) dX7_doorComes_139 (fun H locs hP hS => ?_)
              have hP : va_P D vwCl [(h, .inr (9, [.ref aG, .ref aB, .ref aH, .int (nI ch), .ref aS, .int (nI hs), .ref aI, .int (nI ty), .int ea, .int ra, .int (nI wy), .int wd, .ref aL, .int (nI ln), .int (nI th), .int (nI sp), .int (nI iw), .ref aT])), (aG, .inl (cI, 128, .inl (gN ((va_up (va_up (va_up (va_up (va_up (va_up G (32 + (G 0)) (ak)) (40 + (G 0)) (gk)) (48 + (G 0)) (z)) (88 + (G 0)) (xk)) (96 + (G 0)) (yk)) (0) ((va_up (va_up (va_up (va_up (va_up G (32 + (G 0)) (ak)) (40 + (G 0)) (gk)) (48 + (G 0)) (z)) (88 + (G 0)) (xk)) (96 + (G 0)) (yk)) 0 + 1)))))), (aB, .inl (cI, 128, .inl (gN B))), (aH, .inl (cI, 1024, .inl (gN Hi))), (aS, .inl (cI, 128, .inl (gN Sv))), (aI, .inl (cI, 60, .inl (gN In))), (aL, .inl (cC, 40, .inl (gN Le))), (aT, .inl (cI, 360, .inl To))] H := hP
              refine lv_aload_n hx hb dX7_doorComes_140 rfl (lv_at hl 1 rfl) ?_
              refine lv_iload hx hb dX7_doorComes_141 (lv_at hl 0 rfl) ?_
              refine nv_kM (va_runV (As := [.int (nI (G 0))]) (rest := []) ⟨hx, hb, hml, hown, hts⟩ (c_X7_done l hD (nI (G 0))) (cwV 1 hts gX7_doorComes_X7_done rfl rfl rfl (by decide +kernel) ⟨Nat.le_of_ble_eq_true rfl, Nat.le_of_ble_eq_true rfl⟩) (nv_pV hK hP (va_recv hK.1 hP (ci := 9) (q0 := 0) rfl rfl)) rfl rfl hl.1 rfl (lv_room (Nat.le_of_ble_eq_true rfl)) dX7_doorComes_143 ⟨Nat.zero_le _, Nat.zero_le _⟩) hS (fun H locs hP hS => ?_)
              have hP : va_P D vwCl [(h, .inr (9, [.ref aG, .ref aB, .ref aH, .int (nI ch), .ref aS, .int (nI hs), .ref aI, .int (nI ty), .int ea, .int ra, .int (nI wy), .int wd, .ref aL, .int (nI ln), .int (nI 0), .int (nI sp), .int (nI iw), .ref aT])), (aG, .inl (cI, 128, .inl (gN ((va_up (va_up (va_up (va_up (va_up (va_up G (32 + (G 0)) (ak)) (40 + (G 0)) (gk)) (48 + (G 0)) (z)) (88 + (G 0)) (xk)) (96 + (G 0)) (yk)) (0) ((va_up (va_up (va_up (va_up (va_up G (32 + (G 0)) (ak)) (40 + (G 0)) (gk)) (48 + (G 0)) (z)) (88 + (G 0)) (xk)) (96 + (G 0)) (yk)) 0 + 1)))))), (aB, .inl (cI, 128, .inl (gN B))), (aH, .inl (cI, 1024, .inl (gN Hi))), (aS, .inl (cI, 128, .inl (gN Sv))), (aI, .inl (cI, 60, .inl (gN In))), (aL, .inl (cC, 40, .inl (gN Le))), (aT, .inl (cI, 360, .inl To))] H := hP
              exact nv_retM hq hx hb hr hlocks (nar_i _) (by unfold vDoor; simp only [et_ak, et_gk, et_xk, et_yk]; rw [if_neg (fun q => q.elim (fun z => z c1) (fun q => q.elim (fun z => z c2) c3)), if_neg (fun q => q.elim (fun z => z c4) (fun z => z c5)), if_neg c7]; rfl) hS hP (by unfold vDoor; simp only [et_ak, et_gk, et_xk, et_yk]; rw [if_neg (fun q => q.elim (fun z => z c1) (fun q => q.elim (fun z => z c2) c3)), if_neg (fun q => q.elim (fun z => z c4) (fun z => z c5)), if_neg c7]; rfl) dX7_doorComes_146
            · refine lv_aload_n hx hb dX7_doorComes_64 rfl (lv_at hl 1 rfl) ?_
              refine lv_iconst (v := nI 1) hx hb dX7_doorComes_65 (by decide) ?_
              refine lv_bipush (v := nI 8) hx hb dX7_doorComes_66 (by decide) ?_
              refine lv_iconst (v := nI 3) hx hb dX7_doorComes_68 (by decide) ?_
              refine nv_kM (va_runV (As := [.int (nI 1), .int (nI 8), .int (nI 3)]) (rest := []) ⟨hx, hb, hml, hown, hts⟩ (c_X7_refused l hD 1 (nI (8)) 3) (cwV 3 hts gX7_doorComes_X7_refused rfl rfl rfl (by decide +kernel) ⟨Nat.le_of_ble_eq_true rfl, Nat.le_of_ble_eq_true rfl⟩) (nv_pV hK hP (va_recv hK.1 hP (ci := 9) (q0 := 0) rfl rfl)) rfl rfl hl.1 rfl (lv_room (Nat.le_of_ble_eq_true rfl)) dX7_doorComes_69 ⟨Nat.zero_le _, Nat.zero_le _⟩) hS (fun H locs hP hS => ?_)
              have hP : va_P D vwCl [(h, .inr (9, [.ref aG, .ref aB, .ref aH, .int (nI ch), .ref aS, .int (nI hs), .ref aI, .int (nI ty), .int ea, .int ra, .int (nI 1), .int (nI (8)), .ref aL, .int (nI ln), .int (nI 3), .int (nI sp), .int (nI iw), .ref aT])), (aG, .inl (cI, 128, .inl (gN G))), (aB, .inl (cI, 128, .inl (gN B))), (aH, .inl (cI, 1024, .inl (gN Hi))), (aS, .inl (cI, 128, .inl (gN Sv))), (aI, .inl (cI, 60, .inl (gN In))), (aL, .inl (cC, 40, .inl (gN Le))), (aT, .inl (cI, 360, .inl To))] H := hP
              exact nv_retM hq hx hb hr hlocks (nar_i _) (by unfold vDoor; simp only [et_ak, et_gk, et_xk, et_yk]; rw [if_neg (fun q => q.elim (fun z => z c1) (fun q => q.elim (fun z => z c2) c3)), if_neg (fun q => q.elim (fun z => z c4) (fun z => z c5)), if_pos c7]; rfl) hS hP (by unfold vDoor; simp only [et_ak, et_gk, et_xk, et_yk]; rw [if_neg (fun q => q.elim (fun z => z c1) (fun q => q.elim (fun z => z c2) c3)), if_neg (fun q => q.elim (fun z => z c4) (fun z => z c5)), if_pos c7]; rfl) dX7_doorComes_72
          · refine lv_aload_n hx hb dX7_doorComes_43 rfl (lv_at hl 0 rfl) ?_
            refine lv_iconst (v := nI 2) hx hb dX7_doorComes_44 (by decide) ?_
            refine nv_kM (va_runV (As := [.int (nI 2)]) (rest := []) ⟨hx, hb, hml, hown, hts⟩ (c_X7_fails l hD 2) (cwV 1 hts gX7_doorComes_X7_fails rfl rfl rfl (by decide +kernel) ⟨Nat.le_of_ble_eq_true rfl, Nat.le_of_ble_eq_true rfl⟩) (nv_pV hK hP (va_recv hK.1 hP (ci := 9) (q0 := 0) rfl rfl)) rfl rfl hl.1 rfl (lv_room (Nat.le_of_ble_eq_true rfl)) dX7_doorComes_45 ⟨Nat.zero_le _, Nat.zero_le _⟩) hS (fun H locs hP hS => ?_)
            have hP : va_P D vwCl [(h, .inr (9, [.ref aG, .ref aB, .ref aH, .int (nI ch), .ref aS, .int (nI hs), .ref aI, .int (nI ty), .int ea, .int ra, .int (nI wy), .int wd, .ref aL, .int (nI ln), .int (nI 2), .int (nI sp), .int (nI iw), .ref aT])), (aG, .inl (cI, 128, .inl (gN G))), (aB, .inl (cI, 128, .inl (gN B))), (aH, .inl (cI, 1024, .inl (gN Hi))), (aS, .inl (cI, 128, .inl (gN Sv))), (aI, .inl (cI, 60, .inl (gN In))), (aL, .inl (cC, 40, .inl (gN Le))), (aT, .inl (cI, 360, .inl To))] H := hP
            exact nv_retM hq hx hb hr hlocks (nar_i _) (by unfold vDoor; simp only [et_ak, et_gk, et_xk]; rw [if_neg (fun q => q.elim (fun z => z c1) (fun q => q.elim (fun z => z c2) c3)), if_pos (Or.inr c5)]; rfl) hS hP (by unfold vDoor; simp only [et_ak, et_gk, et_xk]; rw [if_neg (fun q => q.elim (fun z => z c1) (fun q => q.elim (fun z => z c2) c3)), if_pos (Or.inr c5)]; rfl) dX7_doorComes_48
      · refine lv_aload_n hx hb dX7_doorComes_21 rfl (lv_at hl 0 rfl) ?_
        refine lv_iconst (v := nI 1) hx hb dX7_doorComes_22 (by decide) ?_
        refine nv_kM (va_runV (As := [.int (nI 1)]) (rest := []) ⟨hx, hb, hml, hown, hts⟩ (c_X7_fails l hD 1) (cwV 1 hts gX7_doorComes_X7_fails rfl rfl rfl (by decide +kernel) ⟨Nat.le_of_ble_eq_true rfl, Nat.le_of_ble_eq_true rfl⟩) (nv_pV hK hP (va_recv hK.1 hP (ci := 9) (q0 := 0) rfl rfl)) rfl rfl hl.1 rfl (lv_room (Nat.le_of_ble_eq_true rfl)) dX7_doorComes_23 ⟨Nat.zero_le _, Nat.zero_le _⟩) hS (fun H locs hP hS => ?_)
        have hP : va_P D vwCl [(h, .inr (9, [.ref aG, .ref aB, .ref aH, .int (nI ch), .ref aS, .int (nI hs), .ref aI, .int (nI ty), .int ea, .int ra, .int (nI wy), .int wd, .ref aL, .int (nI ln), .int (nI 1), .int (nI sp), .int (nI iw), .ref aT])), (aG, .inl (cI, 128, .inl (gN G))), (aB, .inl (cI, 128, .inl (gN B))), (aH, .inl (cI, 1024, .inl (gN Hi))), (aS, .inl (cI, 128, .inl (gN Sv))), (aI, .inl (cI, 60, .inl (gN In))), (aL, .inl (cC, 40, .inl (gN Le))), (aT, .inl (cI, 360, .inl To))] H := hP
        exact nv_retM hq hx hb hr hlocks (nar_i _) (by unfold vDoor; simp only [et_ak, et_gk]; rw [if_pos (Or.inr (Or.inr c3))]; rfl) hS hP (by unfold vDoor; simp only [et_ak, et_gk]; rw [if_pos (Or.inr (Or.inr c3))]; rfl) dX7_doorComes_26

set_option maxHeartbeats 1000000 in
set_option maxRecDepth 100000 in
theorem c_X7_sillComes (l : Launch) {D : va_G} {cI cC : ClassId} {h aG aB aH aS aI aL aT : Nat} {G B Hi Sv In Le : Nat → Nat} {To : Nat → Int32} {ch hs ty wy ln th sp iw : Nat} {ea ra wd : Int32} {A : Nat → Prop} (hD : ∀ (G B Hi Sv In Le : Nat → Nat) (To : Nat → Int32) (fs : List Value), va_D A [(h, .inr (9, fs)), (aG, .inl (cI, 128, .inl (gN G))), (aB, .inl (cI, 128, .inl (gN B))), (aH, .inl (cI, 1024, .inl (gN Hi))), (aS, .inl (cI, 128, .inl (gN Sv))), (aI, .inl (cI, 60, .inl (gN In))), (aL, .inl (cC, 40, .inl (gN Le))), (aT, .inl (cI, 360, .inl To))]) {b : Nat} (hG : gWf b G) (c : Int32) : Met l yX7_sillComes wsX7_sillComes ({ frames := 2, cells := 0, slots := 0, locals := 44 }) (va_Pc [.ref h, .int c] (sPre D [(cI, .int), (cC, .char)] [] (fun H => va_P D vwCl [(h, .inr (9, [.ref aG, .ref aB, .ref aH, .int (nI ch), .ref aS, .int (nI hs), .ref aI, .int (nI ty), .int ea, .int ra, .int (nI wy), .int wd, .ref aL, .int (nI ln), .int (nI th), .int (nI sp), .int (nI iw), .ref aT])), (aG, .inl (cI, 128, .inl (gN G))), (aB, .inl (cI, 128, .inl (gN B))), (aH, .inl (cI, 1024, .inl (gN Hi))), (aS, .inl (cI, 128, .inl (gN Sv))), (aI, .inl (cI, 60, .inl (gN In))), (aL, .inl (cC, 40, .inl (gN Le))), (aT, .inl (cI, 360, .inl To))] H))) (mQ D ((vSill G c).2.2.2.1) [(h, .inr (9, [.ref aG, .ref aB, .ref aH, .int (nI ch), .ref aS, .int (nI hs), .ref aI, .int (nI ty), .int ea, .int ra, .int (nI (vWy (vSill G c) wy)), .int (vWd (vSill G c) wd), .ref aL, .int (nI ln), .int (nI ((vSill G c).1)), .int (nI sp), .int (nI iw), .ref aT])), (aG, .inl (cI, 128, .inl (gN ((vSill G c).2.2.2.2)))), (aB, .inl (cI, 128, .inl (gN B))), (aH, .inl (cI, 1024, .inl (gN Hi))), (aS, .inl (cI, 128, .inl (gN Sv))), (aI, .inl (cI, 60, .inl (gN In))), (aL, .inl (cC, 40, .inl (gN Le))), (aT, .inl (cI, 360, .inl To))] A) 0 0 A := by
  refine nv_met (cc := cX7_sillComes) (maxL := 3) (ret := (some .int)) (by decide) rfl (Nat.le_of_ble_eq_true rfl) ?_
  intro p0 e0 s m0 args below meth c0 Q hq hargs hnA hpre ls hl
  obtain ⟨hx, hb, hr, hts, hown, hlocks, hml⟩ := hnA
  obtain ⟨hP, hK⟩ := hpre
  have hown : s.vm.findClass RX7 = some m0.cls := hown
  have hP : va_P D vwCl [(h, .inr (9, [.ref aG, .ref aB, .ref aH, .int (nI ch), .ref aS, .int (nI hs), .ref aI, .int (nI ty), .int ea, .int ra, .int (nI wy), .int wd, .ref aL, .int (nI ln), .int (nI th), .int (nI sp), .int (nI iw), .ref aT])), (aG, .inl (cI, 128, .inl (gN G))), (aB, .inl (cI, 128, .inl (gN B))), (aH, .inl (cI, 1024, .inl (gN Hi))), (aS, .inl (cI, 128, .inl (gN Sv))), (aI, .inl (cI, 60, .inl (gN In))), (aL, .inl (cC, 40, .inl (gN Le))), (aT, .inl (cI, 360, .inl To))] s.heap := hP
  have hl : lv_has ls 3 [(0, .ref h), (1, .int c)] := hl
  have hS : va_S A s.heap s.heap [] := va_S.rf
  have in_X7 : ∀ w ∈ wsX70, w ∈ wsX7_sillComes := by decide +kernel
  have fl_7 := hts (.fieldLink RX7 7 "DoorDialectModel" "g" "[I") (by decide +kernel)
  obtain ⟨g_b, g_k, g_0, g_1, g_2, g_e, g_d, g_t, g_y, g_s, g_h⟩ := id hG
  refine lv_iload_n hx hb dX7_sillComes_0 rfl (lv_at hl 1 rfl) ?_
  refine nv_kS (va_runS (As := [.int c]) (rest := []) ⟨hx, hb, hml, hown, hts⟩ (c_X7_isCase l (c)) (va_cwS 1 hts gX7_sillComes_X7_isCase rfl rfl rfl (by decide +kernel) ⟨Nat.le_of_ble_eq_true rfl, Nat.le_of_ble_eq_true rfl⟩) (nv_pS hK trivial) rfl rfl hl.1 rfl (lv_room (Nat.le_of_ble_eq_true rfl)) dX7_sillComes_1 ⟨Nat.zero_le _, Nat.zero_le _⟩) ?_
  refine nv_ifb_ne (tgt := 13) hx hb dX7_sillComes_4 (by decide) (fun c1 => ?_) (fun c1 => ?_)
  · obtain ⟨ck, h_ck, rfl⟩ := iR_of c1 (by decide)
    have et_ck : tN (nI ck) = ck := tN_nI (by omega)
    refine lv_aload_n hx hb dX7_sillComes_13 rfl (lv_at hl 0 rfl) ?_
    refine va_get (D := D) (ci := 9) (v := .ref aG) (C := RX7) (T := TX7) (N := 18) hx hb hts in_X7 hown hK.1 hP 0 rfl rfl 0 (by decide) fl_7 (fun _ h9 => h9) rfl dX7_sillComes_14 ?_
    refine lv_iconst (v := nI 1) hx hb dX7_sillComes_17 (by decide) ?_
    refine nv_gald (i := 1) hx hb hK.1 hP 1 0 rfl rfl (by first | omega | (simp only [gEndAt]; omega)) (by decide) dX7_sillComes_18 ?_
    have q2 : G 1 < 2 ^ 20 := hG.lt (k := 1) (by omega)
    refine lv_istore_n (lv' := [(2, .int (nI (G 1))), (0, .ref h), (1, .int (nI ck))]) hx hb dX7_sillComes_19 rfl hl (by decide) rfl (fun ls hl => ?_)
    refine lv_iload_n hx hb dX7_sillComes_20 rfl (lv_at hl 0 rfl) ?_
    refine lv_bipush (v := nI 6) hx hb dX7_sillComes_21 (by decide) ?_
    refine nv_icmp_ne (tgt := 35) hx hb dX7_sillComes_23 (by decide) (by omega) (by omega) (fun c3 => ?_) (fun c3 => ?_)
    · refine lv_aload_n hx hb dX7_sillComes_35 rfl (lv_at hl 1 rfl) ?_
      refine va_get (D := D) (ci := 9) (v := .ref aG) (C := RX7) (T := TX7) (N := 18) hx hb hts in_X7 hown hK.1 hP 0 rfl rfl 0 (by decide) fl_7 (fun _ h9 => h9) rfl dX7_sillComes_36 ?_
      refine lv_bipush (v := nI 112) hx hb dX7_sillComes_39 (by decide) ?_
      refine lv_iload_n hx hb dX7_sillComes_41 rfl (lv_at hl 0 rfl) ?_
      refine nv_iadd hx hb dX7_sillComes_42 ?_
      refine lv_iload_n hx hb dX7_sillComes_43 rfl (lv_at hl 2 rfl) ?_
      refine nv_gast (i := 112 + (G 1)) (v := ck) hx hb hK.1 hP (hD _ _ _ _ _ _ _ _) hS 1 0 rfl rfl (by first | omega | (simp only [gEndAt]; omega)) (by decide) dX7_sillComes_44 (fun H locs hP hS => ?_)
      have hP : va_P D vwCl [(h, .inr (9, [.ref aG, .ref aB, .ref aH, .int (nI ch), .ref aS, .int (nI hs), .ref aI, .int (nI ty), .int ea, .int ra, .int (nI wy), .int wd, .ref aL, .int (nI ln), .int (nI th), .int (nI sp), .int (nI iw), .ref aT])), (aG, .inl (cI, 128, .inl (gN ((va_up G (112 + (G 1)) (ck)))))), (aB, .inl (cI, 128, .inl (gN B))), (aH, .inl (cI, 1024, .inl (gN Hi))), (aS, .inl (cI, 128, .inl (gN Sv))), (aI, .inl (cI, 60, .inl (gN In))), (aL, .inl (cC, 40, .inl (gN Le))), (aT, .inl (cI, 360, .inl To))] H := hP
      refine lv_aload_n hx hb dX7_sillComes_45 rfl (lv_at hl 1 rfl) ?_
      refine va_get (D := D) (ci := 9) (v := .ref aG) (C := RX7) (T := TX7) (N := 18) hx hb hts in_X7 hown hK.1 hP 0 rfl rfl 0 (by decide) fl_7 (fun _ h9 => h9) rfl dX7_sillComes_46 ?_
      refine lv_iconst (v := nI 1) hx hb dX7_sillComes_49 (by decide) ?_
      refine lv_dup2_11 hx hb dX7_sillComes_50 rfl rfl ?_
      refine nv_gald (i := 1) hx hb hK.1 hP 1 0 rfl rfl (by first | omega | (simp only [gEndAt]; omega)) (by decide) dX7_sillComes_51 ?_
      refine lv_iconst (v := nI 1) hx hb dX7_sillComes_52 (by decide) ?_
      refine nv_iadd hx hb dX7_sillComes_53 ?_
      refine nv_gast (i := 1) (v := (va_up G (112 + (G 1)) (ck)) 1 + 1) hx hb hK.1 hP (hD _ _ _ _ _ _ _ _) hS 1 0 rfl rfl (by first | omega | (simp only [gEndAt]; omega)) (by decide) dX7_sillComes_54 (fun H locs hP hS => ?_)
      have hP : va_P D vwCl [(h, .inr (9, [.ref aG, .ref aB, .ref aH, .int (nI ch), .ref aS, .int (nI hs), .ref aI, .int (nI ty), .int ea, .int ra, .int (nI wy), .int wd, .ref aL, .int (nI ln), .int (nI th), .int (nI sp), .int (nI iw), .ref aT])), (aG, .inl (cI, 128, .inl (gN ((va_up (va_up G (112 + (G 1)) (ck)) (1) ((va_up G (112 + (G 1)) (ck)) 1 + 1)))))), (aB, .inl (cI, 128, .inl (gN B))), (aH, .inl (cI, 1024, .inl (gN Hi))), (aS, .inl (cI, 128, .inl (gN Sv))), (aI, .inl (cI, 60, .inl (gN In))), (aL, .inl (cC, 40, .inl (gN Le))), (aT, .inl (cI, 360, .inl To))] H := hP
      refine lv_aload_n hx hb dX7_sillComes_55 rfl (lv_at hl 1 rfl) ?_
      refine lv_iload_n hx hb dX7_sillComes_56 rfl (lv_at hl 0 rfl) ?_
      refine nv_kM (va_runV (As := [.int (nI (G 1))]) (rest := []) ⟨hx, hb, hml, hown, hts⟩ (c_X7_done l hD (nI (G 1))) (cwV 1 hts gX7_sillComes_X7_done rfl rfl rfl (by decide +kernel) ⟨Nat.le_of_ble_eq_true rfl, Nat.le_of_ble_eq_true rfl⟩) (nv_pV hK hP (va_recv hK.1 hP (ci := 9) (q0 := 0) rfl rfl)) rfl rfl hl.1 rfl (lv_room (Nat.le_of_ble_eq_true rfl)) dX7_sillComes_57 ⟨Nat.zero_le _, Nat.zero_le _⟩) hS (fun H locs hP hS => ?_)
      have hP : va_P D vwCl [(h, .inr (9, [.ref aG, .ref aB, .ref aH, .int (nI ch), .ref aS, .int (nI hs), .ref aI, .int (nI ty), .int ea, .int ra, .int (nI wy), .int wd, .ref aL, .int (nI ln), .int (nI 0), .int (nI sp), .int (nI iw), .ref aT])), (aG, .inl (cI, 128, .inl (gN ((va_up (va_up G (112 + (G 1)) (ck)) (1) ((va_up G (112 + (G 1)) (ck)) 1 + 1)))))), (aB, .inl (cI, 128, .inl (gN B))), (aH, .inl (cI, 1024, .inl (gN Hi))), (aS, .inl (cI, 128, .inl (gN Sv))), (aI, .inl (cI, 60, .inl (gN In))), (aL, .inl (cC, 40, .inl (gN Le))), (aT, .inl (cI, 360, .inl To))] H := hP
      exact nv_retM hq hx hb hr hlocks (nar_i _) (by unfold vSill; simp only [et_ck]; rw [if_neg (fun z => z c1), if_neg c3]; rfl) hS hP (by unfold vSill; simp only [et_ck]; rw [if_neg (fun z => z c1), if_neg c3]; rfl) dX7_sillComes_60
    · refine lv_aload_n hx hb dX7_sillComes_26 rfl (lv_at hl 1 rfl) ?_
      refine lv_iconst (v := nI 1) hx hb dX7_sillComes_27 (by decide) ?_
      refine lv_bipush (v := nI 6) hx hb dX7_sillComes_28 (by decide) ?_
      refine lv_iconst (v := nI 2) hx hb dX7_sillComes_30 (by decide) ?_
      refine nv_kM (va_runV (As := [.int (nI 1), .int (nI 6), .int (nI 2)]) (rest := []) ⟨hx, hb, hml, hown, hts⟩ (c_X7_refused l hD 1 (nI (6)) 2) (cwV 3 hts gX7_sillComes_X7_refused rfl rfl rfl (by decide +kernel) ⟨Nat.le_of_ble_eq_true rfl, Nat.le_of_ble_eq_true rfl⟩) (nv_pV hK hP (va_recv hK.1 hP (ci := 9) (q0 := 0) rfl rfl)) rfl rfl hl.1 rfl (lv_room (Nat.le_of_ble_eq_true rfl)) dX7_sillComes_31 ⟨Nat.zero_le _, Nat.zero_le _⟩) hS (fun H locs hP hS => ?_)
      have hP : va_P D vwCl [(h, .inr (9, [.ref aG, .ref aB, .ref aH, .int (nI ch), .ref aS, .int (nI hs), .ref aI, .int (nI ty), .int ea, .int ra, .int (nI 1), .int (nI (6)), .ref aL, .int (nI ln), .int (nI 2), .int (nI sp), .int (nI iw), .ref aT])), (aG, .inl (cI, 128, .inl (gN G))), (aB, .inl (cI, 128, .inl (gN B))), (aH, .inl (cI, 1024, .inl (gN Hi))), (aS, .inl (cI, 128, .inl (gN Sv))), (aI, .inl (cI, 60, .inl (gN In))), (aL, .inl (cC, 40, .inl (gN Le))), (aT, .inl (cI, 360, .inl To))] H := hP
      exact nv_retM hq hx hb hr hlocks (nar_i _) (by unfold vSill; simp only [et_ck]; rw [if_neg (fun z => z c1), if_pos c3]; rfl) hS hP (by unfold vSill; simp only [et_ck]; rw [if_neg (fun z => z c1), if_pos c3]; rfl) dX7_sillComes_34
  · refine lv_aload_n hx hb dX7_sillComes_7 rfl (lv_at hl 0 rfl) ?_
    refine lv_iconst (v := nI 1) hx hb dX7_sillComes_8 (by decide) ?_
    refine nv_kM (va_runV (As := [.int (nI 1)]) (rest := []) ⟨hx, hb, hml, hown, hts⟩ (c_X7_fails l hD 1) (cwV 1 hts gX7_sillComes_X7_fails rfl rfl rfl (by decide +kernel) ⟨Nat.le_of_ble_eq_true rfl, Nat.le_of_ble_eq_true rfl⟩) (nv_pV hK hP (va_recv hK.1 hP (ci := 9) (q0 := 0) rfl rfl)) rfl rfl hl.1 rfl (lv_room (Nat.le_of_ble_eq_true rfl)) dX7_sillComes_9 ⟨Nat.zero_le _, Nat.zero_le _⟩) hS (fun H locs hP hS => ?_)
    have hP : va_P D vwCl [(h, .inr (9, [.ref aG, .ref aB, .ref aH, .int (nI ch), .ref aS, .int (nI hs), .ref aI, .int (nI ty), .int ea, .int ra, .int (nI wy), .int wd, .ref aL, .int (nI ln), .int (nI 1), .int (nI sp), .int (nI iw), .ref aT])), (aG, .inl (cI, 128, .inl (gN G))), (aB, .inl (cI, 128, .inl (gN B))), (aH, .inl (cI, 1024, .inl (gN Hi))), (aS, .inl (cI, 128, .inl (gN Sv))), (aI, .inl (cI, 60, .inl (gN In))), (aL, .inl (cC, 40, .inl (gN Le))), (aT, .inl (cI, 360, .inl To))] H := hP
    exact nv_retM hq hx hb hr hlocks (nar_i _) (by unfold vSill; rw [if_pos c1]; rfl) hS hP (by unfold vSill; rw [if_pos c1]; rfl) dX7_sillComes_12

theorem nI_iff {a b : Nat} (ha : a < 2 ^ 31) (hb : b < 2 ^ 31) : (nI a = nI b) = (a = b) := propext (nI_eq ha hb)

set_option maxHeartbeats 1000000 in
set_option maxRecDepth 100000 in
theorem c_X7_governs (l : Launch) {D : va_G} {cI cC : ClassId} {h aG aB aH aS aI aL aT : Nat} {G B Hi Sv In Le : Nat → Nat} {To : Nat → Int32} {ch hs ty wy ln th sp iw : Nat} {ea ra wd : Int32} {A : Nat → Prop} (hD : ∀ (G B Hi Sv In Le : Nat → Nat) (To : Nat → Int32) (fs : List Value), va_D A [(h, .inr (9, fs)), (aG, .inl (cI, 128, .inl (gN G))), (aB, .inl (cI, 128, .inl (gN B))), (aH, .inl (cI, 1024, .inl (gN Hi))), (aS, .inl (cI, 128, .inl (gN Sv))), (aI, .inl (cI, 60, .inl (gN In))), (aL, .inl (cC, 40, .inl (gN Le))), (aT, .inl (cI, 360, .inl To))]) {b : Nat} (hG : gWf b G) (t c : Int32) : Met l yX7_governs wsX7_governs ({ frames := 2, cells := 0, slots := 0, locals := 44 }) (va_Pc [.ref h, .int t, .int c] (sPre D [(cI, .int), (cC, .char)] [] (fun H => va_P D vwCl [(h, .inr (9, [.ref aG, .ref aB, .ref aH, .int (nI ch), .ref aS, .int (nI hs), .ref aI, .int (nI ty), .int ea, .int ra, .int (nI wy), .int wd, .ref aL, .int (nI ln), .int (nI th), .int (nI sp), .int (nI iw), .ref aT])), (aG, .inl (cI, 128, .inl (gN G))), (aB, .inl (cI, 128, .inl (gN B))), (aH, .inl (cI, 1024, .inl (gN Hi))), (aS, .inl (cI, 128, .inl (gN Sv))), (aI, .inl (cI, 60, .inl (gN In))), (aL, .inl (cC, 40, .inl (gN Le))), (aT, .inl (cI, 360, .inl To))] H))) (mQ D ((vGovern G t c).2.2.2.1) [(h, .inr (9, [.ref aG, .ref aB, .ref aH, .int (nI ch), .ref aS, .int (nI hs), .ref aI, .int (nI ty), .int ea, .int ra, .int (nI (vWy (vGovern G t c) wy)), .int (vWd (vGovern G t c) wd), .ref aL, .int (nI ln), .int (nI ((vGovern G t c).1)), .int (nI sp), .int (nI iw), .ref aT])), (aG, .inl (cI, 128, .inl (gN ((vGovern G t c).2.2.2.2)))), (aB, .inl (cI, 128, .inl (gN B))), (aH, .inl (cI, 1024, .inl (gN Hi))), (aS, .inl (cI, 128, .inl (gN Sv))), (aI, .inl (cI, 60, .inl (gN In))), (aL, .inl (cC, 40, .inl (gN Le))), (aT, .inl (cI, 360, .inl To))] A) 0 0 A := by
  refine nv_met (cc := cX7_governs) (maxL := 4) (ret := (some .int)) (by decide) rfl (Nat.le_of_ble_eq_true rfl) ?_
  intro p0 e0 s m0 args below meth c0 Q hq hargs hnA hpre ls hl
  obtain ⟨hx, hb, hr, hts, hown, hlocks, hml⟩ := hnA
  obtain ⟨hP, hK⟩ := hpre
  have hown : s.vm.findClass RX7 = some m0.cls := hown
  have hP : va_P D vwCl [(h, .inr (9, [.ref aG, .ref aB, .ref aH, .int (nI ch), .ref aS, .int (nI hs), .ref aI, .int (nI ty), .int ea, .int ra, .int (nI wy), .int wd, .ref aL, .int (nI ln), .int (nI th), .int (nI sp), .int (nI iw), .ref aT])), (aG, .inl (cI, 128, .inl (gN G))), (aB, .inl (cI, 128, .inl (gN B))), (aH, .inl (cI, 1024, .inl (gN Hi))), (aS, .inl (cI, 128, .inl (gN Sv))), (aI, .inl (cI, 60, .inl (gN In))), (aL, .inl (cC, 40, .inl (gN Le))), (aT, .inl (cI, 360, .inl To))] s.heap := hP
  have hl : lv_has ls 4 [(0, .ref h), (1, .int t), (2, .int c)] := hl
  have hS : va_S A s.heap s.heap [] := va_S.rf
  have in_X7 : ∀ w ∈ wsX70, w ∈ wsX7_governs := by decide +kernel
  have fl_7 := hts (.fieldLink RX7 7 "DoorDialectModel" "g" "[I") (by decide +kernel)
  obtain ⟨g_b, g_k, g_0, g_1, g_2, g_e, g_d, g_t, g_y, g_s, g_h⟩ := id hG
  refine lv_aload_n hx hb dX7_governs_0 rfl (lv_at hl 0 rfl) ?_
  refine lv_iload_n hx hb dX7_governs_1 rfl (lv_at hl 1 rfl) ?_
  refine nv_kS (va_runV (As := [.int t]) (rest := []) ⟨hx, hb, hml, hown, hts⟩ (c_X7_isSill l (t) (by omega)) (cwV 1 hts gX7_governs_X7_isSill rfl rfl rfl (by decide +kernel) ⟨Nat.le_of_ble_eq_true rfl, Nat.le_of_ble_eq_true rfl⟩) (nv_pV hK hP (va_recv hK.1 hP (ci := 9) (q0 := 0) rfl rfl)) rfl rfl hl.1 rfl (lv_room (Nat.le_of_ble_eq_true rfl)) dX7_governs_2 ⟨Nat.zero_le _, Nat.zero_le _⟩) ?_
  refine nv_ifb_ne (tgt := 14) hx hb dX7_governs_5 (by decide) (fun c1 => ?_) (fun c1 => ?_)
  · obtain ⟨tk, h_tk, rfl⟩ := iR_of c1 (by omega)
    have et_tk : tN (nI tk) = tk := tN_nI (by omega)
    refine lv_iload_n hx hb dX7_governs_14 rfl (lv_at hl 2 rfl) ?_
    refine nv_kS (va_runS (As := [.int c]) (rest := []) ⟨hx, hb, hml, hown, hts⟩ (c_X7_isCase l (c)) (va_cwS 1 hts gX7_governs_X7_isCase rfl rfl rfl (by decide +kernel) ⟨Nat.le_of_ble_eq_true rfl, Nat.le_of_ble_eq_true rfl⟩) (nv_pS hK trivial) rfl rfl hl.1 rfl (lv_room (Nat.le_of_ble_eq_true rfl)) dX7_governs_15 ⟨Nat.zero_le _, Nat.zero_le _⟩) ?_
    refine nv_ifb_ne (tgt := 27) hx hb dX7_governs_18 (by decide) (fun c2 => ?_) (fun c2 => ?_)
    · obtain ⟨ck, h_ck, rfl⟩ := iR_of c2 (by decide)
      have et_ck : tN (nI ck) = ck := tN_nI (by omega)
      refine lv_aload_n hx hb dX7_governs_27 rfl (lv_at hl 0 rfl) ?_
      refine va_get (D := D) (ci := 9) (v := .ref aG) (C := RX7) (T := TX7) (N := 18) hx hb hts in_X7 hown hK.1 hP 0 rfl rfl 0 (by decide) fl_7 (fun _ h9 => h9) rfl dX7_governs_28 ?_
      refine lv_bipush (v := nI 112) hx hb dX7_governs_31 (by decide) ?_
      refine lv_iload_n hx hb dX7_governs_33 rfl (lv_at hl 1 rfl) ?_
      refine nv_iadd hx hb dX7_governs_34 ?_
      refine nv_gald (i := 112 + tk) hx hb hK.1 hP 1 0 rfl rfl (by first | omega | (simp only [gEndAt]; omega)) (by decide) dX7_governs_35 ?_
      have q3 : G (112 + tk) < 2 ^ 20 := hG.lt (k := 112 + tk) (by omega)
      refine lv_istore_n (lv' := [(3, .int (nI (G (112 + tk)))), (0, .ref h), (1, .int (nI tk)), (2, .int (nI ck))]) hx hb dX7_governs_36 rfl hl (by decide) rfl (fun ls hl => ?_)
      refine lv_iload_n hx hb dX7_governs_37 rfl (lv_at hl 0 rfl) ?_
      refine lv_iload_n hx hb dX7_governs_38 rfl (lv_at hl 3 rfl) ?_
      refine nv_icmp_ne (tgt := 50) hx hb dX7_governs_39 (by decide) (by omega) (by omega) (fun c4 => ?_) (fun c4 => ?_)
      · refine lv_aload_n hx hb dX7_governs_50 rfl (lv_at hl 1 rfl) ?_
        refine va_get (D := D) (ci := 9) (v := .ref aG) (C := RX7) (T := TX7) (N := 18) hx hb hts in_X7 hown hK.1 hP 0 rfl rfl 0 (by decide) fl_7 (fun _ h9 => h9) rfl dX7_governs_51 ?_
        refine lv_bipush (v := nI 112) hx hb dX7_governs_54 (by decide) ?_
        refine lv_iload_n hx hb dX7_governs_56 rfl (lv_at hl 2 rfl) ?_
        refine nv_iadd hx hb dX7_governs_57 ?_
        refine lv_iload_n hx hb dX7_governs_58 rfl (lv_at hl 3 rfl) ?_
        refine nv_gast (i := 112 + tk) (v := ck) hx hb hK.1 hP (hD _ _ _ _ _ _ _ _) hS 1 0 rfl rfl (by first | omega | (simp only [gEndAt]; omega)) (by decide) dX7_governs_59 (fun H locs hP hS => ?_)
        have hP : va_P D vwCl [(h, .inr (9, [.ref aG, .ref aB, .ref aH, .int (nI ch), .ref aS, .int (nI hs), .ref aI, .int (nI ty), .int ea, .int ra, .int (nI wy), .int wd, .ref aL, .int (nI ln), .int (nI th), .int (nI sp), .int (nI iw), .ref aT])), (aG, .inl (cI, 128, .inl (gN ((va_up G (112 + tk) (ck)))))), (aB, .inl (cI, 128, .inl (gN B))), (aH, .inl (cI, 1024, .inl (gN Hi))), (aS, .inl (cI, 128, .inl (gN Sv))), (aI, .inl (cI, 60, .inl (gN In))), (aL, .inl (cC, 40, .inl (gN Le))), (aT, .inl (cI, 360, .inl To))] H := hP
        refine lv_aload_n hx hb dX7_governs_60 rfl (lv_at hl 1 rfl) ?_
        refine lv_iload_n hx hb dX7_governs_61 rfl (lv_at hl 0 rfl) ?_
        refine nv_kM (va_runV (As := [.int (nI (G (112 + tk)))]) (rest := []) ⟨hx, hb, hml, hown, hts⟩ (c_X7_done l hD (nI (G (112 + tk)))) (cwV 1 hts gX7_governs_X7_done rfl rfl rfl (by decide +kernel) ⟨Nat.le_of_ble_eq_true rfl, Nat.le_of_ble_eq_true rfl⟩) (nv_pV hK hP (va_recv hK.1 hP (ci := 9) (q0 := 0) rfl rfl)) rfl rfl hl.1 rfl (lv_room (Nat.le_of_ble_eq_true rfl)) dX7_governs_62 ⟨Nat.zero_le _, Nat.zero_le _⟩) hS (fun H locs hP hS => ?_)
        have hP : va_P D vwCl [(h, .inr (9, [.ref aG, .ref aB, .ref aH, .int (nI ch), .ref aS, .int (nI hs), .ref aI, .int (nI ty), .int ea, .int ra, .int (nI wy), .int wd, .ref aL, .int (nI ln), .int (nI 0), .int (nI sp), .int (nI iw), .ref aT])), (aG, .inl (cI, 128, .inl (gN ((va_up G (112 + tk) (ck)))))), (aB, .inl (cI, 128, .inl (gN B))), (aH, .inl (cI, 1024, .inl (gN Hi))), (aS, .inl (cI, 128, .inl (gN Sv))), (aI, .inl (cI, 60, .inl (gN In))), (aL, .inl (cC, 40, .inl (gN Le))), (aT, .inl (cI, 360, .inl To))] H := hP
        exact nv_retM hq hx hb hr hlocks (nar_i _) (by unfold vGovern; simp only [et_tk, et_ck]; rw [if_neg (fun z => z c1), if_neg (fun z => z c2), if_neg (fun q => c4 ((nI_eq (by omega) (by omega)).mp q))]; rfl) hS hP (by unfold vGovern; simp only [et_tk, et_ck]; rw [if_neg (fun z => z c1), if_neg (fun z => z c2), if_neg (fun q => c4 ((nI_eq (by omega) (by omega)).mp q))]; rfl) dX7_governs_65
      · refine lv_aload_n hx hb dX7_governs_42 rfl (lv_at hl 1 rfl) ?_
        refine lv_iconst (v := nI 2) hx hb dX7_governs_43 (by decide) ?_
        refine lv_iload_n hx hb dX7_governs_44 rfl (lv_at hl 3 rfl) ?_
        refine lv_iconst (v := nI 3) hx hb dX7_governs_45 (by decide) ?_
        refine nv_kM (va_runV (As := [.int (nI 2), .int (nI ck), .int (nI 3)]) (rest := []) ⟨hx, hb, hml, hown, hts⟩ (c_X7_refused l hD 2 (nI (ck)) 3) (cwV 3 hts gX7_governs_X7_refused rfl rfl rfl (by decide +kernel) ⟨Nat.le_of_ble_eq_true rfl, Nat.le_of_ble_eq_true rfl⟩) (nv_pV hK hP (va_recv hK.1 hP (ci := 9) (q0 := 0) rfl rfl)) rfl rfl hl.1 rfl (lv_room (Nat.le_of_ble_eq_true rfl)) dX7_governs_46 ⟨Nat.zero_le _, Nat.zero_le _⟩) hS (fun H locs hP hS => ?_)
        have hP : va_P D vwCl [(h, .inr (9, [.ref aG, .ref aB, .ref aH, .int (nI ch), .ref aS, .int (nI hs), .ref aI, .int (nI ty), .int ea, .int ra, .int (nI 2), .int (nI (ck)), .ref aL, .int (nI ln), .int (nI 3), .int (nI sp), .int (nI iw), .ref aT])), (aG, .inl (cI, 128, .inl (gN G))), (aB, .inl (cI, 128, .inl (gN B))), (aH, .inl (cI, 1024, .inl (gN Hi))), (aS, .inl (cI, 128, .inl (gN Sv))), (aI, .inl (cI, 60, .inl (gN In))), (aL, .inl (cC, 40, .inl (gN Le))), (aT, .inl (cI, 360, .inl To))] H := hP
        exact nv_retM hq hx hb hr hlocks (nar_i _) (by unfold vGovern; simp only [et_tk, et_ck]; rw [if_neg (fun z => z c1), if_neg (fun z => z c2), if_pos (congrArg nI c4)]; rfl) hS hP (by unfold vGovern; simp only [et_tk, et_ck]; rw [if_neg (fun z => z c1), if_neg (fun z => z c2), if_pos (congrArg nI c4)]; rfl) dX7_governs_49
    · refine lv_aload_n hx hb dX7_governs_21 rfl (lv_at hl 0 rfl) ?_
      refine lv_iconst (v := nI 2) hx hb dX7_governs_22 (by decide) ?_
      refine nv_kM (va_runV (As := [.int (nI 2)]) (rest := []) ⟨hx, hb, hml, hown, hts⟩ (c_X7_fails l hD 2) (cwV 1 hts gX7_governs_X7_fails rfl rfl rfl (by decide +kernel) ⟨Nat.le_of_ble_eq_true rfl, Nat.le_of_ble_eq_true rfl⟩) (nv_pV hK hP (va_recv hK.1 hP (ci := 9) (q0 := 0) rfl rfl)) rfl rfl hl.1 rfl (lv_room (Nat.le_of_ble_eq_true rfl)) dX7_governs_23 ⟨Nat.zero_le _, Nat.zero_le _⟩) hS (fun H locs hP hS => ?_)
      have hP : va_P D vwCl [(h, .inr (9, [.ref aG, .ref aB, .ref aH, .int (nI ch), .ref aS, .int (nI hs), .ref aI, .int (nI ty), .int ea, .int ra, .int (nI wy), .int wd, .ref aL, .int (nI ln), .int (nI 2), .int (nI sp), .int (nI iw), .ref aT])), (aG, .inl (cI, 128, .inl (gN G))), (aB, .inl (cI, 128, .inl (gN B))), (aH, .inl (cI, 1024, .inl (gN Hi))), (aS, .inl (cI, 128, .inl (gN Sv))), (aI, .inl (cI, 60, .inl (gN In))), (aL, .inl (cC, 40, .inl (gN Le))), (aT, .inl (cI, 360, .inl To))] H := hP
      exact nv_retM hq hx hb hr hlocks (nar_i _) (by unfold vGovern; simp only [et_tk]; rw [if_neg (fun z => z c1), if_pos c2]; rfl) hS hP (by unfold vGovern; simp only [et_tk]; rw [if_neg (fun z => z c1), if_pos c2]; rfl) dX7_governs_26
  · refine lv_aload_n hx hb dX7_governs_8 rfl (lv_at hl 0 rfl) ?_
    refine lv_iconst (v := nI 1) hx hb dX7_governs_9 (by decide) ?_
    refine nv_kM (va_runV (As := [.int (nI 1)]) (rest := []) ⟨hx, hb, hml, hown, hts⟩ (c_X7_fails l hD 1) (cwV 1 hts gX7_governs_X7_fails rfl rfl rfl (by decide +kernel) ⟨Nat.le_of_ble_eq_true rfl, Nat.le_of_ble_eq_true rfl⟩) (nv_pV hK hP (va_recv hK.1 hP (ci := 9) (q0 := 0) rfl rfl)) rfl rfl hl.1 rfl (lv_room (Nat.le_of_ble_eq_true rfl)) dX7_governs_10 ⟨Nat.zero_le _, Nat.zero_le _⟩) hS (fun H locs hP hS => ?_)
    have hP : va_P D vwCl [(h, .inr (9, [.ref aG, .ref aB, .ref aH, .int (nI ch), .ref aS, .int (nI hs), .ref aI, .int (nI ty), .int ea, .int ra, .int (nI wy), .int wd, .ref aL, .int (nI ln), .int (nI 1), .int (nI sp), .int (nI iw), .ref aT])), (aG, .inl (cI, 128, .inl (gN G))), (aB, .inl (cI, 128, .inl (gN B))), (aH, .inl (cI, 1024, .inl (gN Hi))), (aS, .inl (cI, 128, .inl (gN Sv))), (aI, .inl (cI, 60, .inl (gN In))), (aL, .inl (cC, 40, .inl (gN Le))), (aT, .inl (cI, 360, .inl To))] H := hP
    exact nv_retM hq hx hb hr hlocks (nar_i _) (by unfold vGovern; rw [if_pos c1]; rfl) hS hP (by unfold vGovern; rw [if_pos c1]; rfl) dX7_governs_13

set_option maxHeartbeats 1000000 in
set_option maxRecDepth 100000 in
theorem c_X7_tells (l : Launch) {D : va_G} {cI cC : ClassId} {h aG aB aH aS aI aL aT : Nat} {G B Hi Sv In Le : Nat → Nat} {To : Nat → Int32} {ch hs ty wy ln th sp iw : Nat} {ea ra wd : Int32} {A : Nat → Prop} (hD : ∀ (G B Hi Sv In Le : Nat → Nat) (To : Nat → Int32) (fs : List Value), va_D A [(h, .inr (9, fs)), (aG, .inl (cI, 128, .inl (gN G))), (aB, .inl (cI, 128, .inl (gN B))), (aH, .inl (cI, 1024, .inl (gN Hi))), (aS, .inl (cI, 128, .inl (gN Sv))), (aI, .inl (cI, 60, .inl (gN In))), (aL, .inl (cC, 40, .inl (gN Le))), (aT, .inl (cI, 360, .inl To))]) {b : Nat} (hG : gWf b G) (a c : Int32) (z : Nat) (x : Int32) (hz : z ≤ 1) : Met l yX7_tells wsX7_tells ({ frames := 2, cells := 0, slots := 0, locals := 44 }) (va_Pc [.ref h, .int a, .int c, .int (nI z), .int x] (sPre D [(cI, .int), (cC, .char)] [] (fun H => va_P D vwCl [(h, .inr (9, [.ref aG, .ref aB, .ref aH, .int (nI ch), .ref aS, .int (nI hs), .ref aI, .int (nI ty), .int ea, .int ra, .int (nI wy), .int wd, .ref aL, .int (nI ln), .int (nI th), .int (nI sp), .int (nI iw), .ref aT])), (aG, .inl (cI, 128, .inl (gN G))), (aB, .inl (cI, 128, .inl (gN B))), (aH, .inl (cI, 1024, .inl (gN Hi))), (aS, .inl (cI, 128, .inl (gN Sv))), (aI, .inl (cI, 60, .inl (gN In))), (aL, .inl (cC, 40, .inl (gN Le))), (aT, .inl (cI, 360, .inl To))] H))) (mQ D ((vTell G a c z x).2.2.2.1) [(h, .inr (9, [.ref aG, .ref aB, .ref aH, .int (nI ch), .ref aS, .int (nI hs), .ref aI, .int (nI ty), .int ea, .int ra, .int (nI (vWy (vTell G a c z x) wy)), .int (vWd (vTell G a c z x) wd), .ref aL, .int (nI ln), .int (nI ((vTell G a c z x).1)), .int (nI sp), .int (nI iw), .ref aT])), (aG, .inl (cI, 128, .inl (gN ((vTell G a c z x).2.2.2.2)))), (aB, .inl (cI, 128, .inl (gN B))), (aH, .inl (cI, 1024, .inl (gN Hi))), (aS, .inl (cI, 128, .inl (gN Sv))), (aI, .inl (cI, 60, .inl (gN In))), (aL, .inl (cC, 40, .inl (gN Le))), (aT, .inl (cI, 360, .inl To))] A) 0 0 A := by
  refine nv_met (cc := cX7_tells) (maxL := 7) (ret := (some .int)) (by decide) rfl (Nat.le_of_ble_eq_true rfl) ?_
  intro p0 e0 s m0 args below meth c0 Q hq hargs hnA hpre ls hl
  obtain ⟨hx, hb, hr, hts, hown, hlocks, hml⟩ := hnA
  obtain ⟨hP, hK⟩ := hpre
  have hown : s.vm.findClass RX7 = some m0.cls := hown
  have hP : va_P D vwCl [(h, .inr (9, [.ref aG, .ref aB, .ref aH, .int (nI ch), .ref aS, .int (nI hs), .ref aI, .int (nI ty), .int ea, .int ra, .int (nI wy), .int wd, .ref aL, .int (nI ln), .int (nI th), .int (nI sp), .int (nI iw), .ref aT])), (aG, .inl (cI, 128, .inl (gN G))), (aB, .inl (cI, 128, .inl (gN B))), (aH, .inl (cI, 1024, .inl (gN Hi))), (aS, .inl (cI, 128, .inl (gN Sv))), (aI, .inl (cI, 60, .inl (gN In))), (aL, .inl (cC, 40, .inl (gN Le))), (aT, .inl (cI, 360, .inl To))] s.heap := hP
  have hl : lv_has ls 7 [(0, .ref h), (1, .int a), (2, .int c), (3, .int (nI z)), (4, .int x)] := hl
  have hS : va_S A s.heap s.heap [] := va_S.rf
  have in_X7 : ∀ w ∈ wsX70, w ∈ wsX7_tells := by decide +kernel
  have fl_7 := hts (.fieldLink RX7 7 "DoorDialectModel" "g" "[I") (by decide +kernel)
  obtain ⟨g_b, g_k, g_0, g_1, g_2, g_e, g_d, g_t, g_y, g_s, g_h⟩ := id hG
  refine lv_iload_n hx hb dX7_tells_0 rfl (lv_at hl 1 rfl) ?_
  refine nv_kS (va_runS (As := [.int a]) (rest := []) ⟨hx, hb, hml, hown, hts⟩ (c_X7_isThird l (a)) (va_cwS 1 hts gX7_tells_X7_isThird rfl rfl rfl (by decide +kernel) ⟨Nat.le_of_ble_eq_true rfl, Nat.le_of_ble_eq_true rfl⟩) (nv_pS hK trivial) rfl rfl hl.1 rfl (lv_room (Nat.le_of_ble_eq_true rfl)) dX7_tells_1 ⟨Nat.zero_le _, Nat.zero_le _⟩) ?_
  refine nv_ifb_eq (tgt := 25) hx hb dX7_tells_4 (by decide) (fun c1 => ?_) (fun c1 => ?_)
  · refine lv_aload_n hx hb dX7_tells_25 rfl (lv_at hl 0 rfl) ?_
    refine lv_iconst (v := nI 1) hx hb dX7_tells_26 (by decide) ?_
    refine nv_kM (va_runV (As := [.int (nI 1)]) (rest := []) ⟨hx, hb, hml, hown, hts⟩ (c_X7_fails l hD 1) (cwV 1 hts gX7_tells_X7_fails rfl rfl rfl (by decide +kernel) ⟨Nat.le_of_ble_eq_true rfl, Nat.le_of_ble_eq_true rfl⟩) (nv_pV hK hP (va_recv hK.1 hP (ci := 9) (q0 := 0) rfl rfl)) rfl rfl hl.1 rfl (lv_room (Nat.le_of_ble_eq_true rfl)) dX7_tells_27 ⟨Nat.zero_le _, Nat.zero_le _⟩) hS (fun H locs hP hS => ?_)
    have hP : va_P D vwCl [(h, .inr (9, [.ref aG, .ref aB, .ref aH, .int (nI ch), .ref aS, .int (nI hs), .ref aI, .int (nI ty), .int ea, .int ra, .int (nI wy), .int wd, .ref aL, .int (nI ln), .int (nI 1), .int (nI sp), .int (nI iw), .ref aT])), (aG, .inl (cI, 128, .inl (gN G))), (aB, .inl (cI, 128, .inl (gN B))), (aH, .inl (cI, 1024, .inl (gN Hi))), (aS, .inl (cI, 128, .inl (gN Sv))), (aI, .inl (cI, 60, .inl (gN In))), (aL, .inl (cC, 40, .inl (gN Le))), (aT, .inl (cI, 360, .inl To))] H := hP
    exact nv_retM hq hx hb hr hlocks (nar_i _) (by unfold vTell; rw [if_pos (Or.inl c1)]; rfl) hS hP (by unfold vTell; rw [if_pos (Or.inl c1)]; rfl) dX7_tells_30
  · obtain ⟨ak, h_ak, rfl⟩ := iR_of c1 (by decide)
    have et_ak : tN (nI ak) = ak := tN_nI (by omega)
    refine lv_iload_n hx hb dX7_tells_7 rfl (lv_at hl 2 rfl) ?_
    refine nv_kS (va_runS (As := [.int c]) (rest := []) ⟨hx, hb, hml, hown, hts⟩ (c_X7_isCase l (c)) (va_cwS 1 hts gX7_tells_X7_isCase rfl rfl rfl (by decide +kernel) ⟨Nat.le_of_ble_eq_true rfl, Nat.le_of_ble_eq_true rfl⟩) (nv_pS hK trivial) rfl rfl hl.1 rfl (lv_room (Nat.le_of_ble_eq_true rfl)) dX7_tells_8 ⟨Nat.zero_le _, Nat.zero_le _⟩) ?_
    refine nv_ifb_eq (tgt := 25) hx hb dX7_tells_11 (by decide) (fun c2 => ?_) (fun c2 => ?_)
    · refine lv_aload_n hx hb dX7_tells_25 rfl (lv_at hl 0 rfl) ?_
      refine lv_iconst (v := nI 1) hx hb dX7_tells_26 (by decide) ?_
      refine nv_kM (va_runV (As := [.int (nI 1)]) (rest := []) ⟨hx, hb, hml, hown, hts⟩ (c_X7_fails l hD 1) (cwV 1 hts gX7_tells_X7_fails rfl rfl rfl (by decide +kernel) ⟨Nat.le_of_ble_eq_true rfl, Nat.le_of_ble_eq_true rfl⟩) (nv_pV hK hP (va_recv hK.1 hP (ci := 9) (q0 := 0) rfl rfl)) rfl rfl hl.1 rfl (lv_room (Nat.le_of_ble_eq_true rfl)) dX7_tells_27 ⟨Nat.zero_le _, Nat.zero_le _⟩) hS (fun H locs hP hS => ?_)
      have hP : va_P D vwCl [(h, .inr (9, [.ref aG, .ref aB, .ref aH, .int (nI ch), .ref aS, .int (nI hs), .ref aI, .int (nI ty), .int ea, .int ra, .int (nI wy), .int wd, .ref aL, .int (nI ln), .int (nI 1), .int (nI sp), .int (nI iw), .ref aT])), (aG, .inl (cI, 128, .inl (gN G))), (aB, .inl (cI, 128, .inl (gN B))), (aH, .inl (cI, 1024, .inl (gN Hi))), (aS, .inl (cI, 128, .inl (gN Sv))), (aI, .inl (cI, 60, .inl (gN In))), (aL, .inl (cC, 40, .inl (gN Le))), (aT, .inl (cI, 360, .inl To))] H := hP
      exact nv_retM hq hx hb hr hlocks (nar_i _) (by unfold vTell; simp only [et_ak]; rw [if_pos (Or.inr (Or.inl c2))]; rfl) hS hP (by unfold vTell; simp only [et_ak]; rw [if_pos (Or.inr (Or.inl c2))]; rfl) dX7_tells_30
    · obtain ⟨ck, h_ck, rfl⟩ := iR_of c2 (by decide)
      have et_ck : tN (nI ck) = ck := tN_nI (by omega)
      refine lv_iload hx hb dX7_tells_14 (lv_at hl 4 rfl) ?_
      refine lv_iconst (v := nI 0) hx hb dX7_tells_16 (by decide) ?_
      refine lv_bipush (v := nI 25) hx hb dX7_tells_17 (by decide) ?_
      refine nv_kS (va_runS (As := [.int x, .int (nI 0), .int (nI 25)]) (rest := []) ⟨hx, hb, hml, hown, hts⟩ (c_X7_in l (x) (nI (0)) (nI (25))) (va_cwS 3 hts gX7_tells_X7_in rfl rfl rfl (by decide +kernel) ⟨Nat.le_of_ble_eq_true rfl, Nat.le_of_ble_eq_true rfl⟩) (nv_pS hK trivial) rfl rfl hl.1 rfl (lv_room (Nat.le_of_ble_eq_true rfl)) dX7_tells_19 ⟨Nat.zero_le _, Nat.zero_le _⟩) ?_
      refine nv_ifb_ne (tgt := 31) hx hb dX7_tells_22 (by decide) (fun c3 => ?_) (fun c3 => ?_)
      · have c3 := (iR_in2 (n := 25) (by decide)).mp c3
        obtain ⟨xk, h_xk, rfl⟩ := iR_of c3 (by decide)
        have et_xk : tN (nI xk) = xk := tN_nI (by omega)
        have g_at := gEnds_le hG h_ak hz _ h_ck
        refine lv_iload_n hx hb dX7_tells_31 rfl (lv_at hl 1 rfl) ?_
        refine lv_iload_n hx hb dX7_tells_32 rfl (lv_at hl 2 rfl) ?_
        refine lv_iload_n hx hb dX7_tells_33 rfl (lv_at hl 3 rfl) ?_
        refine nv_kS (va_runS (As := [.int (nI ak), .int (nI ck), .int (nI z)]) (rest := []) ⟨hx, hb, hml, hown, hts⟩ (c_X7_endingAt l ak ck z) (va_cwS 3 hts gX7_tells_X7_endingAt rfl rfl rfl (by decide +kernel) ⟨Nat.le_of_ble_eq_true rfl, Nat.le_of_ble_eq_true rfl⟩) (nv_pS hK trivial) rfl rfl hl.1 rfl (lv_room (Nat.le_of_ble_eq_true rfl)) dX7_tells_34 ⟨Nat.zero_le _, Nat.zero_le _⟩) ?_
        refine lv_istore (lv' := [(5, .int (nI (gEndAt ak ck z))), (0, .ref h), (1, .int (nI ak)), (2, .int (nI ck)), (3, .int (nI z)), (4, .int (nI xk))]) hx hb dX7_tells_37 hl (by decide) rfl (fun ls hl => ?_)
        refine lv_aload_n hx hb dX7_tells_39 rfl (lv_at hl 1 rfl) ?_
        refine va_get (D := D) (ci := 9) (v := .ref aG) (C := RX7) (T := TX7) (N := 18) hx hb hts in_X7 hown hK.1 hP 0 rfl rfl 0 (by decide) fl_7 (fun _ h9 => h9) rfl dX7_tells_40 ?_
        refine lv_iload hx hb dX7_tells_43 (lv_at hl 0 rfl) ?_
        refine nv_gald (i := gEndAt ak ck z) hx hb hK.1 hP 1 0 rfl rfl (by first | omega | (simp only [gEndAt]; omega)) (by decide) dX7_tells_45 ?_
        refine lv_istore (lv' := [(6, .int (nI (G (gEndAt ak ck z)))), (5, .int (nI (gEndAt ak ck z))), (0, .ref h), (1, .int (nI ak)), (2, .int (nI ck)), (3, .int (nI z)), (4, .int (nI xk))]) hx hb dX7_tells_46 hl (by decide) rfl (fun ls hl => ?_)
        refine lv_iload hx hb dX7_tells_48 (lv_at hl 0 rfl) ?_
        refine lv_iload hx hb dX7_tells_50 (lv_at hl 6 rfl) ?_
        refine nv_icmp_ne (tgt := 64) hx hb dX7_tells_52 (by decide) (by omega) (by omega) (fun c4 => ?_) (fun c4 => ?_)
        · refine lv_aload_n hx hb dX7_tells_64 rfl (lv_at hl 2 rfl) ?_
          refine va_get (D := D) (ci := 9) (v := .ref aG) (C := RX7) (T := TX7) (N := 18) hx hb hts in_X7 hown hK.1 hP 0 rfl rfl 0 (by decide) fl_7 (fun _ h9 => h9) rfl dX7_tells_65 ?_
          refine lv_iload hx hb dX7_tells_68 (lv_at hl 1 rfl) ?_
          refine lv_iload hx hb dX7_tells_70 (lv_at hl 6 rfl) ?_
          refine nv_gast (i := gEndAt ak ck z) (v := xk) hx hb hK.1 hP (hD _ _ _ _ _ _ _ _) hS 1 0 rfl rfl (by first | omega | (simp only [gEndAt]; omega)) (by decide) dX7_tells_72 (fun H locs hP hS => ?_)
          have hP : va_P D vwCl [(h, .inr (9, [.ref aG, .ref aB, .ref aH, .int (nI ch), .ref aS, .int (nI hs), .ref aI, .int (nI ty), .int ea, .int ra, .int (nI wy), .int wd, .ref aL, .int (nI ln), .int (nI th), .int (nI sp), .int (nI iw), .ref aT])), (aG, .inl (cI, 128, .inl (gN ((va_up G (gEndAt ak ck z) (xk)))))), (aB, .inl (cI, 128, .inl (gN B))), (aH, .inl (cI, 1024, .inl (gN Hi))), (aS, .inl (cI, 128, .inl (gN Sv))), (aI, .inl (cI, 60, .inl (gN In))), (aL, .inl (cC, 40, .inl (gN Le))), (aT, .inl (cI, 360, .inl To))] H := hP
          refine lv_aload_n hx hb dX7_tells_73 rfl (lv_at hl 2 rfl) ?_
          refine lv_iload hx hb dX7_tells_74 (lv_at hl 0 rfl) ?_
          refine nv_kM (va_runV (As := [.int (nI (G (gEndAt ak ck z)))]) (rest := []) ⟨hx, hb, hml, hown, hts⟩ (c_X7_done l hD (nI (G (gEndAt ak ck z)))) (cwV 1 hts gX7_tells_X7_done rfl rfl rfl (by decide +kernel) ⟨Nat.le_of_ble_eq_true rfl, Nat.le_of_ble_eq_true rfl⟩) (nv_pV hK hP (va_recv hK.1 hP (ci := 9) (q0 := 0) rfl rfl)) rfl rfl hl.1 rfl (lv_room (Nat.le_of_ble_eq_true rfl)) dX7_tells_76 ⟨Nat.zero_le _, Nat.zero_le _⟩) hS (fun H locs hP hS => ?_)
          have hP : va_P D vwCl [(h, .inr (9, [.ref aG, .ref aB, .ref aH, .int (nI ch), .ref aS, .int (nI hs), .ref aI, .int (nI ty), .int ea, .int ra, .int (nI wy), .int wd, .ref aL, .int (nI ln), .int (nI 0), .int (nI sp), .int (nI iw), .ref aT])), (aG, .inl (cI, 128, .inl (gN ((va_up G (gEndAt ak ck z) (xk)))))), (aB, .inl (cI, 128, .inl (gN B))), (aH, .inl (cI, 1024, .inl (gN Hi))), (aS, .inl (cI, 128, .inl (gN Sv))), (aI, .inl (cI, 60, .inl (gN In))), (aL, .inl (cC, 40, .inl (gN Le))), (aT, .inl (cI, 360, .inl To))] H := hP
          exact nv_retM hq hx hb hr hlocks (nar_i _) (by unfold vTell; simp only [et_ak, et_ck, et_xk]; rw [if_neg (fun q => q.elim (fun z => z c1) (fun q => q.elim (fun z => z c2) (fun z => z c3))), if_neg (fun q => c4 ((nI_eq (by omega) (by omega)).mp q))]; rfl) hS hP (by unfold vTell; simp only [et_ak, et_ck, et_xk]; rw [if_neg (fun q => q.elim (fun z => z c1) (fun q => q.elim (fun z => z c2) (fun z => z c3))), if_neg (fun q => c4 ((nI_eq (by omega) (by omega)).mp q))]; rfl) dX7_tells_79
        · refine lv_aload_n hx hb dX7_tells_55 rfl (lv_at hl 2 rfl) ?_
          refine lv_iconst (v := nI 2) hx hb dX7_tells_56 (by decide) ?_
          refine lv_iload hx hb dX7_tells_57 (lv_at hl 6 rfl) ?_
          refine lv_iconst (v := nI 2) hx hb dX7_tells_59 (by decide) ?_
          refine nv_kM (va_runV (As := [.int (nI 2), .int (nI xk), .int (nI 2)]) (rest := []) ⟨hx, hb, hml, hown, hts⟩ (c_X7_refused l hD 2 (nI (xk)) 2) (cwV 3 hts gX7_tells_X7_refused rfl rfl rfl (by decide +kernel) ⟨Nat.le_of_ble_eq_true rfl, Nat.le_of_ble_eq_true rfl⟩) (nv_pV hK hP (va_recv hK.1 hP (ci := 9) (q0 := 0) rfl rfl)) rfl rfl hl.1 rfl (lv_room (Nat.le_of_ble_eq_true rfl)) dX7_tells_60 ⟨Nat.zero_le _, Nat.zero_le _⟩) hS (fun H locs hP hS => ?_)
          have hP : va_P D vwCl [(h, .inr (9, [.ref aG, .ref aB, .ref aH, .int (nI ch), .ref aS, .int (nI hs), .ref aI, .int (nI ty), .int ea, .int ra, .int (nI 2), .int (nI (xk)), .ref aL, .int (nI ln), .int (nI 2), .int (nI sp), .int (nI iw), .ref aT])), (aG, .inl (cI, 128, .inl (gN G))), (aB, .inl (cI, 128, .inl (gN B))), (aH, .inl (cI, 1024, .inl (gN Hi))), (aS, .inl (cI, 128, .inl (gN Sv))), (aI, .inl (cI, 60, .inl (gN In))), (aL, .inl (cC, 40, .inl (gN Le))), (aT, .inl (cI, 360, .inl To))] H := hP
          exact nv_retM hq hx hb hr hlocks (nar_i _) (by unfold vTell; simp only [et_ak, et_ck, et_xk]; rw [if_neg (fun q => q.elim (fun z => z c1) (fun q => q.elim (fun z => z c2) (fun z => z c3))), if_pos (congrArg nI c4)]; rfl) hS hP (by unfold vTell; simp only [et_ak, et_ck, et_xk]; rw [if_neg (fun q => q.elim (fun z => z c1) (fun q => q.elim (fun z => z c2) (fun z => z c3))), if_pos (congrArg nI c4)]; rfl) dX7_tells_63
      · refine lv_aload_n hx hb dX7_tells_25 rfl (lv_at hl 0 rfl) ?_
        refine lv_iconst (v := nI 1) hx hb dX7_tells_26 (by decide) ?_
        refine nv_kM (va_runV (As := [.int (nI 1)]) (rest := []) ⟨hx, hb, hml, hown, hts⟩ (c_X7_fails l hD 1) (cwV 1 hts gX7_tells_X7_fails rfl rfl rfl (by decide +kernel) ⟨Nat.le_of_ble_eq_true rfl, Nat.le_of_ble_eq_true rfl⟩) (nv_pV hK hP (va_recv hK.1 hP (ci := 9) (q0 := 0) rfl rfl)) rfl rfl hl.1 rfl (lv_room (Nat.le_of_ble_eq_true rfl)) dX7_tells_27 ⟨Nat.zero_le _, Nat.zero_le _⟩) hS (fun H locs hP hS => ?_)
        have hP : va_P D vwCl [(h, .inr (9, [.ref aG, .ref aB, .ref aH, .int (nI ch), .ref aS, .int (nI hs), .ref aI, .int (nI ty), .int ea, .int ra, .int (nI wy), .int wd, .ref aL, .int (nI ln), .int (nI 1), .int (nI sp), .int (nI iw), .ref aT])), (aG, .inl (cI, 128, .inl (gN G))), (aB, .inl (cI, 128, .inl (gN B))), (aH, .inl (cI, 1024, .inl (gN Hi))), (aS, .inl (cI, 128, .inl (gN Sv))), (aI, .inl (cI, 60, .inl (gN In))), (aL, .inl (cC, 40, .inl (gN Le))), (aT, .inl (cI, 360, .inl To))] H := hP
        exact nv_retM hq hx hb hr hlocks (nar_i _) (by unfold vTell; simp only [et_ak, et_ck]; rw [if_pos (Or.inr (Or.inr (fun q => c3 ((iR_in2 (n := 25) (by decide)).mpr q))))]; rfl) hS hP (by unfold vTell; simp only [et_ak, et_ck]; rw [if_pos (Or.inr (Or.inr (fun q => c3 ((iR_in2 (n := 25) (by decide)).mpr q))))]; rfl) dX7_tells_30

set_option maxHeartbeats 1000000 in
set_option maxRecDepth 100000 in
theorem c_X7_shuts (l : Launch) {D : va_G} {cI cC : ClassId} {h aG aB aH aS aI aL aT : Nat} {G B Hi Sv In Le : Nat → Nat} {To : Nat → Int32} {ch hs ty wy ln th sp iw : Nat} {ea ra wd : Int32} {A : Nat → Prop} (hD : ∀ (G B Hi Sv In Le : Nat → Nat) (To : Nat → Int32) (fs : List Value), va_D A [(h, .inr (9, fs)), (aG, .inl (cI, 128, .inl (gN G))), (aB, .inl (cI, 128, .inl (gN B))), (aH, .inl (cI, 1024, .inl (gN Hi))), (aS, .inl (cI, 128, .inl (gN Sv))), (aI, .inl (cI, 60, .inl (gN In))), (aL, .inl (cC, 40, .inl (gN Le))), (aT, .inl (cI, 360, .inl To))]) {b : Nat} (hG : gWf b G) (d : Int32) : Met l yX7_shuts wsX7_shuts ({ frames := 2, cells := 0, slots := 0, locals := 44 }) (va_Pc [.ref h, .int d] (sPre D [(cI, .int), (cC, .char)] [] (fun H => va_P D vwCl [(h, .inr (9, [.ref aG, .ref aB, .ref aH, .int (nI ch), .ref aS, .int (nI hs), .ref aI, .int (nI ty), .int ea, .int ra, .int (nI wy), .int wd, .ref aL, .int (nI ln), .int (nI th), .int (nI sp), .int (nI iw), .ref aT])), (aG, .inl (cI, 128, .inl (gN G))), (aB, .inl (cI, 128, .inl (gN B))), (aH, .inl (cI, 1024, .inl (gN Hi))), (aS, .inl (cI, 128, .inl (gN Sv))), (aI, .inl (cI, 60, .inl (gN In))), (aL, .inl (cC, 40, .inl (gN Le))), (aT, .inl (cI, 360, .inl To))] H))) (mQ D ((vShut G d).2.2.2.1) [(h, .inr (9, [.ref aG, .ref aB, .ref aH, .int (nI ch), .ref aS, .int (nI hs), .ref aI, .int (nI ty), .int ea, .int ra, .int (nI (vWy (vShut G d) wy)), .int (vWd (vShut G d) wd), .ref aL, .int (nI ln), .int (nI ((vShut G d).1)), .int (nI sp), .int (nI iw), .ref aT])), (aG, .inl (cI, 128, .inl (gN ((vShut G d).2.2.2.2)))), (aB, .inl (cI, 128, .inl (gN B))), (aH, .inl (cI, 1024, .inl (gN Hi))), (aS, .inl (cI, 128, .inl (gN Sv))), (aI, .inl (cI, 60, .inl (gN In))), (aL, .inl (cC, 40, .inl (gN Le))), (aT, .inl (cI, 360, .inl To))] A) 0 0 A := by
  refine nv_met (cc := cX7_shuts) (maxL := 2) (ret := (some .int)) (by decide) rfl (Nat.le_of_ble_eq_true rfl) ?_
  intro p0 e0 s m0 args below meth c0 Q hq hargs hnA hpre ls hl
  obtain ⟨hx, hb, hr, hts, hown, hlocks, hml⟩ := hnA
  obtain ⟨hP, hK⟩ := hpre
  have hown : s.vm.findClass RX7 = some m0.cls := hown
  have hP : va_P D vwCl [(h, .inr (9, [.ref aG, .ref aB, .ref aH, .int (nI ch), .ref aS, .int (nI hs), .ref aI, .int (nI ty), .int ea, .int ra, .int (nI wy), .int wd, .ref aL, .int (nI ln), .int (nI th), .int (nI sp), .int (nI iw), .ref aT])), (aG, .inl (cI, 128, .inl (gN G))), (aB, .inl (cI, 128, .inl (gN B))), (aH, .inl (cI, 1024, .inl (gN Hi))), (aS, .inl (cI, 128, .inl (gN Sv))), (aI, .inl (cI, 60, .inl (gN In))), (aL, .inl (cC, 40, .inl (gN Le))), (aT, .inl (cI, 360, .inl To))] s.heap := hP
  have hl : lv_has ls 2 [(0, .ref h), (1, .int d)] := hl
  have hS : va_S A s.heap s.heap [] := va_S.rf
  have in_X7 : ∀ w ∈ wsX70, w ∈ wsX7_shuts := by decide +kernel
  have fl_7 := hts (.fieldLink RX7 7 "DoorDialectModel" "g" "[I") (by decide +kernel)
  obtain ⟨g_b, g_k, g_0, g_1, g_2, g_e, g_d, g_t, g_y, g_s, g_h⟩ := id hG
  refine lv_aload_n hx hb dX7_shuts_0 rfl (lv_at hl 0 rfl) ?_
  refine lv_iload_n hx hb dX7_shuts_1 rfl (lv_at hl 1 rfl) ?_
  refine nv_kS (va_runV (As := [.int d]) (rest := []) ⟨hx, hb, hml, hown, hts⟩ (c_X7_isDoor l (d) (by omega)) (cwV 1 hts gX7_shuts_X7_isDoor rfl rfl rfl (by decide +kernel) ⟨Nat.le_of_ble_eq_true rfl, Nat.le_of_ble_eq_true rfl⟩) (nv_pV hK hP (va_recv hK.1 hP (ci := 9) (q0 := 0) rfl rfl)) rfl rfl hl.1 rfl (lv_room (Nat.le_of_ble_eq_true rfl)) dX7_shuts_2 ⟨Nat.zero_le _, Nat.zero_le _⟩) ?_
  refine nv_ifb_ne (tgt := 14) hx hb dX7_shuts_5 (by decide) (fun c1 => ?_) (fun c1 => ?_)
  · obtain ⟨dk, h_dk, rfl⟩ := iR_of c1 (by omega)
    have et_dk : tN (nI dk) = dk := tN_nI (by omega)
    refine lv_aload_n hx hb dX7_shuts_14 rfl (lv_at hl 0 rfl) ?_
    refine va_get (D := D) (ci := 9) (v := .ref aG) (C := RX7) (T := TX7) (N := 18) hx hb hts in_X7 hown hK.1 hP 0 rfl rfl 0 (by decide) fl_7 (fun _ h9 => h9) rfl dX7_shuts_15 ?_
    refine lv_bipush (v := nI 80) hx hb dX7_shuts_18 (by decide) ?_
    refine lv_iload_n hx hb dX7_shuts_20 rfl (lv_at hl 1 rfl) ?_
    refine nv_iadd hx hb dX7_shuts_21 ?_
    refine nv_gald (i := 80 + dk) hx hb hK.1 hP 1 0 rfl rfl (by first | omega | (simp only [gEndAt]; omega)) (by decide) dX7_shuts_22 ?_
    have q2 : G (80 + dk) < 2 ^ 20 := hG.lt (k := 80 + dk) (by omega)
    refine nv_if_ne (tgt := 39) hx hb dX7_shuts_23 (by decide) (by omega) (fun c3 => ?_) (fun c3 => ?_)
    · refine lv_aload_n hx hb dX7_shuts_39 rfl (lv_at hl 0 rfl) ?_
      refine va_get (D := D) (ci := 9) (v := .ref aG) (C := RX7) (T := TX7) (N := 18) hx hb hts in_X7 hown hK.1 hP 0 rfl rfl 0 (by decide) fl_7 (fun _ h9 => h9) rfl dX7_shuts_40 ?_
      refine lv_bipush (v := nI 80) hx hb dX7_shuts_43 (by decide) ?_
      refine lv_iload_n hx hb dX7_shuts_45 rfl (lv_at hl 1 rfl) ?_
      refine nv_iadd hx hb dX7_shuts_46 ?_
      refine lv_iconst (v := nI 0) hx hb dX7_shuts_47 (by decide) ?_
      refine nv_gast (i := 80 + dk) (v := 0) hx hb hK.1 hP (hD _ _ _ _ _ _ _ _) hS 1 0 rfl rfl (by first | omega | (simp only [gEndAt]; omega)) (by decide) dX7_shuts_48 (fun H locs hP hS => ?_)
      have hP : va_P D vwCl [(h, .inr (9, [.ref aG, .ref aB, .ref aH, .int (nI ch), .ref aS, .int (nI hs), .ref aI, .int (nI ty), .int ea, .int ra, .int (nI wy), .int wd, .ref aL, .int (nI ln), .int (nI th), .int (nI sp), .int (nI iw), .ref aT])), (aG, .inl (cI, 128, .inl (gN ((va_up G (80 + dk) (0)))))), (aB, .inl (cI, 128, .inl (gN B))), (aH, .inl (cI, 1024, .inl (gN Hi))), (aS, .inl (cI, 128, .inl (gN Sv))), (aI, .inl (cI, 60, .inl (gN In))), (aL, .inl (cC, 40, .inl (gN Le))), (aT, .inl (cI, 360, .inl To))] H := hP
      refine lv_aload_n hx hb dX7_shuts_49 rfl (lv_at hl 0 rfl) ?_
      refine lv_aload_n hx hb dX7_shuts_50 rfl (lv_at hl 0 rfl) ?_
      refine lv_bipush (v := nI 80) hx hb dX7_shuts_51 (by decide) ?_
      refine nv_kS (va_runV (As := [.int (nI 80)]) (rest := [.ref h]) ⟨hx, hb, hml, hown, hts⟩ (c_X7_many l 80 (by omega) (by first | omega | (show va_up G (80 + dk) 0 0 ≤ 8; unfold va_up; rw [if_neg (by omega)]; omega))) (cwV 1 hts gX7_shuts_X7_many rfl rfl rfl (by decide +kernel) ⟨Nat.le_of_ble_eq_true rfl, Nat.le_of_ble_eq_true rfl⟩) (nv_pV hK hP (va_recv hK.1 hP (ci := 9) (q0 := 0) rfl rfl)) rfl rfl hl.1 rfl (lv_room (Nat.le_of_ble_eq_true rfl)) dX7_shuts_53 ⟨Nat.zero_le _, Nat.zero_le _⟩) ?_
      refine nv_kM (va_runV (As := [.int (nI (gMany (va_up G (80 + dk) (0)) 80))]) (rest := []) ⟨hx, hb, hml, hown, hts⟩ (c_X7_done l hD (nI (gMany (va_up G (80 + dk) (0)) 80))) (cwV 1 hts gX7_shuts_X7_done rfl rfl rfl (by decide +kernel) ⟨Nat.le_of_ble_eq_true rfl, Nat.le_of_ble_eq_true rfl⟩) (nv_pV hK hP (va_recv hK.1 hP (ci := 9) (q0 := 0) rfl rfl)) rfl rfl hl.1 rfl (lv_room (Nat.le_of_ble_eq_true rfl)) dX7_shuts_56 ⟨Nat.zero_le _, Nat.zero_le _⟩) hS (fun H locs hP hS => ?_)
      have hP : va_P D vwCl [(h, .inr (9, [.ref aG, .ref aB, .ref aH, .int (nI ch), .ref aS, .int (nI hs), .ref aI, .int (nI ty), .int ea, .int ra, .int (nI wy), .int wd, .ref aL, .int (nI ln), .int (nI 0), .int (nI sp), .int (nI iw), .ref aT])), (aG, .inl (cI, 128, .inl (gN ((va_up G (80 + dk) (0)))))), (aB, .inl (cI, 128, .inl (gN B))), (aH, .inl (cI, 1024, .inl (gN Hi))), (aS, .inl (cI, 128, .inl (gN Sv))), (aI, .inl (cI, 60, .inl (gN In))), (aL, .inl (cC, 40, .inl (gN Le))), (aT, .inl (cI, 360, .inl To))] H := hP
      exact nv_retM hq hx hb hr hlocks (nar_i _) (by unfold vShut; simp only [et_dk]; rw [if_neg (fun z => z c1), if_neg c3]; rfl) hS hP (by unfold vShut; simp only [et_dk]; rw [if_neg (fun z => z c1), if_neg c3]; rfl) dX7_shuts_59
    · refine lv_aload_n hx hb dX7_shuts_26 rfl (lv_at hl 0 rfl) ?_
      refine lv_iconst (v := nI 5) hx hb dX7_shuts_27 (by decide) ?_
      refine lv_aload_n hx hb dX7_shuts_28 rfl (lv_at hl 0 rfl) ?_
      refine lv_bipush (v := nI 80) hx hb dX7_shuts_29 (by decide) ?_
      refine nv_kS (va_runV (As := [.int (nI 80)]) (rest := [.int (nI 5), .ref h]) ⟨hx, hb, hml, hown, hts⟩ (c_X7_many l 80 (by omega) (by first | omega | (show va_up G (80 + dk) 0 0 ≤ 8; unfold va_up; rw [if_neg (by omega)]; omega))) (cwV 1 hts gX7_shuts_X7_many rfl rfl rfl (by decide +kernel) ⟨Nat.le_of_ble_eq_true rfl, Nat.le_of_ble_eq_true rfl⟩) (nv_pV hK hP (va_recv hK.1 hP (ci := 9) (q0 := 0) rfl rfl)) rfl rfl hl.1 rfl (lv_room (Nat.le_of_ble_eq_true rfl)) dX7_shuts_31 ⟨Nat.zero_le _, Nat.zero_le _⟩) ?_
      refine lv_iconst (v := nI 2) hx hb dX7_shuts_34 (by decide) ?_
      refine nv_kM (va_runV (As := [.int (nI 5), .int (nI (gMany G 80)), .int (nI 2)]) (rest := []) ⟨hx, hb, hml, hown, hts⟩ (c_X7_refused l hD 5 (nI (gMany G 80)) 2) (cwV 3 hts gX7_shuts_X7_refused rfl rfl rfl (by decide +kernel) ⟨Nat.le_of_ble_eq_true rfl, Nat.le_of_ble_eq_true rfl⟩) (nv_pV hK hP (va_recv hK.1 hP (ci := 9) (q0 := 0) rfl rfl)) rfl rfl hl.1 rfl (lv_room (Nat.le_of_ble_eq_true rfl)) dX7_shuts_35 ⟨Nat.zero_le _, Nat.zero_le _⟩) hS (fun H locs hP hS => ?_)
      have hP : va_P D vwCl [(h, .inr (9, [.ref aG, .ref aB, .ref aH, .int (nI ch), .ref aS, .int (nI hs), .ref aI, .int (nI ty), .int ea, .int ra, .int (nI 5), .int (nI (gMany G 80)), .ref aL, .int (nI ln), .int (nI 2), .int (nI sp), .int (nI iw), .ref aT])), (aG, .inl (cI, 128, .inl (gN G))), (aB, .inl (cI, 128, .inl (gN B))), (aH, .inl (cI, 1024, .inl (gN Hi))), (aS, .inl (cI, 128, .inl (gN Sv))), (aI, .inl (cI, 60, .inl (gN In))), (aL, .inl (cC, 40, .inl (gN Le))), (aT, .inl (cI, 360, .inl To))] H := hP
      exact nv_retM hq hx hb hr hlocks (nar_i _) (by unfold vShut; simp only [et_dk]; rw [if_neg (fun z => z c1), if_pos c3]; rfl) hS hP (by unfold vShut; simp only [et_dk]; rw [if_neg (fun z => z c1), if_pos c3]; rfl) dX7_shuts_38
  · refine lv_aload_n hx hb dX7_shuts_8 rfl (lv_at hl 0 rfl) ?_
    refine lv_iconst (v := nI 1) hx hb dX7_shuts_9 (by decide) ?_
    refine nv_kM (va_runV (As := [.int (nI 1)]) (rest := []) ⟨hx, hb, hml, hown, hts⟩ (c_X7_fails l hD 1) (cwV 1 hts gX7_shuts_X7_fails rfl rfl rfl (by decide +kernel) ⟨Nat.le_of_ble_eq_true rfl, Nat.le_of_ble_eq_true rfl⟩) (nv_pV hK hP (va_recv hK.1 hP (ci := 9) (q0 := 0) rfl rfl)) rfl rfl hl.1 rfl (lv_room (Nat.le_of_ble_eq_true rfl)) dX7_shuts_10 ⟨Nat.zero_le _, Nat.zero_le _⟩) hS (fun H locs hP hS => ?_)
    have hP : va_P D vwCl [(h, .inr (9, [.ref aG, .ref aB, .ref aH, .int (nI ch), .ref aS, .int (nI hs), .ref aI, .int (nI ty), .int ea, .int ra, .int (nI wy), .int wd, .ref aL, .int (nI ln), .int (nI 1), .int (nI sp), .int (nI iw), .ref aT])), (aG, .inl (cI, 128, .inl (gN G))), (aB, .inl (cI, 128, .inl (gN B))), (aH, .inl (cI, 1024, .inl (gN Hi))), (aS, .inl (cI, 128, .inl (gN Sv))), (aI, .inl (cI, 60, .inl (gN In))), (aL, .inl (cC, 40, .inl (gN Le))), (aT, .inl (cI, 360, .inl To))] H := hP
    exact nv_retM hq hx hb hr hlocks (nar_i _) (by unfold vShut; rw [if_pos c1]; rfl) hS hP (by unfold vShut; rw [if_pos c1]; rfl) dX7_shuts_13
