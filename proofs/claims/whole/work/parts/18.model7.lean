theorem nv_same_none {a n : Nat} (h : (if a < n then nI a else -1) = -1) (ha : a < 2 ^ 31 := by omega) : ¬ a < n := by
  intro q
  rw [if_pos q] at h
  have h1 := congrArg Int32.toInt h
  rw [nI_toInt ha] at h1
  have h2 : (-1 : Int32).toInt = -1 := by decide
  omega
theorem nv_same_some {a n : Nat} (h : ¬ (if a < n then nI a else -1) = -1) : a < n := by
  by_cases q : a < n
  · exact q
  · rw [if_neg q] at h; exact absurd rfl h
theorem gSame_le (G : Nat → Nat) (a g : Nat) : gSame G a g ≤ G 2 := fd_le _ _
theorem va_same (G : Nat → Nat) (i v : Nat) : va_up G i v i = v := if_pos rfl
theorem va_ne (G : Nat → Nat) {i j : Nat} (v : Nat) (h : j ≠ i) : va_up G i v j = G j := if_neg h

set_option maxHeartbeats 1000000 in
set_option maxRecDepth 100000 in
theorem c_X7_keyComes (l : Launch) {D : va_G} {cI cC : ClassId} {h aG aB aH aS aI aL aT : Nat} {G B Hi Sv In Le : Nat → Nat} {To : Nat → Int32} {ch hs ty wy ln th sp iw : Nat} {ea ra wd : Int32} {A : Nat → Prop} (hD : ∀ (G B Hi Sv In Le : Nat → Nat) (To : Nat → Int32) (fs : List Value), va_D A [(h, .inr (9, fs)), (aG, .inl (cI, 128, .inl (gN G))), (aB, .inl (cI, 128, .inl (gN B))), (aH, .inl (cI, 1024, .inl (gN Hi))), (aS, .inl (cI, 128, .inl (gN Sv))), (aI, .inl (cI, 60, .inl (gN In))), (aL, .inl (cC, 40, .inl (gN Le))), (aT, .inl (cI, 360, .inl To))]) {b : Nat} (hG : gWf b G) (a g : Int32) : Met l yX7_keyComes wsX7_keyComes ({ frames := 2, cells := 0, slots := 0, locals := 46 }) (va_Pc [.ref h, .int a, .int g] (sPre D [(cI, .int), (cC, .char)] [] (fun H => va_P D vwCl [(h, .inr (9, [.ref aG, .ref aB, .ref aH, .int (nI ch), .ref aS, .int (nI hs), .ref aI, .int (nI ty), .int ea, .int ra, .int (nI wy), .int wd, .ref aL, .int (nI ln), .int (nI th), .int (nI sp), .int (nI iw), .ref aT])), (aG, .inl (cI, 128, .inl (gN G))), (aB, .inl (cI, 128, .inl (gN B))), (aH, .inl (cI, 1024, .inl (gN Hi))), (aS, .inl (cI, 128, .inl (gN Sv))), (aI, .inl (cI, 60, .inl (gN In))), (aL, .inl (cC, 40, .inl (gN Le))), (aT, .inl (cI, 360, .inl To))] H))) (mQ D ((vKey G a g).2.2.2.1) [(h, .inr (9, [.ref aG, .ref aB, .ref aH, .int (nI ch), .ref aS, .int (nI hs), .ref aI, .int (nI ty), .int ea, .int ra, .int (nI (vWy (vKey G a g) wy)), .int (vWd (vKey G a g) wd), .ref aL, .int (nI ln), .int (nI ((vKey G a g).1)), .int (nI sp), .int (nI iw), .ref aT])), (aG, .inl (cI, 128, .inl (gN ((vKey G a g).2.2.2.2)))), (aB, .inl (cI, 128, .inl (gN B))), (aH, .inl (cI, 1024, .inl (gN Hi))), (aS, .inl (cI, 128, .inl (gN Sv))), (aI, .inl (cI, 60, .inl (gN In))), (aL, .inl (cC, 40, .inl (gN Le))), (aT, .inl (cI, 360, .inl To))] A) 0 0 A := by
  refine nv_met (cc := cX7_keyComes) (maxL := 5) (ret := (some .int)) (by decide) rfl (Nat.le_of_ble_eq_true rfl) ?_
  intro p0 e0 s m0 args below meth c0 Q hq hargs hnA hpre ls hl
  obtain ⟨hx, hb, hr, hts, hown, hlocks, hml⟩ := hnA
  obtain ⟨hP, hK⟩ := hpre
  have hown : s.vm.findClass RX7 = some m0.cls := hown
  have hP : va_P D vwCl [(h, .inr (9, [.ref aG, .ref aB, .ref aH, .int (nI ch), .ref aS, .int (nI hs), .ref aI, .int (nI ty), .int ea, .int ra, .int (nI wy), .int wd, .ref aL, .int (nI ln), .int (nI th), .int (nI sp), .int (nI iw), .ref aT])), (aG, .inl (cI, 128, .inl (gN G))), (aB, .inl (cI, 128, .inl (gN B))), (aH, .inl (cI, 1024, .inl (gN Hi))), (aS, .inl (cI, 128, .inl (gN Sv))), (aI, .inl (cI, 60, .inl (gN In))), (aL, .inl (cC, 40, .inl (gN Le))), (aT, .inl (cI, 360, .inl To))] s.heap := hP
  have hl : lv_has ls 5 [(0, .ref h), (1, .int a), (2, .int g)] := hl
  have hS : va_S A s.heap s.heap [] := va_S.rf
  have in_X7 : ∀ w ∈ wsX70, w ∈ wsX7_keyComes := by decide +kernel
  have fl_7 := hts (.fieldLink RX7 7 "DoorDialectModel" "g" "[I") (by decide +kernel)
  obtain ⟨g_b, g_k, g_0, g_1, g_2, g_e, g_d, g_t, g_y, g_s, g_h⟩ := id hG
  refine lv_iload_n hx hb dX7_keyComes_0 rfl (lv_at hl 1 rfl) ?_
  refine nv_kS (va_runS (As := [.int a]) (rest := []) ⟨hx, hb, hml, hown, hts⟩ (c_X7_isThird l (a)) (va_cwS 1 hts gX7_keyComes_X7_isThird rfl rfl rfl (by decide +kernel) ⟨Nat.le_of_ble_eq_true rfl, Nat.le_of_ble_eq_true rfl⟩) (nv_pS hK trivial) rfl rfl hl.1 rfl (lv_room (Nat.le_of_ble_eq_true rfl)) dX7_keyComes_1 ⟨Nat.zero_le _, Nat.zero_le _⟩) ?_
  refine nv_ifb_eq (tgt := 14) hx hb dX7_keyComes_4 (by decide) (fun c1 => ?_) (fun c1 => ?_)
  · refine lv_aload_n hx hb dX7_keyComes_14 rfl (lv_at hl 0 rfl) ?_
    refine lv_iconst (v := nI 1) hx hb dX7_keyComes_15 (by decide) ?_
    refine nv_kM (va_runV (As := [.int (nI 1)]) (rest := []) ⟨hx, hb, hml, hown, hts⟩ (c_X7_fails l hD 1) (cwV 1 hts gX7_keyComes_X7_fails rfl rfl rfl (by decide +kernel) ⟨Nat.le_of_ble_eq_true rfl, Nat.le_of_ble_eq_true rfl⟩) (nv_pV hK hP (va_recv hK.1 hP (ci := 9) (q0 := 0) rfl rfl)) rfl rfl hl.1 rfl (lv_room (Nat.le_of_ble_eq_true rfl)) dX7_keyComes_16 ⟨Nat.zero_le _, Nat.zero_le _⟩) hS (fun H locs hP hS => ?_)
    have hP : va_P D vwCl [(h, .inr (9, [.ref aG, .ref aB, .ref aH, .int (nI ch), .ref aS, .int (nI hs), .ref aI, .int (nI ty), .int ea, .int ra, .int (nI wy), .int wd, .ref aL, .int (nI ln), .int (nI 1), .int (nI sp), .int (nI iw), .ref aT])), (aG, .inl (cI, 128, .inl (gN G))), (aB, .inl (cI, 128, .inl (gN B))), (aH, .inl (cI, 1024, .inl (gN Hi))), (aS, .inl (cI, 128, .inl (gN Sv))), (aI, .inl (cI, 60, .inl (gN In))), (aL, .inl (cC, 40, .inl (gN Le))), (aT, .inl (cI, 360, .inl To))] H := hP
    exact nv_retM hq hx hb hr hlocks (nar_i _) (by unfold vKey; rw [if_pos (Or.inl c1)]; rfl) hS hP (by unfold vKey; rw [if_pos (Or.inl c1)]; rfl) dX7_keyComes_19
  · obtain ⟨ak, h_ak, rfl⟩ := iR_of c1 (by decide)
    have et_ak : tN (nI ak) = ak := tN_nI (by omega)
    refine lv_iload_n hx hb dX7_keyComes_7 rfl (lv_at hl 2 rfl) ?_
    refine nv_kS (va_runS (As := [.int g]) (rest := []) ⟨hx, hb, hml, hown, hts⟩ (c_X7_isThird l (g)) (va_cwS 1 hts gX7_keyComes_X7_isThird rfl rfl rfl (by decide +kernel) ⟨Nat.le_of_ble_eq_true rfl, Nat.le_of_ble_eq_true rfl⟩) (nv_pS hK trivial) rfl rfl hl.1 rfl (lv_room (Nat.le_of_ble_eq_true rfl)) dX7_keyComes_8 ⟨Nat.zero_le _, Nat.zero_le _⟩) ?_
    refine nv_ifb_ne (tgt := 20) hx hb dX7_keyComes_11 (by decide) (fun c2 => ?_) (fun c2 => ?_)
    · obtain ⟨gk, h_gk, rfl⟩ := iR_of c2 (by decide)
      have et_gk : tN (nI gk) = gk := tN_nI (by omega)
      have hsl := gSame_le G ak gk
      refine lv_aload_n hx hb dX7_keyComes_20 rfl (lv_at hl 0 rfl) ?_
      refine lv_iload_n hx hb dX7_keyComes_21 rfl (lv_at hl 1 rfl) ?_
      refine lv_iload_n hx hb dX7_keyComes_22 rfl (lv_at hl 2 rfl) ?_
      refine nv_kS (va_runV (As := [.int (nI ak), .int (nI gk)]) (rest := []) ⟨hx, hb, hml, hown, hts⟩ (c_X7_sameKey l hG ak gk (by omega) (by omega)) (cwV 2 hts gX7_keyComes_X7_sameKey rfl rfl rfl (by decide +kernel) ⟨Nat.le_of_ble_eq_true rfl, Nat.le_of_ble_eq_true rfl⟩) (nv_pV hK hP (va_recv hK.1 hP (ci := 9) (q0 := 0) rfl rfl)) rfl rfl hl.1 rfl (lv_room (Nat.le_of_ble_eq_true rfl)) dX7_keyComes_23 ⟨Nat.zero_le _, Nat.zero_le _⟩) ?_
      refine lv_istore_n (lv' := [(3, .int ((if gSame G ak gk < G 2 then nI (gSame G ak gk) else -1))), (0, .ref h), (1, .int (nI ak)), (2, .int (nI gk))]) hx hb dX7_keyComes_26 rfl hl (by decide) rfl (fun ls hl => ?_)
      refine lv_iload_n hx hb dX7_keyComes_27 rfl (lv_at hl 0 rfl) ?_
      refine lv_iconst (v := (-1)) hx hb dX7_keyComes_28 (by decide) ?_
      refine lv_icmp_eq (tgt := 40) hx hb dX7_keyComes_29 (by decide) (fun c3 => ?_) (fun c3 => ?_)
      · have hsm : ¬ gSame G ak gk < G 2 := nv_same_none c3
        refine lv_aload_n hx hb dX7_keyComes_40 rfl (lv_at hl 1 rfl) ?_
        refine va_get (D := D) (ci := 9) (v := .ref aG) (C := RX7) (T := TX7) (N := 18) hx hb hts in_X7 hown hK.1 hP 0 rfl rfl 0 (by decide) fl_7 (fun _ h9 => h9) rfl dX7_keyComes_41 ?_
        refine lv_iconst (v := nI 2) hx hb dX7_keyComes_44 (by decide) ?_
        refine nv_gald (i := 2) hx hb hK.1 hP 1 0 rfl rfl (by first | omega | (simp only [gEndAt]; omega)) (by decide) dX7_keyComes_45 ?_
        have q4 : G 2 < 2 ^ 20 := hG.lt (k := 2) (by omega)
        refine lv_istore (lv' := [(4, .int (nI (G 2))), (3, .int ((if gSame G ak gk < G 2 then nI (gSame G ak gk) else -1))), (0, .ref h), (1, .int (nI ak)), (2, .int (nI gk))]) hx hb dX7_keyComes_46 hl (by decide) rfl (fun ls hl => ?_)
        refine lv_iload hx hb dX7_keyComes_48 (lv_at hl 0 rfl) ?_
        refine lv_iconst (v := nI 5) hx hb dX7_keyComes_50 (by decide) ?_
        refine nv_icmp_ne (tgt := 62) hx hb dX7_keyComes_51 (by decide) (by omega) (by omega) (fun c5 => ?_) (fun c5 => ?_)
        · refine lv_aload_n hx hb dX7_keyComes_62 rfl (lv_at hl 2 rfl) ?_
          refine va_get (D := D) (ci := 9) (v := .ref aG) (C := RX7) (T := TX7) (N := 18) hx hb hts in_X7 hown hK.1 hP 0 rfl rfl 0 (by decide) fl_7 (fun _ h9 => h9) rfl dX7_keyComes_63 ?_
          refine lv_bipush (v := nI 118) hx hb dX7_keyComes_66 (by decide) ?_
          refine lv_iload hx hb dX7_keyComes_68 (lv_at hl 0 rfl) ?_
          refine nv_iadd hx hb dX7_keyComes_70 ?_
          refine lv_iload_n hx hb dX7_keyComes_71 rfl (lv_at hl 3 rfl) ?_
          refine nv_gast (i := 118 + (G 2)) (v := ak) hx hb hK.1 hP (hD _ _ _ _ _ _ _ _) hS 1 0 rfl rfl (by first | omega | (simp only [gEndAt]; omega)) (by decide) dX7_keyComes_72 (fun H locs hP hS => ?_)
          have hP : va_P D vwCl [(h, .inr (9, [.ref aG, .ref aB, .ref aH, .int (nI ch), .ref aS, .int (nI hs), .ref aI, .int (nI ty), .int ea, .int ra, .int (nI wy), .int wd, .ref aL, .int (nI ln), .int (nI th), .int (nI sp), .int (nI iw), .ref aT])), (aG, .inl (cI, 128, .inl (gN ((va_up G (118 + (G 2)) (ak)))))), (aB, .inl (cI, 128, .inl (gN B))), (aH, .inl (cI, 1024, .inl (gN Hi))), (aS, .inl (cI, 128, .inl (gN Sv))), (aI, .inl (cI, 60, .inl (gN In))), (aL, .inl (cC, 40, .inl (gN Le))), (aT, .inl (cI, 360, .inl To))] H := hP
          refine lv_aload_n hx hb dX7_keyComes_73 rfl (lv_at hl 2 rfl) ?_
          refine va_get (D := D) (ci := 9) (v := .ref aG) (C := RX7) (T := TX7) (N := 18) hx hb hts in_X7 hown hK.1 hP 0 rfl rfl 0 (by decide) fl_7 (fun _ h9 => h9) rfl dX7_keyComes_74 ?_
          refine lv_bipush (v := nI 123) hx hb dX7_keyComes_77 (by decide) ?_
          refine lv_iload hx hb dX7_keyComes_79 (lv_at hl 0 rfl) ?_
          refine nv_iadd hx hb dX7_keyComes_81 ?_
          refine lv_iload_n hx hb dX7_keyComes_82 rfl (lv_at hl 4 rfl) ?_
          refine nv_gast (i := 123 + (G 2)) (v := gk) hx hb hK.1 hP (hD _ _ _ _ _ _ _ _) hS 1 0 rfl rfl (by first | omega | (simp only [gEndAt]; omega)) (by decide) dX7_keyComes_83 (fun H locs hP hS => ?_)
          have hP : va_P D vwCl [(h, .inr (9, [.ref aG, .ref aB, .ref aH, .int (nI ch), .ref aS, .int (nI hs), .ref aI, .int (nI ty), .int ea, .int ra, .int (nI wy), .int wd, .ref aL, .int (nI ln), .int (nI th), .int (nI sp), .int (nI iw), .ref aT])), (aG, .inl (cI, 128, .inl (gN ((va_up (va_up G (118 + (G 2)) (ak)) (123 + (G 2)) (gk)))))), (aB, .inl (cI, 128, .inl (gN B))), (aH, .inl (cI, 1024, .inl (gN Hi))), (aS, .inl (cI, 128, .inl (gN Sv))), (aI, .inl (cI, 60, .inl (gN In))), (aL, .inl (cC, 40, .inl (gN Le))), (aT, .inl (cI, 360, .inl To))] H := hP
          refine lv_aload_n hx hb dX7_keyComes_84 rfl (lv_at hl 2 rfl) ?_
          refine va_get (D := D) (ci := 9) (v := .ref aG) (C := RX7) (T := TX7) (N := 18) hx hb hts in_X7 hown hK.1 hP 0 rfl rfl 0 (by decide) fl_7 (fun _ h9 => h9) rfl dX7_keyComes_85 ?_
          refine lv_iconst (v := nI 2) hx hb dX7_keyComes_88 (by decide) ?_
          refine lv_dup2_11 hx hb dX7_keyComes_89 rfl rfl ?_
          refine nv_gald (i := 2) hx hb hK.1 hP 1 0 rfl rfl (by first | omega | (simp only [gEndAt]; omega)) (by decide) dX7_keyComes_90 ?_
          refine lv_iconst (v := nI 1) hx hb dX7_keyComes_91 (by decide) ?_
          refine nv_iadd hx hb dX7_keyComes_92 ?_
          refine nv_gast (i := 2) (v := (va_up (va_up G (118 + (G 2)) (ak)) (123 + (G 2)) (gk)) 2 + 1) hx hb hK.1 hP (hD _ _ _ _ _ _ _ _) hS 1 0 rfl rfl (by first | omega | (simp only [gEndAt]; omega)) (by decide) dX7_keyComes_93 (fun H locs hP hS => ?_)
          have hP : va_P D vwCl [(h, .inr (9, [.ref aG, .ref aB, .ref aH, .int (nI ch), .ref aS, .int (nI hs), .ref aI, .int (nI ty), .int ea, .int ra, .int (nI wy), .int wd, .ref aL, .int (nI ln), .int (nI th), .int (nI sp), .int (nI iw), .ref aT])), (aG, .inl (cI, 128, .inl (gN ((va_up (va_up (va_up G (118 + (G 2)) (ak)) (123 + (G 2)) (gk)) (2) ((va_up (va_up G (118 + (G 2)) (ak)) (123 + (G 2)) (gk)) 2 + 1)))))), (aB, .inl (cI, 128, .inl (gN B))), (aH, .inl (cI, 1024, .inl (gN Hi))), (aS, .inl (cI, 128, .inl (gN Sv))), (aI, .inl (cI, 60, .inl (gN In))), (aL, .inl (cC, 40, .inl (gN Le))), (aT, .inl (cI, 360, .inl To))] H := hP
          refine lv_aload_n hx hb dX7_keyComes_94 rfl (lv_at hl 2 rfl) ?_
          refine lv_iload hx hb dX7_keyComes_95 (lv_at hl 0 rfl) ?_
          refine nv_kM (va_runV (As := [.int (nI (G 2))]) (rest := []) ⟨hx, hb, hml, hown, hts⟩ (c_X7_done l hD (nI (G 2))) (cwV 1 hts gX7_keyComes_X7_done rfl rfl rfl (by decide +kernel) ⟨Nat.le_of_ble_eq_true rfl, Nat.le_of_ble_eq_true rfl⟩) (nv_pV hK hP (va_recv hK.1 hP (ci := 9) (q0 := 0) rfl rfl)) rfl rfl hl.1 rfl (lv_room (Nat.le_of_ble_eq_true rfl)) dX7_keyComes_97 ⟨Nat.zero_le _, Nat.zero_le _⟩) hS (fun H locs hP hS => ?_)
          have hP : va_P D vwCl [(h, .inr (9, [.ref aG, .ref aB, .ref aH, .int (nI ch), .ref aS, .int (nI hs), .ref aI, .int (nI ty), .int ea, .int ra, .int (nI wy), .int wd, .ref aL, .int (nI ln), .int (nI 0), .int (nI sp), .int (nI iw), .ref aT])), (aG, .inl (cI, 128, .inl (gN ((va_up (va_up (va_up G (118 + (G 2)) (ak)) (123 + (G 2)) (gk)) (2) ((va_up (va_up G (118 + (G 2)) (ak)) (123 + (G 2)) (gk)) 2 + 1)))))), (aB, .inl (cI, 128, .inl (gN B))), (aH, .inl (cI, 1024, .inl (gN Hi))), (aS, .inl (cI, 128, .inl (gN Sv))), (aI, .inl (cI, 60, .inl (gN In))), (aL, .inl (cC, 40, .inl (gN Le))), (aT, .inl (cI, 360, .inl To))] H := hP
          exact nv_retM hq hx hb hr hlocks (nar_i _) (by unfold vKey; simp only [et_ak, et_gk]; rw [if_neg (fun q => q.elim (fun z => z c1) (fun z => z c2)), if_neg hsm, if_neg c5]; rfl) hS hP (by unfold vKey; simp only [et_ak, et_gk]; rw [if_neg (fun q => q.elim (fun z => z c1) (fun z => z c2)), if_neg hsm, if_neg c5]; rfl) dX7_keyComes_100
        · refine lv_aload_n hx hb dX7_keyComes_54 rfl (lv_at hl 2 rfl) ?_
          refine lv_iconst (v := nI 1) hx hb dX7_keyComes_55 (by decide) ?_
          refine lv_iconst (v := nI 5) hx hb dX7_keyComes_56 (by decide) ?_
          refine lv_iconst (v := nI 2) hx hb dX7_keyComes_57 (by decide) ?_
          refine nv_kM (va_runV (As := [.int (nI 1), .int (nI 5), .int (nI 2)]) (rest := []) ⟨hx, hb, hml, hown, hts⟩ (c_X7_refused l hD 1 (nI (5)) 2) (cwV 3 hts gX7_keyComes_X7_refused rfl rfl rfl (by decide +kernel) ⟨Nat.le_of_ble_eq_true rfl, Nat.le_of_ble_eq_true rfl⟩) (nv_pV hK hP (va_recv hK.1 hP (ci := 9) (q0 := 0) rfl rfl)) rfl rfl hl.1 rfl (lv_room (Nat.le_of_ble_eq_true rfl)) dX7_keyComes_58 ⟨Nat.zero_le _, Nat.zero_le _⟩) hS (fun H locs hP hS => ?_)
          have hP : va_P D vwCl [(h, .inr (9, [.ref aG, .ref aB, .ref aH, .int (nI ch), .ref aS, .int (nI hs), .ref aI, .int (nI ty), .int ea, .int ra, .int (nI 1), .int (nI (5)), .ref aL, .int (nI ln), .int (nI 2), .int (nI sp), .int (nI iw), .ref aT])), (aG, .inl (cI, 128, .inl (gN G))), (aB, .inl (cI, 128, .inl (gN B))), (aH, .inl (cI, 1024, .inl (gN Hi))), (aS, .inl (cI, 128, .inl (gN Sv))), (aI, .inl (cI, 60, .inl (gN In))), (aL, .inl (cC, 40, .inl (gN Le))), (aT, .inl (cI, 360, .inl To))] H := hP
          exact nv_retM hq hx hb hr hlocks (nar_i _) (by unfold vKey; simp only [et_ak, et_gk]; rw [if_neg (fun q => q.elim (fun z => z c1) (fun z => z c2)), if_neg hsm, if_pos c5]; rfl) hS hP (by unfold vKey; simp only [et_ak, et_gk]; rw [if_neg (fun q => q.elim (fun z => z c1) (fun z => z c2)), if_neg hsm, if_pos c5]; rfl) dX7_keyComes_61
      · have hsm : gSame G ak gk < G 2 := nv_same_some c3
        rw [if_pos hsm] at hl
        refine lv_aload_n hx hb dX7_keyComes_32 rfl (lv_at hl 1 rfl) ?_
        refine lv_iconst (v := nI 2) hx hb dX7_keyComes_33 (by decide) ?_
        refine lv_iload_n hx hb dX7_keyComes_34 rfl (lv_at hl 0 rfl) ?_
        refine lv_iconst (v := nI 2) hx hb dX7_keyComes_35 (by decide) ?_
        refine nv_kM (va_runV (As := [.int (nI 2), .int (nI (gSame G ak gk)), .int (nI 2)]) (rest := []) ⟨hx, hb, hml, hown, hts⟩ (c_X7_refused l hD 2 (nI (gSame G ak gk)) 2) (cwV 3 hts gX7_keyComes_X7_refused rfl rfl rfl (by decide +kernel) ⟨Nat.le_of_ble_eq_true rfl, Nat.le_of_ble_eq_true rfl⟩) (nv_pV hK hP (va_recv hK.1 hP (ci := 9) (q0 := 0) rfl rfl)) rfl rfl hl.1 rfl (lv_room (Nat.le_of_ble_eq_true rfl)) dX7_keyComes_36 ⟨Nat.zero_le _, Nat.zero_le _⟩) hS (fun H locs hP hS => ?_)
        have hP : va_P D vwCl [(h, .inr (9, [.ref aG, .ref aB, .ref aH, .int (nI ch), .ref aS, .int (nI hs), .ref aI, .int (nI ty), .int ea, .int ra, .int (nI 2), .int (nI (gSame G ak gk)), .ref aL, .int (nI ln), .int (nI 2), .int (nI sp), .int (nI iw), .ref aT])), (aG, .inl (cI, 128, .inl (gN G))), (aB, .inl (cI, 128, .inl (gN B))), (aH, .inl (cI, 1024, .inl (gN Hi))), (aS, .inl (cI, 128, .inl (gN Sv))), (aI, .inl (cI, 60, .inl (gN In))), (aL, .inl (cC, 40, .inl (gN Le))), (aT, .inl (cI, 360, .inl To))] H := hP
        exact nv_retM hq hx hb hr hlocks (nar_i _) (by unfold vKey; simp only [et_ak, et_gk]; rw [if_neg (fun q => q.elim (fun z => z c1) (fun z => z c2)), if_pos hsm]; rfl) hS hP (by unfold vKey; simp only [et_ak, et_gk]; rw [if_neg (fun q => q.elim (fun z => z c1) (fun z => z c2)), if_pos hsm]; rfl) dX7_keyComes_39
    · refine lv_aload_n hx hb dX7_keyComes_14 rfl (lv_at hl 0 rfl) ?_
      refine lv_iconst (v := nI 1) hx hb dX7_keyComes_15 (by decide) ?_
      refine nv_kM (va_runV (As := [.int (nI 1)]) (rest := []) ⟨hx, hb, hml, hown, hts⟩ (c_X7_fails l hD 1) (cwV 1 hts gX7_keyComes_X7_fails rfl rfl rfl (by decide +kernel) ⟨Nat.le_of_ble_eq_true rfl, Nat.le_of_ble_eq_true rfl⟩) (nv_pV hK hP (va_recv hK.1 hP (ci := 9) (q0 := 0) rfl rfl)) rfl rfl hl.1 rfl (lv_room (Nat.le_of_ble_eq_true rfl)) dX7_keyComes_16 ⟨Nat.zero_le _, Nat.zero_le _⟩) hS (fun H locs hP hS => ?_)
      have hP : va_P D vwCl [(h, .inr (9, [.ref aG, .ref aB, .ref aH, .int (nI ch), .ref aS, .int (nI hs), .ref aI, .int (nI ty), .int ea, .int ra, .int (nI wy), .int wd, .ref aL, .int (nI ln), .int (nI 1), .int (nI sp), .int (nI iw), .ref aT])), (aG, .inl (cI, 128, .inl (gN G))), (aB, .inl (cI, 128, .inl (gN B))), (aH, .inl (cI, 1024, .inl (gN Hi))), (aS, .inl (cI, 128, .inl (gN Sv))), (aI, .inl (cI, 60, .inl (gN In))), (aL, .inl (cC, 40, .inl (gN Le))), (aT, .inl (cI, 360, .inl To))] H := hP
      exact nv_retM hq hx hb hr hlocks (nar_i _) (by unfold vKey; simp only [et_ak]; rw [if_pos (Or.inr c2)]; rfl) hS hP (by unfold vKey; simp only [et_ak]; rw [if_pos (Or.inr c2)]; rfl) dX7_keyComes_19

set_option maxHeartbeats 1000000 in
set_option maxRecDepth 100000 in
theorem c_X7_isWrongAt (l : Launch) {D : va_G} {cI cC : ClassId} {h aG aB aH aS aI aL aT : Nat} {G B Hi Sv In Le : Nat → Nat} {To : Nat → Int32} {ch hs ty wy ln th sp iw : Nat} {ea ra wd : Int32} {A : Nat → Prop} (hD : ∀ (G B Hi Sv In Le : Nat → Nat) (To : Nat → Int32) (fs : List Value), va_D A [(h, .inr (9, fs)), (aG, .inl (cI, 128, .inl (gN G))), (aB, .inl (cI, 128, .inl (gN B))), (aH, .inl (cI, 1024, .inl (gN Hi))), (aS, .inl (cI, 128, .inl (gN Sv))), (aI, .inl (cI, 60, .inl (gN In))), (aL, .inl (cC, 40, .inl (gN Le))), (aT, .inl (cI, 360, .inl To))]) (d : Nat) (hd : d < 8) (h2 : ∀ k, k < 128 → G k < 2 ^ 30) : Met l yX7_isWrongAt wsX7_isWrongAt ({ frames := 0, cells := 0, slots := 0, locals := 0 }) (va_Pc [.ref h, .int (nI d)] (sPre D [(cI, .int), (cC, .char)] [] (fun H => va_P D vwCl [(h, .inr (9, [.ref aG, .ref aB, .ref aH, .int (nI ch), .ref aS, .int (nI hs), .ref aI, .int (nI ty), .int ea, .int ra, .int (nI wy), .int wd, .ref aL, .int (nI ln), .int (nI th), .int (nI sp), .int (nI iw), .ref aT])), (aG, .inl (cI, 128, .inl (gN G))), (aB, .inl (cI, 128, .inl (gN B))), (aH, .inl (cI, 1024, .inl (gN Hi))), (aS, .inl (cI, 128, .inl (gN Sv))), (aI, .inl (cI, 60, .inl (gN In))), (aL, .inl (cC, 40, .inl (gN Le))), (aT, .inl (cI, 360, .inl To))] H))) (mQv D [(h, .inr (9, [.ref aG, .ref aB, .ref aH, .int (nI ch), .ref aS, .int (nI hs), .ref aI, .int (nI ty), .int ea, .int ra, .int (nI wy), .int wd, .ref aL, .int (nI ln), .int (nI th), .int (nI sp), .int (nI iw), .ref aT])), (aG, .inl (cI, 128, .inl (gN ((gWrong G d))))), (aB, .inl (cI, 128, .inl (gN B))), (aH, .inl (cI, 1024, .inl (gN Hi))), (aS, .inl (cI, 128, .inl (gN Sv))), (aI, .inl (cI, 60, .inl (gN In))), (aL, .inl (cC, 40, .inl (gN Le))), (aT, .inl (cI, 360, .inl To))] A) 0 0 A := by
  refine nv_met (cc := cX7_isWrongAt) (maxL := 2) (ret := none) (by decide) rfl (Nat.le_of_ble_eq_true rfl) ?_
  intro p0 e0 s m0 args below meth c0 Q hq hargs hnA hpre ls hl
  obtain ⟨hx, hb, hr, hts, hown, hlocks, hml⟩ := hnA
  obtain ⟨hP, hK⟩ := hpre
  have hown : s.vm.findClass RX7 = some m0.cls := hown
  have hP : va_P D vwCl [(h, .inr (9, [.ref aG, .ref aB, .ref aH, .int (nI ch), .ref aS, .int (nI hs), .ref aI, .int (nI ty), .int ea, .int ra, .int (nI wy), .int wd, .ref aL, .int (nI ln), .int (nI th), .int (nI sp), .int (nI iw), .ref aT])), (aG, .inl (cI, 128, .inl (gN G))), (aB, .inl (cI, 128, .inl (gN B))), (aH, .inl (cI, 1024, .inl (gN Hi))), (aS, .inl (cI, 128, .inl (gN Sv))), (aI, .inl (cI, 60, .inl (gN In))), (aL, .inl (cC, 40, .inl (gN Le))), (aT, .inl (cI, 360, .inl To))] s.heap := hP
  have hl : lv_has ls 2 [(0, .ref h), (1, .int (nI d))] := hl
  have hS : va_S A s.heap s.heap [] := va_S.rf
  have in_X7 : ∀ w ∈ wsX70, w ∈ wsX7_isWrongAt := by decide +kernel
  have fl_7 := hts (.fieldLink RX7 7 "DoorDialectModel" "g" "[I") (by decide +kernel)
  refine lv_aload_n hx hb dX7_isWrongAt_0 rfl (lv_at hl 0 rfl) ?_
  refine va_get (D := D) (ci := 9) (v := .ref aG) (C := RX7) (T := TX7) (N := 18) hx hb hts in_X7 hown hK.1 hP 0 rfl rfl 0 (by decide) fl_7 (fun _ h9 => h9) rfl dX7_isWrongAt_1 ?_
  refine lv_iconst (v := nI 5) hx hb dX7_isWrongAt_4 (by decide) ?_
  refine lv_dup2_11 hx hb dX7_isWrongAt_5 rfl rfl ?_
  refine nv_gald (i := 5) hx hb hK.1 hP 1 0 rfl rfl (by first | omega | (simp only [gEndAt]; omega)) (by decide) dX7_isWrongAt_6 ?_
  refine lv_iconst (v := nI 1) hx hb dX7_isWrongAt_7 (by decide) ?_
  refine nv_iadd hx hb dX7_isWrongAt_8 ?_
  refine nv_gast (i := 5) (v := G 5 + 1) hx hb hK.1 hP (hD _ _ _ _ _ _ _ _) hS 1 0 rfl rfl (by first | omega | (simp only [gEndAt]; omega)) (by decide) dX7_isWrongAt_9 (fun H locs hP hS => ?_)
  have hP : va_P D vwCl [(h, .inr (9, [.ref aG, .ref aB, .ref aH, .int (nI ch), .ref aS, .int (nI hs), .ref aI, .int (nI ty), .int ea, .int ra, .int (nI wy), .int wd, .ref aL, .int (nI ln), .int (nI th), .int (nI sp), .int (nI iw), .ref aT])), (aG, .inl (cI, 128, .inl (gN ((va_up G (5) (G 5 + 1)))))), (aB, .inl (cI, 128, .inl (gN B))), (aH, .inl (cI, 1024, .inl (gN Hi))), (aS, .inl (cI, 128, .inl (gN Sv))), (aI, .inl (cI, 60, .inl (gN In))), (aL, .inl (cC, 40, .inl (gN Le))), (aT, .inl (cI, 360, .inl To))] H := hP
  refine lv_aload_n hx hb dX7_isWrongAt_10 rfl (lv_at hl 0 rfl) ?_
  refine va_get (D := D) (ci := 9) (v := .ref aG) (C := RX7) (T := TX7) (N := 18) hx hb hts in_X7 hown hK.1 hP 0 rfl rfl 0 (by decide) fl_7 (fun _ h9 => h9) rfl dX7_isWrongAt_11 ?_
  refine lv_bipush (v := nI 64) hx hb dX7_isWrongAt_14 (by decide) ?_
  refine lv_iload_n hx hb dX7_isWrongAt_16 rfl (lv_at hl 1 rfl) ?_
  refine nv_iadd hx hb dX7_isWrongAt_17 ?_
  refine lv_dup2_11 hx hb dX7_isWrongAt_18 rfl rfl ?_
  refine nv_gald (i := 64 + d) hx hb hK.1 hP 1 0 rfl rfl (by first | omega | (simp only [gEndAt]; omega)) (by decide) dX7_isWrongAt_19 ?_
  refine lv_iconst (v := nI 1) hx hb dX7_isWrongAt_20 (by decide) ?_
  refine nv_iadd hx hb dX7_isWrongAt_21 ?_
  refine nv_gast (i := 64 + d) (v := (va_up G (5) (G 5 + 1)) (64 + d) + 1) hx hb hK.1 hP (hD _ _ _ _ _ _ _ _) hS 1 0 rfl rfl (by first | omega | (simp only [gEndAt]; omega)) (by decide) dX7_isWrongAt_22 (fun H locs hP hS => ?_)
  have hP : va_P D vwCl [(h, .inr (9, [.ref aG, .ref aB, .ref aH, .int (nI ch), .ref aS, .int (nI hs), .ref aI, .int (nI ty), .int ea, .int ra, .int (nI wy), .int wd, .ref aL, .int (nI ln), .int (nI th), .int (nI sp), .int (nI iw), .ref aT])), (aG, .inl (cI, 128, .inl (gN ((va_up (va_up G (5) (G 5 + 1)) (64 + d) ((va_up G (5) (G 5 + 1)) (64 + d) + 1)))))), (aB, .inl (cI, 128, .inl (gN B))), (aH, .inl (cI, 1024, .inl (gN Hi))), (aS, .inl (cI, 128, .inl (gN Sv))), (aI, .inl (cI, 60, .inl (gN In))), (aL, .inl (cC, 40, .inl (gN Le))), (aT, .inl (cI, 360, .inl To))] H := hP
  refine lv_aload_n hx hb dX7_isWrongAt_23 rfl (lv_at hl 0 rfl) ?_
  refine va_get (D := D) (ci := 9) (v := .ref aG) (C := RX7) (T := TX7) (N := 18) hx hb hts in_X7 hown hK.1 hP 0 rfl rfl 0 (by decide) fl_7 (fun _ h9 => h9) rfl dX7_isWrongAt_24 ?_
  refine lv_bipush (v := nI 64) hx hb dX7_isWrongAt_27 (by decide) ?_
  refine lv_iload_n hx hb dX7_isWrongAt_29 rfl (lv_at hl 1 rfl) ?_
  refine nv_iadd hx hb dX7_isWrongAt_30 ?_
  refine nv_gald (i := 64 + d) hx hb hK.1 hP 1 0 rfl rfl (by first | omega | (simp only [gEndAt]; omega)) (by decide) dX7_isWrongAt_31 ?_
  refine lv_iconst (v := nI 3) hx hb dX7_isWrongAt_32 (by decide) ?_
  refine nv_icmp_ne (tgt := 57) hx hb dX7_isWrongAt_33 (by decide) (by first | omega | (show gWrong1 G d (64 + d) < 2 ^ 31; unfold gWrong1 va_up; have a1 := h2 (64 + d) (by omega); have a2 := h2 5 (by omega); simp only []; repeat (first | split | omega))) (by first | omega | (show gWrong1 G d (64 + d) < 2 ^ 31; unfold gWrong1 va_up; have a1 := h2 (64 + d) (by omega); have a2 := h2 5 (by omega); simp only []; repeat (first | split | omega))) (fun c1 => ?_) (fun c1 => ?_)
  · exact nv_retMv hq hx hb hr hlocks hS hP (by rw [show gWrong G d = gWrong1 G d from if_neg c1]; rfl) dX7_isWrongAt_57
  · refine lv_aload_n hx hb dX7_isWrongAt_36 rfl (lv_at hl 0 rfl) ?_
    refine va_get (D := D) (ci := 9) (v := .ref aG) (C := RX7) (T := TX7) (N := 18) hx hb hts in_X7 hown hK.1 hP 0 rfl rfl 0 (by decide) fl_7 (fun _ h9 => h9) rfl dX7_isWrongAt_37 ?_
    refine lv_bipush (v := nI 72) hx hb dX7_isWrongAt_40 (by decide) ?_
    refine lv_iload_n hx hb dX7_isWrongAt_42 rfl (lv_at hl 1 rfl) ?_
    refine nv_iadd hx hb dX7_isWrongAt_43 ?_
    refine lv_iconst (v := nI 1) hx hb dX7_isWrongAt_44 (by decide) ?_
    refine nv_gast (i := 72 + d) (v := 1) hx hb hK.1 hP (hD _ _ _ _ _ _ _ _) hS 1 0 rfl rfl (by first | omega | (simp only [gEndAt]; omega)) (by decide) dX7_isWrongAt_45 (fun H locs hP hS => ?_)
    have hP : va_P D vwCl [(h, .inr (9, [.ref aG, .ref aB, .ref aH, .int (nI ch), .ref aS, .int (nI hs), .ref aI, .int (nI ty), .int ea, .int ra, .int (nI wy), .int wd, .ref aL, .int (nI ln), .int (nI th), .int (nI sp), .int (nI iw), .ref aT])), (aG, .inl (cI, 128, .inl (gN ((va_up (va_up (va_up G (5) (G 5 + 1)) (64 + d) ((va_up G (5) (G 5 + 1)) (64 + d) + 1)) (72 + d) (1)))))), (aB, .inl (cI, 128, .inl (gN B))), (aH, .inl (cI, 1024, .inl (gN Hi))), (aS, .inl (cI, 128, .inl (gN Sv))), (aI, .inl (cI, 60, .inl (gN In))), (aL, .inl (cC, 40, .inl (gN Le))), (aT, .inl (cI, 360, .inl To))] H := hP
    refine lv_aload_n hx hb dX7_isWrongAt_46 rfl (lv_at hl 0 rfl) ?_
    refine va_get (D := D) (ci := 9) (v := .ref aG) (C := RX7) (T := TX7) (N := 18) hx hb hts in_X7 hown hK.1 hP 0 rfl rfl 0 (by decide) fl_7 (fun _ h9 => h9) rfl dX7_isWrongAt_47 ?_
    refine lv_bipush (v := nI 6) hx hb dX7_isWrongAt_50 (by decide) ?_
    refine lv_dup2_11 hx hb dX7_isWrongAt_52 rfl rfl ?_
    refine nv_gald (i := 6) hx hb hK.1 hP 1 0 rfl rfl (by first | omega | (simp only [gEndAt]; omega)) (by decide) dX7_isWrongAt_53 ?_
    refine lv_iconst (v := nI 1) hx hb dX7_isWrongAt_54 (by decide) ?_
    refine nv_iadd hx hb dX7_isWrongAt_55 ?_
    refine nv_gast (i := 6) (v := (va_up (va_up (va_up G (5) (G 5 + 1)) (64 + d) ((va_up G (5) (G 5 + 1)) (64 + d) + 1)) (72 + d) (1)) 6 + 1) hx hb hK.1 hP (hD _ _ _ _ _ _ _ _) hS 1 0 rfl rfl (by first | omega | (simp only [gEndAt]; omega)) (by decide) dX7_isWrongAt_56 (fun H locs hP hS => ?_)
    have hP : va_P D vwCl [(h, .inr (9, [.ref aG, .ref aB, .ref aH, .int (nI ch), .ref aS, .int (nI hs), .ref aI, .int (nI ty), .int ea, .int ra, .int (nI wy), .int wd, .ref aL, .int (nI ln), .int (nI th), .int (nI sp), .int (nI iw), .ref aT])), (aG, .inl (cI, 128, .inl (gN ((va_up (va_up (va_up (va_up G (5) (G 5 + 1)) (64 + d) ((va_up G (5) (G 5 + 1)) (64 + d) + 1)) (72 + d) (1)) (6) ((va_up (va_up (va_up G (5) (G 5 + 1)) (64 + d) ((va_up G (5) (G 5 + 1)) (64 + d) + 1)) (72 + d) (1)) 6 + 1)))))), (aB, .inl (cI, 128, .inl (gN B))), (aH, .inl (cI, 1024, .inl (gN Hi))), (aS, .inl (cI, 128, .inl (gN Sv))), (aI, .inl (cI, 60, .inl (gN In))), (aL, .inl (cC, 40, .inl (gN Le))), (aT, .inl (cI, 360, .inl To))] H := hP
    exact nv_retMv hq hx hb hr hlocks hS hP (by rw [show gWrong G d = gFell (gWrong1 G d) d from if_pos c1]; rfl) dX7_isWrongAt_57

theorem gAgree_le (G : Nat → Nat) (d g n c : Nat) : gAgree G d g n c ≤ 3 := by
  unfold gAgree
  have := bI_le (G (40 + d) = g)
  have := bI_le (G (48 + d) = n)
  have := bI_le (gCase G d = c)
  omega
theorem gAgree_lt (G : Nat → Nat) (d g n c : Nat) : gAgree G d g n c < 2 ^ 31 := Nat.lt_of_le_of_lt (gAgree_le G d g n c) (by decide)
theorem gHeard_lt {b : Nat} {G : Nat → Nat} (hG : gWf b G) {d : Nat} (hd : d < 8) : ∀ k, k < 128 → gHeard G d k < 2 ^ 30 := by
  intro k hk
  have h1 := hG.lt hk
  have h2 := hG.lt (k := 3) (by omega)
  have h3 := hG.lt (k := 104 + d) (by omega)
  unfold gHeard
  show (if k = 104 + d then _ else (if k = 3 then _ else _)) < _
  have h4 : va_up G 3 (G 3 + 1) (104 + d) = G (104 + d) := va_ne G _ (by omega)
  rw [h4]
  split
  · omega
  · split <;> omega

set_option maxHeartbeats 1000000 in
set_option maxRecDepth 100000 in
theorem c_X7_knocks (l : Launch) {D : va_G} {cI cC : ClassId} {h aG aB aH aS aI aL aT : Nat} {G B Hi Sv In Le : Nat → Nat} {To : Nat → Int32} {ch hs ty wy ln th sp iw : Nat} {ea ra wd : Int32} {A : Nat → Prop} (hD : ∀ (G B Hi Sv In Le : Nat → Nat) (To : Nat → Int32) (fs : List Value), va_D A [(h, .inr (9, fs)), (aG, .inl (cI, 128, .inl (gN G))), (aB, .inl (cI, 128, .inl (gN B))), (aH, .inl (cI, 1024, .inl (gN Hi))), (aS, .inl (cI, 128, .inl (gN Sv))), (aI, .inl (cI, 60, .inl (gN In))), (aL, .inl (cC, 40, .inl (gN Le))), (aT, .inl (cI, 360, .inl To))]) {b : Nat} (hG : gWf b G) (d g : Int32) (z : Nat) (c : Int32) (hz : z ≤ 1) : Met l yX7_knocks wsX7_knocks ({ frames := 2, cells := 0, slots := 0, locals := 45 }) (va_Pc [.ref h, .int d, .int g, .int (nI z), .int c] (sPre D [(cI, .int), (cC, .char)] [] (fun H => va_P D vwCl [(h, .inr (9, [.ref aG, .ref aB, .ref aH, .int (nI ch), .ref aS, .int (nI hs), .ref aI, .int (nI ty), .int ea, .int ra, .int (nI wy), .int wd, .ref aL, .int (nI ln), .int (nI th), .int (nI sp), .int (nI iw), .ref aT])), (aG, .inl (cI, 128, .inl (gN G))), (aB, .inl (cI, 128, .inl (gN B))), (aH, .inl (cI, 1024, .inl (gN Hi))), (aS, .inl (cI, 128, .inl (gN Sv))), (aI, .inl (cI, 60, .inl (gN In))), (aL, .inl (cC, 40, .inl (gN Le))), (aT, .inl (cI, 360, .inl To))] H))) (mQ D ((vKnock G d g z c).2.2.2.1) [(h, .inr (9, [.ref aG, .ref aB, .ref aH, .int (nI ch), .ref aS, .int (nI hs), .ref aI, .int (nI ty), .int ea, .int ra, .int (nI (vWy (vKnock G d g z c) wy)), .int (vWd (vKnock G d g z c) wd), .ref aL, .int (nI ln), .int (nI ((vKnock G d g z c).1)), .int (nI sp), .int (nI iw), .ref aT])), (aG, .inl (cI, 128, .inl (gN ((vKnock G d g z c).2.2.2.2)))), (aB, .inl (cI, 128, .inl (gN B))), (aH, .inl (cI, 1024, .inl (gN Hi))), (aS, .inl (cI, 128, .inl (gN Sv))), (aI, .inl (cI, 60, .inl (gN In))), (aL, .inl (cC, 40, .inl (gN Le))), (aT, .inl (cI, 360, .inl To))] A) 0 0 A := by
  refine nv_met (cc := cX7_knocks) (maxL := 6) (ret := (some .int)) (by decide) rfl (Nat.le_of_ble_eq_true rfl) ?_
  intro p0 e0 s m0 args below meth c0 Q hq hargs hnA hpre ls hl
  obtain ⟨hx, hb, hr, hts, hown, hlocks, hml⟩ := hnA
  obtain ⟨hP, hK⟩ := hpre
  have hown : s.vm.findClass RX7 = some m0.cls := hown
  have hP : va_P D vwCl [(h, .inr (9, [.ref aG, .ref aB, .ref aH, .int (nI ch), .ref aS, .int (nI hs), .ref aI, .int (nI ty), .int ea, .int ra, .int (nI wy), .int wd, .ref aL, .int (nI ln), .int (nI th), .int (nI sp), .int (nI iw), .ref aT])), (aG, .inl (cI, 128, .inl (gN G))), (aB, .inl (cI, 128, .inl (gN B))), (aH, .inl (cI, 1024, .inl (gN Hi))), (aS, .inl (cI, 128, .inl (gN Sv))), (aI, .inl (cI, 60, .inl (gN In))), (aL, .inl (cC, 40, .inl (gN Le))), (aT, .inl (cI, 360, .inl To))] s.heap := hP
  have hl : lv_has ls 6 [(0, .ref h), (1, .int d), (2, .int g), (3, .int (nI z)), (4, .int c)] := hl
  have hS : va_S A s.heap s.heap [] := va_S.rf
  have in_X7 : ∀ w ∈ wsX70, w ∈ wsX7_knocks := by decide +kernel
  have fl_7 := hts (.fieldLink RX7 7 "DoorDialectModel" "g" "[I") (by decide +kernel)
  obtain ⟨g_b, g_k, g_0, g_1, g_2, g_e, g_d, g_t, g_y, g_s, g_h⟩ := id hG
  refine lv_aload_n hx hb dX7_knocks_0 rfl (lv_at hl 0 rfl) ?_
  refine lv_iload_n hx hb dX7_knocks_1 rfl (lv_at hl 1 rfl) ?_
  refine nv_kS (va_runV (As := [.int d]) (rest := []) ⟨hx, hb, hml, hown, hts⟩ (c_X7_isDoor l (d) (by omega)) (cwV 1 hts gX7_knocks_X7_isDoor rfl rfl rfl (by decide +kernel) ⟨Nat.le_of_ble_eq_true rfl, Nat.le_of_ble_eq_true rfl⟩) (nv_pV hK hP (va_recv hK.1 hP (ci := 9) (q0 := 0) rfl rfl)) rfl rfl hl.1 rfl (lv_room (Nat.le_of_ble_eq_true rfl)) dX7_knocks_2 ⟨Nat.zero_le _, Nat.zero_le _⟩) ?_
  refine nv_ifb_ne (tgt := 14) hx hb dX7_knocks_5 (by decide) (fun c1 => ?_) (fun c1 => ?_)
  · obtain ⟨dk, h_dk, rfl⟩ := iR_of c1 (by omega)
    have et_dk : tN (nI dk) = dk := tN_nI (by omega)
    obtain ⟨w_a, w_g, w_n, w_s, w_w, w_l, w_o, w_x, w_y, w_1, w_2, w_3, w_4⟩ := hG.door (d := dk) (by omega)
    refine lv_iload_n hx hb dX7_knocks_14 rfl (lv_at hl 2 rfl) ?_
    refine nv_kS (va_runS (As := [.int g]) (rest := []) ⟨hx, hb, hml, hown, hts⟩ (c_X7_isThird l (g)) (va_cwS 1 hts gX7_knocks_X7_isThird rfl rfl rfl (by decide +kernel) ⟨Nat.le_of_ble_eq_true rfl, Nat.le_of_ble_eq_true rfl⟩) (nv_pS hK trivial) rfl rfl hl.1 rfl (lv_room (Nat.le_of_ble_eq_true rfl)) dX7_knocks_15 ⟨Nat.zero_le _, Nat.zero_le _⟩) ?_
    refine nv_ifb_eq (tgt := 29) hx hb dX7_knocks_18 (by decide) (fun c2 => ?_) (fun c2 => ?_)
    · refine lv_aload_n hx hb dX7_knocks_29 rfl (lv_at hl 0 rfl) ?_
      refine lv_iconst (v := nI 2) hx hb dX7_knocks_30 (by decide) ?_
      refine nv_kM (va_runV (As := [.int (nI 2)]) (rest := []) ⟨hx, hb, hml, hown, hts⟩ (c_X7_fails l hD 2) (cwV 1 hts gX7_knocks_X7_fails rfl rfl rfl (by decide +kernel) ⟨Nat.le_of_ble_eq_true rfl, Nat.le_of_ble_eq_true rfl⟩) (nv_pV hK hP (va_recv hK.1 hP (ci := 9) (q0 := 0) rfl rfl)) rfl rfl hl.1 rfl (lv_room (Nat.le_of_ble_eq_true rfl)) dX7_knocks_31 ⟨Nat.zero_le _, Nat.zero_le _⟩) hS (fun H locs hP hS => ?_)
      have hP : va_P D vwCl [(h, .inr (9, [.ref aG, .ref aB, .ref aH, .int (nI ch), .ref aS, .int (nI hs), .ref aI, .int (nI ty), .int ea, .int ra, .int (nI wy), .int wd, .ref aL, .int (nI ln), .int (nI 2), .int (nI sp), .int (nI iw), .ref aT])), (aG, .inl (cI, 128, .inl (gN G))), (aB, .inl (cI, 128, .inl (gN B))), (aH, .inl (cI, 1024, .inl (gN Hi))), (aS, .inl (cI, 128, .inl (gN Sv))), (aI, .inl (cI, 60, .inl (gN In))), (aL, .inl (cC, 40, .inl (gN Le))), (aT, .inl (cI, 360, .inl To))] H := hP
      exact nv_retM hq hx hb hr hlocks (nar_i _) (by unfold vKnock; simp only [et_dk]; rw [if_neg (fun z => z c1), if_pos (Or.inl c2)]; rfl) hS hP (by unfold vKnock; simp only [et_dk]; rw [if_neg (fun z => z c1), if_pos (Or.inl c2)]; rfl) dX7_knocks_34
    · obtain ⟨gk, h_gk, rfl⟩ := iR_of c2 (by decide)
      have et_gk : tN (nI gk) = gk := tN_nI (by omega)
      refine lv_iload hx hb dX7_knocks_21 (lv_at hl 4 rfl) ?_
      refine nv_kS (va_runS (As := [.int c]) (rest := []) ⟨hx, hb, hml, hown, hts⟩ (c_X7_isCase l (c)) (va_cwS 1 hts gX7_knocks_X7_isCase rfl rfl rfl (by decide +kernel) ⟨Nat.le_of_ble_eq_true rfl, Nat.le_of_ble_eq_true rfl⟩) (nv_pS hK trivial) rfl rfl hl.1 rfl (lv_room (Nat.le_of_ble_eq_true rfl)) dX7_knocks_23 ⟨Nat.zero_le _, Nat.zero_le _⟩) ?_
      refine nv_ifb_ne (tgt := 35) hx hb dX7_knocks_26 (by decide) (fun c3 => ?_) (fun c3 => ?_)
      · obtain ⟨ck, h_ck, rfl⟩ := iR_of c3 (by decide)
        have et_ck : tN (nI ck) = ck := tN_nI (by omega)
        refine lv_aload_n hx hb dX7_knocks_35 rfl (lv_at hl 0 rfl) ?_
        refine va_get (D := D) (ci := 9) (v := .ref aG) (C := RX7) (T := TX7) (N := 18) hx hb hts in_X7 hown hK.1 hP 0 rfl rfl 0 (by decide) fl_7 (fun _ h9 => h9) rfl dX7_knocks_36 ?_
        refine lv_bipush (v := nI 80) hx hb dX7_knocks_39 (by decide) ?_
        refine lv_iload_n hx hb dX7_knocks_41 rfl (lv_at hl 1 rfl) ?_
        refine nv_iadd hx hb dX7_knocks_42 ?_
        refine nv_gald (i := 80 + dk) hx hb hK.1 hP 1 0 rfl rfl (by first | omega | (simp only [gEndAt]; omega)) (by decide) dX7_knocks_43 ?_
        have q4 : G (80 + dk) < 2 ^ 20 := hG.lt (k := 80 + dk) (by omega)
        refine lv_iconst (v := nI 1) hx hb dX7_knocks_44 (by decide) ?_
        refine nv_icmp_ne (tgt := 61) hx hb dX7_knocks_45 (by decide) (by omega) (by omega) (fun c5 => ?_) (fun c5 => ?_)
        · refine lv_aload_n hx hb dX7_knocks_61 rfl (lv_at hl 0 rfl) ?_
          refine va_get (D := D) (ci := 9) (v := .ref aG) (C := RX7) (T := TX7) (N := 18) hx hb hts in_X7 hown hK.1 hP 0 rfl rfl 0 (by decide) fl_7 (fun _ h9 => h9) rfl dX7_knocks_62 ?_
          refine lv_bipush (v := nI 72) hx hb dX7_knocks_65 (by decide) ?_
          refine lv_iload_n hx hb dX7_knocks_67 rfl (lv_at hl 1 rfl) ?_
          refine nv_iadd hx hb dX7_knocks_68 ?_
          refine nv_gald (i := 72 + dk) hx hb hK.1 hP 1 0 rfl rfl (by first | omega | (simp only [gEndAt]; omega)) (by decide) dX7_knocks_69 ?_
          have q6 : G (72 + dk) < 2 ^ 20 := hG.lt (k := 72 + dk) (by omega)
          refine lv_iconst (v := nI 1) hx hb dX7_knocks_70 (by decide) ?_
          refine nv_icmp_ne (tgt := 87) hx hb dX7_knocks_71 (by decide) (by omega) (by omega) (fun c7 => ?_) (fun c7 => ?_)
          · refine lv_aload_n hx hb dX7_knocks_87 rfl (lv_at hl 0 rfl) ?_
            refine lv_iload_n hx hb dX7_knocks_88 rfl (lv_at hl 1 rfl) ?_
            refine lv_iload_n hx hb dX7_knocks_89 rfl (lv_at hl 2 rfl) ?_
            refine lv_iload_n hx hb dX7_knocks_90 rfl (lv_at hl 3 rfl) ?_
            refine lv_iload hx hb dX7_knocks_91 (lv_at hl 4 rfl) ?_
            refine nv_kS (va_runV (As := [.int (nI dk), .int (nI gk), .int (nI z), .int (nI ck)]) (rest := []) ⟨hx, hb, hml, hown, hts⟩ (c_X7_agreement l hG dk gk z ck (by omega) (by omega) (by omega) (by omega)) (cwV 4 hts gX7_knocks_X7_agreement rfl rfl rfl (by decide +kernel) ⟨Nat.le_of_ble_eq_true rfl, Nat.le_of_ble_eq_true rfl⟩) (nv_pV hK hP (va_recv hK.1 hP (ci := 9) (q0 := 0) rfl rfl)) rfl rfl hl.1 rfl (lv_room (Nat.le_of_ble_eq_true rfl)) dX7_knocks_93 ⟨Nat.zero_le _, Nat.zero_le _⟩) ?_
            refine lv_istore (lv' := [(5, .int (nI (gAgree G dk gk z ck))), (0, .ref h), (1, .int (nI dk)), (2, .int (nI gk)), (3, .int (nI z)), (4, .int (nI ck))]) hx hb dX7_knocks_96 hl (by decide) rfl (fun ls hl => ?_)
            refine lv_aload_n hx hb dX7_knocks_98 rfl (lv_at hl 1 rfl) ?_
            refine va_get (D := D) (ci := 9) (v := .ref aG) (C := RX7) (T := TX7) (N := 18) hx hb hts in_X7 hown hK.1 hP 0 rfl rfl 0 (by decide) fl_7 (fun _ h9 => h9) rfl dX7_knocks_99 ?_
            refine lv_iconst (v := nI 3) hx hb dX7_knocks_102 (by decide) ?_
            refine lv_dup2_11 hx hb dX7_knocks_103 rfl rfl ?_
            refine nv_gald (i := 3) hx hb hK.1 hP 1 0 rfl rfl (by first | omega | (simp only [gEndAt]; omega)) (by decide) dX7_knocks_104 ?_
            have q8 : G 3 < 2 ^ 20 := hG.lt (k := 3) (by omega)
            refine lv_iconst (v := nI 1) hx hb dX7_knocks_105 (by decide) ?_
            refine nv_iadd hx hb dX7_knocks_106 ?_
            refine nv_gast (i := 3) (v := G 3 + 1) hx hb hK.1 hP (hD _ _ _ _ _ _ _ _) hS 1 0 rfl rfl (by first | omega | (simp only [gEndAt]; omega)) (by decide) dX7_knocks_107 (fun H locs hP hS => ?_)
            have hP : va_P D vwCl [(h, .inr (9, [.ref aG, .ref aB, .ref aH, .int (nI ch), .ref aS, .int (nI hs), .ref aI, .int (nI ty), .int ea, .int ra, .int (nI wy), .int wd, .ref aL, .int (nI ln), .int (nI th), .int (nI sp), .int (nI iw), .ref aT])), (aG, .inl (cI, 128, .inl (gN ((va_up G (3) (G 3 + 1)))))), (aB, .inl (cI, 128, .inl (gN B))), (aH, .inl (cI, 1024, .inl (gN Hi))), (aS, .inl (cI, 128, .inl (gN Sv))), (aI, .inl (cI, 60, .inl (gN In))), (aL, .inl (cC, 40, .inl (gN Le))), (aT, .inl (cI, 360, .inl To))] H := hP
            refine lv_aload_n hx hb dX7_knocks_108 rfl (lv_at hl 1 rfl) ?_
            refine va_get (D := D) (ci := 9) (v := .ref aG) (C := RX7) (T := TX7) (N := 18) hx hb hts in_X7 hown hK.1 hP 0 rfl rfl 0 (by decide) fl_7 (fun _ h9 => h9) rfl dX7_knocks_109 ?_
            refine lv_bipush (v := nI 104) hx hb dX7_knocks_112 (by decide) ?_
            refine lv_iload_n hx hb dX7_knocks_114 rfl (lv_at hl 2 rfl) ?_
            refine nv_iadd hx hb dX7_knocks_115 ?_
            refine lv_dup2_11 hx hb dX7_knocks_116 rfl rfl ?_
            refine nv_gald (i := 104 + dk) hx hb hK.1 hP 1 0 rfl rfl (by first | omega | (simp only [gEndAt]; omega)) (by decide) dX7_knocks_117 ?_
            refine lv_iconst (v := nI 1) hx hb dX7_knocks_118 (by decide) ?_
            refine nv_iadd hx hb dX7_knocks_119 ?_
            refine nv_gast (i := 104 + dk) (v := (va_up G (3) (G 3 + 1)) (104 + dk) + 1) hx hb hK.1 hP (hD _ _ _ _ _ _ _ _) hS 1 0 rfl rfl (by first | omega | (simp only [gEndAt]; omega)) (by decide) dX7_knocks_120 (fun H locs hP hS => ?_)
            have hP : va_P D vwCl [(h, .inr (9, [.ref aG, .ref aB, .ref aH, .int (nI ch), .ref aS, .int (nI hs), .ref aI, .int (nI ty), .int ea, .int ra, .int (nI wy), .int wd, .ref aL, .int (nI ln), .int (nI th), .int (nI sp), .int (nI iw), .ref aT])), (aG, .inl (cI, 128, .inl (gN ((va_up (va_up G (3) (G 3 + 1)) (104 + dk) ((va_up G (3) (G 3 + 1)) (104 + dk) + 1)))))), (aB, .inl (cI, 128, .inl (gN B))), (aH, .inl (cI, 1024, .inl (gN Hi))), (aS, .inl (cI, 128, .inl (gN Sv))), (aI, .inl (cI, 60, .inl (gN In))), (aL, .inl (cC, 40, .inl (gN Le))), (aT, .inl (cI, 360, .inl To))] H := hP
            refine lv_iload hx hb dX7_knocks_121 (lv_at hl 0 rfl) ?_
            refine lv_iconst (v := nI 3) hx hb dX7_knocks_123 (by decide) ?_
            refine nv_icmp_ne (tgt := 160) hx hb dX7_knocks_124 (by decide) (by first | decide | exact gAgree_lt _ _ _ _ _) (by first | decide | exact gAgree_lt _ _ _ _ _) (fun c9 => ?_) (fun c9 => ?_)
            · refine lv_aload_n hx hb dX7_knocks_160 rfl (lv_at hl 1 rfl) ?_
              refine lv_iload_n hx hb dX7_knocks_161 rfl (lv_at hl 2 rfl) ?_
              refine nv_kMv (va_runV (As := [.int (nI dk)]) (rest := []) ⟨hx, hb, hml, hown, hts⟩ (c_X7_isWrongAt l hD dk (by omega) (gHeard_lt hG (by omega))) (cwV 1 hts gX7_knocks_X7_isWrongAt rfl rfl rfl (by decide +kernel) ⟨Nat.le_of_ble_eq_true rfl, Nat.le_of_ble_eq_true rfl⟩) (nv_pV hK hP (va_recv hK.1 hP (ci := 9) (q0 := 0) rfl rfl)) rfl rfl hl.1 rfl (lv_room (Nat.le_of_ble_eq_true rfl)) dX7_knocks_162 ⟨Nat.zero_le _, Nat.zero_le _⟩) hS (fun H locs hP hS => ?_)
              have hP : va_P D vwCl [(h, .inr (9, [.ref aG, .ref aB, .ref aH, .int (nI ch), .ref aS, .int (nI hs), .ref aI, .int (nI ty), .int ea, .int ra, .int (nI wy), .int wd, .ref aL, .int (nI ln), .int (nI th), .int (nI sp), .int (nI iw), .ref aT])), (aG, .inl (cI, 128, .inl (gN ((gWrong (va_up (va_up G (3) (G 3 + 1)) (104 + dk) ((va_up G (3) (G 3 + 1)) (104 + dk) + 1)) dk))))), (aB, .inl (cI, 128, .inl (gN B))), (aH, .inl (cI, 1024, .inl (gN Hi))), (aS, .inl (cI, 128, .inl (gN Sv))), (aI, .inl (cI, 60, .inl (gN In))), (aL, .inl (cC, 40, .inl (gN Le))), (aT, .inl (cI, 360, .inl To))] H := hP
              refine lv_aload_n hx hb dX7_knocks_165 rfl (lv_at hl 1 rfl) ?_
              refine lv_iload hx hb dX7_knocks_166 (lv_at hl 0 rfl) ?_
              refine nv_kM (va_runV (As := [.int (nI (gAgree G dk gk z ck))]) (rest := []) ⟨hx, hb, hml, hown, hts⟩ (c_X7_done l hD (nI (gAgree G dk gk z ck))) (cwV 1 hts gX7_knocks_X7_done rfl rfl rfl (by decide +kernel) ⟨Nat.le_of_ble_eq_true rfl, Nat.le_of_ble_eq_true rfl⟩) (nv_pV hK hP (va_recv hK.1 hP (ci := 9) (q0 := 0) rfl rfl)) rfl rfl hl.1 rfl (lv_room (Nat.le_of_ble_eq_true rfl)) dX7_knocks_168 ⟨Nat.zero_le _, Nat.zero_le _⟩) hS (fun H locs hP hS => ?_)
              have hP : va_P D vwCl [(h, .inr (9, [.ref aG, .ref aB, .ref aH, .int (nI ch), .ref aS, .int (nI hs), .ref aI, .int (nI ty), .int ea, .int ra, .int (nI wy), .int wd, .ref aL, .int (nI ln), .int (nI 0), .int (nI sp), .int (nI iw), .ref aT])), (aG, .inl (cI, 128, .inl (gN ((gWrong (va_up (va_up G (3) (G 3 + 1)) (104 + dk) ((va_up G (3) (G 3 + 1)) (104 + dk) + 1)) dk))))), (aB, .inl (cI, 128, .inl (gN B))), (aH, .inl (cI, 1024, .inl (gN Hi))), (aS, .inl (cI, 128, .inl (gN Sv))), (aI, .inl (cI, 60, .inl (gN In))), (aL, .inl (cC, 40, .inl (gN Le))), (aT, .inl (cI, 360, .inl To))] H := hP
              exact nv_retM hq hx hb hr hlocks (nar_i _) (by unfold vKnock; simp only [et_dk, et_gk, et_ck]; rw [if_neg (fun z => z c1), if_neg (fun q => q.elim (fun z => z c2) (fun z => z c3)), if_neg c5, if_neg c7, if_neg c9]; rfl) hS hP (by unfold vKnock; simp only [et_dk, et_gk, et_ck]; rw [if_neg (fun z => z c1), if_neg (fun q => q.elim (fun z => z c2) (fun z => z c3)), if_neg c5, if_neg c7, if_neg c9]; rfl) dX7_knocks_171
            · refine lv_aload_n hx hb dX7_knocks_127 rfl (lv_at hl 1 rfl) ?_
              refine va_get (D := D) (ci := 9) (v := .ref aG) (C := RX7) (T := TX7) (N := 18) hx hb hts in_X7 hown hK.1 hP 0 rfl rfl 0 (by decide) fl_7 (fun _ h9 => h9) rfl dX7_knocks_128 ?_
              refine lv_iconst (v := nI 4) hx hb dX7_knocks_131 (by decide) ?_
              refine lv_dup2_11 hx hb dX7_knocks_132 rfl rfl ?_
              refine nv_gald (i := 4) hx hb hK.1 hP 1 0 rfl rfl (by first | omega | (simp only [gEndAt]; omega)) (by decide) dX7_knocks_133 ?_
              refine lv_iconst (v := nI 1) hx hb dX7_knocks_134 (by decide) ?_
              refine nv_iadd hx hb dX7_knocks_135 ?_
              refine nv_gast (i := 4) (v := (va_up (va_up G (3) (G 3 + 1)) (104 + dk) ((va_up G (3) (G 3 + 1)) (104 + dk) + 1)) 4 + 1) hx hb hK.1 hP (hD _ _ _ _ _ _ _ _) hS 1 0 rfl rfl (by first | omega | (simp only [gEndAt]; omega)) (by decide) dX7_knocks_136 (fun H locs hP hS => ?_)
              have hP : va_P D vwCl [(h, .inr (9, [.ref aG, .ref aB, .ref aH, .int (nI ch), .ref aS, .int (nI hs), .ref aI, .int (nI ty), .int ea, .int ra, .int (nI wy), .int wd, .ref aL, .int (nI ln), .int (nI th), .int (nI sp), .int (nI iw), .ref aT])), (aG, .inl (cI, 128, .inl (gN ((va_up (va_up (va_up G (3) (G 3 + 1)) (104 + dk) ((va_up G (3) (G 3 + 1)) (104 + dk) + 1)) (4) ((va_up (va_up G (3) (G 3 + 1)) (104 + dk) ((va_up G (3) (G 3 + 1)) (104 + dk) + 1)) 4 + 1)))))), (aB, .inl (cI, 128, .inl (gN B))), (aH, .inl (cI, 1024, .inl (gN Hi))), (aS, .inl (cI, 128, .inl (gN Sv))), (aI, .inl (cI, 60, .inl (gN In))), (aL, .inl (cC, 40, .inl (gN Le))), (aT, .inl (cI, 360, .inl To))] H := hP
              refine lv_aload_n hx hb dX7_knocks_137 rfl (lv_at hl 1 rfl) ?_
              refine va_get (D := D) (ci := 9) (v := .ref aG) (C := RX7) (T := TX7) (N := 18) hx hb hts in_X7 hown hK.1 hP 0 rfl rfl 0 (by decide) fl_7 (fun _ h9 => h9) rfl dX7_knocks_138 ?_
              refine lv_bipush (v := nI 80) hx hb dX7_knocks_141 (by decide) ?_
              refine lv_iload_n hx hb dX7_knocks_143 rfl (lv_at hl 2 rfl) ?_
              refine nv_iadd hx hb dX7_knocks_144 ?_
              refine lv_iconst (v := nI 1) hx hb dX7_knocks_145 (by decide) ?_
              refine nv_gast (i := 80 + dk) (v := 1) hx hb hK.1 hP (hD _ _ _ _ _ _ _ _) hS 1 0 rfl rfl (by first | omega | (simp only [gEndAt]; omega)) (by decide) dX7_knocks_146 (fun H locs hP hS => ?_)
              have hP : va_P D vwCl [(h, .inr (9, [.ref aG, .ref aB, .ref aH, .int (nI ch), .ref aS, .int (nI hs), .ref aI, .int (nI ty), .int ea, .int ra, .int (nI wy), .int wd, .ref aL, .int (nI ln), .int (nI th), .int (nI sp), .int (nI iw), .ref aT])), (aG, .inl (cI, 128, .inl (gN ((va_up (va_up (va_up (va_up G (3) (G 3 + 1)) (104 + dk) ((va_up G (3) (G 3 + 1)) (104 + dk) + 1)) (4) ((va_up (va_up G (3) (G 3 + 1)) (104 + dk) ((va_up G (3) (G 3 + 1)) (104 + dk) + 1)) 4 + 1)) (80 + dk) (1)))))), (aB, .inl (cI, 128, .inl (gN B))), (aH, .inl (cI, 1024, .inl (gN Hi))), (aS, .inl (cI, 128, .inl (gN Sv))), (aI, .inl (cI, 60, .inl (gN In))), (aL, .inl (cC, 40, .inl (gN Le))), (aT, .inl (cI, 360, .inl To))] H := hP
              refine lv_aload_n hx hb dX7_knocks_147 rfl (lv_at hl 1 rfl) ?_
              refine va_get (D := D) (ci := 9) (v := .ref aG) (C := RX7) (T := TX7) (N := 18) hx hb hts in_X7 hown hK.1 hP 0 rfl rfl 0 (by decide) fl_7 (fun _ h9 => h9) rfl dX7_knocks_148 ?_
              refine lv_bipush (v := nI 64) hx hb dX7_knocks_151 (by decide) ?_
              refine lv_iload_n hx hb dX7_knocks_153 rfl (lv_at hl 2 rfl) ?_
              refine nv_iadd hx hb dX7_knocks_154 ?_
              refine lv_iconst (v := nI 0) hx hb dX7_knocks_155 (by decide) ?_
              refine nv_gast (i := 64 + dk) (v := 0) hx hb hK.1 hP (hD _ _ _ _ _ _ _ _) hS 1 0 rfl rfl (by first | omega | (simp only [gEndAt]; omega)) (by decide) dX7_knocks_156 (fun H locs hP hS => ?_)
              have hP : va_P D vwCl [(h, .inr (9, [.ref aG, .ref aB, .ref aH, .int (nI ch), .ref aS, .int (nI hs), .ref aI, .int (nI ty), .int ea, .int ra, .int (nI wy), .int wd, .ref aL, .int (nI ln), .int (nI th), .int (nI sp), .int (nI iw), .ref aT])), (aG, .inl (cI, 128, .inl (gN ((va_up (va_up (va_up (va_up (va_up G (3) (G 3 + 1)) (104 + dk) ((va_up G (3) (G 3 + 1)) (104 + dk) + 1)) (4) ((va_up (va_up G (3) (G 3 + 1)) (104 + dk) ((va_up G (3) (G 3 + 1)) (104 + dk) + 1)) 4 + 1)) (80 + dk) (1)) (64 + dk) (0)))))), (aB, .inl (cI, 128, .inl (gN B))), (aH, .inl (cI, 1024, .inl (gN Hi))), (aS, .inl (cI, 128, .inl (gN Sv))), (aI, .inl (cI, 60, .inl (gN In))), (aL, .inl (cC, 40, .inl (gN Le))), (aT, .inl (cI, 360, .inl To))] H := hP
              refine lv_goto (tgt := 165) hx hb dX7_knocks_157 (by decide) ?_
              refine lv_aload_n hx hb dX7_knocks_165 rfl (lv_at hl 1 rfl) ?_
              refine lv_iload hx hb dX7_knocks_166 (lv_at hl 0 rfl) ?_
              refine nv_kM (va_runV (As := [.int (nI (gAgree G dk gk z ck))]) (rest := []) ⟨hx, hb, hml, hown, hts⟩ (c_X7_done l hD (nI (gAgree G dk gk z ck))) (cwV 1 hts gX7_knocks_X7_done rfl rfl rfl (by decide +kernel) ⟨Nat.le_of_ble_eq_true rfl, Nat.le_of_ble_eq_true rfl⟩) (nv_pV hK hP (va_recv hK.1 hP (ci := 9) (q0 := 0) rfl rfl)) rfl rfl hl.1 rfl (lv_room (Nat.le_of_ble_eq_true rfl)) dX7_knocks_168 ⟨Nat.zero_le _, Nat.zero_le _⟩) hS (fun H locs hP hS => ?_)
              have hP : va_P D vwCl [(h, .inr (9, [.ref aG, .ref aB, .ref aH, .int (nI ch), .ref aS, .int (nI hs), .ref aI, .int (nI ty), .int ea, .int ra, .int (nI wy), .int wd, .ref aL, .int (nI ln), .int (nI 0), .int (nI sp), .int (nI iw), .ref aT])), (aG, .inl (cI, 128, .inl (gN ((va_up (va_up (va_up (va_up (va_up G (3) (G 3 + 1)) (104 + dk) ((va_up G (3) (G 3 + 1)) (104 + dk) + 1)) (4) ((va_up (va_up G (3) (G 3 + 1)) (104 + dk) ((va_up G (3) (G 3 + 1)) (104 + dk) + 1)) 4 + 1)) (80 + dk) (1)) (64 + dk) (0)))))), (aB, .inl (cI, 128, .inl (gN B))), (aH, .inl (cI, 1024, .inl (gN Hi))), (aS, .inl (cI, 128, .inl (gN Sv))), (aI, .inl (cI, 60, .inl (gN In))), (aL, .inl (cC, 40, .inl (gN Le))), (aT, .inl (cI, 360, .inl To))] H := hP
              exact nv_retM hq hx hb hr hlocks (nar_i _) (by unfold vKnock; simp only [et_dk, et_gk, et_ck]; rw [if_neg (fun z => z c1), if_neg (fun q => q.elim (fun z => z c2) (fun z => z c3)), if_neg c5, if_neg c7, if_pos c9]; rfl) hS hP (by unfold vKnock; simp only [et_dk, et_gk, et_ck]; rw [if_neg (fun z => z c1), if_neg (fun q => q.elim (fun z => z c2) (fun z => z c3)), if_neg c5, if_neg c7, if_pos c9]; rfl) dX7_knocks_171
          · refine lv_aload_n hx hb dX7_knocks_74 rfl (lv_at hl 0 rfl) ?_
            refine lv_iconst (v := nI 3) hx hb dX7_knocks_75 (by decide) ?_
            refine lv_aload_n hx hb dX7_knocks_76 rfl (lv_at hl 0 rfl) ?_
            refine lv_bipush (v := nI 72) hx hb dX7_knocks_77 (by decide) ?_
            refine nv_kS (va_runV (As := [.int (nI 72)]) (rest := [.int (nI 3), .ref h]) ⟨hx, hb, hml, hown, hts⟩ (c_X7_many l 72 (by omega) (by omega)) (cwV 1 hts gX7_knocks_X7_many rfl rfl rfl (by decide +kernel) ⟨Nat.le_of_ble_eq_true rfl, Nat.le_of_ble_eq_true rfl⟩) (nv_pV hK hP (va_recv hK.1 hP (ci := 9) (q0 := 0) rfl rfl)) rfl rfl hl.1 rfl (lv_room (Nat.le_of_ble_eq_true rfl)) dX7_knocks_79 ⟨Nat.zero_le _, Nat.zero_le _⟩) ?_
            refine lv_iconst (v := nI 3) hx hb dX7_knocks_82 (by decide) ?_
            refine nv_kM (va_runV (As := [.int (nI 3), .int (nI (gMany G 72)), .int (nI 3)]) (rest := []) ⟨hx, hb, hml, hown, hts⟩ (c_X7_refused l hD 3 (nI (gMany G 72)) 3) (cwV 3 hts gX7_knocks_X7_refused rfl rfl rfl (by decide +kernel) ⟨Nat.le_of_ble_eq_true rfl, Nat.le_of_ble_eq_true rfl⟩) (nv_pV hK hP (va_recv hK.1 hP (ci := 9) (q0 := 0) rfl rfl)) rfl rfl hl.1 rfl (lv_room (Nat.le_of_ble_eq_true rfl)) dX7_knocks_83 ⟨Nat.zero_le _, Nat.zero_le _⟩) hS (fun H locs hP hS => ?_)
            have hP : va_P D vwCl [(h, .inr (9, [.ref aG, .ref aB, .ref aH, .int (nI ch), .ref aS, .int (nI hs), .ref aI, .int (nI ty), .int ea, .int ra, .int (nI 3), .int (nI (gMany G 72)), .ref aL, .int (nI ln), .int (nI 3), .int (nI sp), .int (nI iw), .ref aT])), (aG, .inl (cI, 128, .inl (gN G))), (aB, .inl (cI, 128, .inl (gN B))), (aH, .inl (cI, 1024, .inl (gN Hi))), (aS, .inl (cI, 128, .inl (gN Sv))), (aI, .inl (cI, 60, .inl (gN In))), (aL, .inl (cC, 40, .inl (gN Le))), (aT, .inl (cI, 360, .inl To))] H := hP
            exact nv_retM hq hx hb hr hlocks (nar_i _) (by unfold vKnock; simp only [et_dk, et_gk, et_ck]; rw [if_neg (fun z => z c1), if_neg (fun q => q.elim (fun z => z c2) (fun z => z c3)), if_neg c5, if_pos c7]; rfl) hS hP (by unfold vKnock; simp only [et_dk, et_gk, et_ck]; rw [if_neg (fun z => z c1), if_neg (fun q => q.elim (fun z => z c2) (fun z => z c3)), if_neg c5, if_pos c7]; rfl) dX7_knocks_86
        · refine lv_aload_n hx hb dX7_knocks_48 rfl (lv_at hl 0 rfl) ?_
          refine lv_iconst (v := nI 4) hx hb dX7_knocks_49 (by decide) ?_
          refine lv_aload_n hx hb dX7_knocks_50 rfl (lv_at hl 0 rfl) ?_
          refine lv_bipush (v := nI 80) hx hb dX7_knocks_51 (by decide) ?_
          refine nv_kS (va_runV (As := [.int (nI 80)]) (rest := [.int (nI 4), .ref h]) ⟨hx, hb, hml, hown, hts⟩ (c_X7_many l 80 (by omega) (by omega)) (cwV 1 hts gX7_knocks_X7_many rfl rfl rfl (by decide +kernel) ⟨Nat.le_of_ble_eq_true rfl, Nat.le_of_ble_eq_true rfl⟩) (nv_pV hK hP (va_recv hK.1 hP (ci := 9) (q0 := 0) rfl rfl)) rfl rfl hl.1 rfl (lv_room (Nat.le_of_ble_eq_true rfl)) dX7_knocks_53 ⟨Nat.zero_le _, Nat.zero_le _⟩) ?_
          refine lv_iconst (v := nI 3) hx hb dX7_knocks_56 (by decide) ?_
          refine nv_kM (va_runV (As := [.int (nI 4), .int (nI (gMany G 80)), .int (nI 3)]) (rest := []) ⟨hx, hb, hml, hown, hts⟩ (c_X7_refused l hD 4 (nI (gMany G 80)) 3) (cwV 3 hts gX7_knocks_X7_refused rfl rfl rfl (by decide +kernel) ⟨Nat.le_of_ble_eq_true rfl, Nat.le_of_ble_eq_true rfl⟩) (nv_pV hK hP (va_recv hK.1 hP (ci := 9) (q0 := 0) rfl rfl)) rfl rfl hl.1 rfl (lv_room (Nat.le_of_ble_eq_true rfl)) dX7_knocks_57 ⟨Nat.zero_le _, Nat.zero_le _⟩) hS (fun H locs hP hS => ?_)
          have hP : va_P D vwCl [(h, .inr (9, [.ref aG, .ref aB, .ref aH, .int (nI ch), .ref aS, .int (nI hs), .ref aI, .int (nI ty), .int ea, .int ra, .int (nI 4), .int (nI (gMany G 80)), .ref aL, .int (nI ln), .int (nI 3), .int (nI sp), .int (nI iw), .ref aT])), (aG, .inl (cI, 128, .inl (gN G))), (aB, .inl (cI, 128, .inl (gN B))), (aH, .inl (cI, 1024, .inl (gN Hi))), (aS, .inl (cI, 128, .inl (gN Sv))), (aI, .inl (cI, 60, .inl (gN In))), (aL, .inl (cC, 40, .inl (gN Le))), (aT, .inl (cI, 360, .inl To))] H := hP
          exact nv_retM hq hx hb hr hlocks (nar_i _) (by unfold vKnock; simp only [et_dk, et_gk, et_ck]; rw [if_neg (fun z => z c1), if_neg (fun q => q.elim (fun z => z c2) (fun z => z c3)), if_pos c5]; rfl) hS hP (by unfold vKnock; simp only [et_dk, et_gk, et_ck]; rw [if_neg (fun z => z c1), if_neg (fun q => q.elim (fun z => z c2) (fun z => z c3)), if_pos c5]; rfl) dX7_knocks_60
      · refine lv_aload_n hx hb dX7_knocks_29 rfl (lv_at hl 0 rfl) ?_
        refine lv_iconst (v := nI 2) hx hb dX7_knocks_30 (by decide) ?_
        refine nv_kM (va_runV (As := [.int (nI 2)]) (rest := []) ⟨hx, hb, hml, hown, hts⟩ (c_X7_fails l hD 2) (cwV 1 hts gX7_knocks_X7_fails rfl rfl rfl (by decide +kernel) ⟨Nat.le_of_ble_eq_true rfl, Nat.le_of_ble_eq_true rfl⟩) (nv_pV hK hP (va_recv hK.1 hP (ci := 9) (q0 := 0) rfl rfl)) rfl rfl hl.1 rfl (lv_room (Nat.le_of_ble_eq_true rfl)) dX7_knocks_31 ⟨Nat.zero_le _, Nat.zero_le _⟩) hS (fun H locs hP hS => ?_)
        have hP : va_P D vwCl [(h, .inr (9, [.ref aG, .ref aB, .ref aH, .int (nI ch), .ref aS, .int (nI hs), .ref aI, .int (nI ty), .int ea, .int ra, .int (nI wy), .int wd, .ref aL, .int (nI ln), .int (nI 2), .int (nI sp), .int (nI iw), .ref aT])), (aG, .inl (cI, 128, .inl (gN G))), (aB, .inl (cI, 128, .inl (gN B))), (aH, .inl (cI, 1024, .inl (gN Hi))), (aS, .inl (cI, 128, .inl (gN Sv))), (aI, .inl (cI, 60, .inl (gN In))), (aL, .inl (cC, 40, .inl (gN Le))), (aT, .inl (cI, 360, .inl To))] H := hP
        exact nv_retM hq hx hb hr hlocks (nar_i _) (by unfold vKnock; simp only [et_dk, et_gk]; rw [if_neg (fun z => z c1), if_pos (Or.inr c3)]; rfl) hS hP (by unfold vKnock; simp only [et_dk, et_gk]; rw [if_neg (fun z => z c1), if_pos (Or.inr c3)]; rfl) dX7_knocks_34
  · refine lv_aload_n hx hb dX7_knocks_8 rfl (lv_at hl 0 rfl) ?_
    refine lv_iconst (v := nI 1) hx hb dX7_knocks_9 (by decide) ?_
    refine nv_kM (va_runV (As := [.int (nI 1)]) (rest := []) ⟨hx, hb, hml, hown, hts⟩ (c_X7_fails l hD 1) (cwV 1 hts gX7_knocks_X7_fails rfl rfl rfl (by decide +kernel) ⟨Nat.le_of_ble_eq_true rfl, Nat.le_of_ble_eq_true rfl⟩) (nv_pV hK hP (va_recv hK.1 hP (ci := 9) (q0 := 0) rfl rfl)) rfl rfl hl.1 rfl (lv_room (Nat.le_of_ble_eq_true rfl)) dX7_knocks_10 ⟨Nat.zero_le _, Nat.zero_le _⟩) hS (fun H locs hP hS => ?_)
    have hP : va_P D vwCl [(h, .inr (9, [.ref aG, .ref aB, .ref aH, .int (nI ch), .ref aS, .int (nI hs), .ref aI, .int (nI ty), .int ea, .int ra, .int (nI wy), .int wd, .ref aL, .int (nI ln), .int (nI 1), .int (nI sp), .int (nI iw), .ref aT])), (aG, .inl (cI, 128, .inl (gN G))), (aB, .inl (cI, 128, .inl (gN B))), (aH, .inl (cI, 1024, .inl (gN Hi))), (aS, .inl (cI, 128, .inl (gN Sv))), (aI, .inl (cI, 60, .inl (gN In))), (aL, .inl (cC, 40, .inl (gN Le))), (aT, .inl (cI, 360, .inl To))] H := hP
    exact nv_retM hq hx hb hr hlocks (nar_i _) (by unfold vKnock; rw [if_pos c1]; rfl) hS hP (by unfold vKnock; rw [if_pos c1]; rfl) dX7_knocks_13

set_option maxHeartbeats 1000000 in
set_option maxRecDepth 100000 in
theorem c_X7_frees (l : Launch) {D : va_G} {cI cC : ClassId} {h aG aB aH aS aI aL aT : Nat} {G B Hi Sv In Le : Nat → Nat} {To : Nat → Int32} {ch hs ty wy ln th sp iw : Nat} {ea ra wd : Int32} {A : Nat → Prop} (hD : ∀ (G B Hi Sv In Le : Nat → Nat) (To : Nat → Int32) (fs : List Value), va_D A [(h, .inr (9, fs)), (aG, .inl (cI, 128, .inl (gN G))), (aB, .inl (cI, 128, .inl (gN B))), (aH, .inl (cI, 1024, .inl (gN Hi))), (aS, .inl (cI, 128, .inl (gN Sv))), (aI, .inl (cI, 60, .inl (gN In))), (aL, .inl (cC, 40, .inl (gN Le))), (aT, .inl (cI, 360, .inl To))]) {b : Nat} (hG : gWf b G) (k d : Int32) : Met l yX7_frees wsX7_frees ({ frames := 2, cells := 0, slots := 0, locals := 44 }) (va_Pc [.ref h, .int k, .int d] (sPre D [(cI, .int), (cC, .char)] [] (fun H => va_P D vwCl [(h, .inr (9, [.ref aG, .ref aB, .ref aH, .int (nI ch), .ref aS, .int (nI hs), .ref aI, .int (nI ty), .int ea, .int ra, .int (nI wy), .int wd, .ref aL, .int (nI ln), .int (nI th), .int (nI sp), .int (nI iw), .ref aT])), (aG, .inl (cI, 128, .inl (gN G))), (aB, .inl (cI, 128, .inl (gN B))), (aH, .inl (cI, 1024, .inl (gN Hi))), (aS, .inl (cI, 128, .inl (gN Sv))), (aI, .inl (cI, 60, .inl (gN In))), (aL, .inl (cC, 40, .inl (gN Le))), (aT, .inl (cI, 360, .inl To))] H))) (mQ D ((vFree G k d).2.2.2.1) [(h, .inr (9, [.ref aG, .ref aB, .ref aH, .int (nI ch), .ref aS, .int (nI hs), .ref aI, .int (nI ty), .int ea, .int ra, .int (nI (vWy (vFree G k d) wy)), .int (vWd (vFree G k d) wd), .ref aL, .int (nI ln), .int (nI ((vFree G k d).1)), .int (nI sp), .int (nI iw), .ref aT])), (aG, .inl (cI, 128, .inl (gN ((vFree G k d).2.2.2.2)))), (aB, .inl (cI, 128, .inl (gN B))), (aH, .inl (cI, 1024, .inl (gN Hi))), (aS, .inl (cI, 128, .inl (gN Sv))), (aI, .inl (cI, 60, .inl (gN In))), (aL, .inl (cC, 40, .inl (gN Le))), (aT, .inl (cI, 360, .inl To))] A) 0 0 A := by
  refine nv_met (cc := cX7_frees) (maxL := 4) (ret := (some .int)) (by decide) rfl (Nat.le_of_ble_eq_true rfl) ?_
  intro p0 e0 s m0 args below meth c0 Q hq hargs hnA hpre ls hl
  obtain ⟨hx, hb, hr, hts, hown, hlocks, hml⟩ := hnA
  obtain ⟨hP, hK⟩ := hpre
  have hown : s.vm.findClass RX7 = some m0.cls := hown
  have hP : va_P D vwCl [(h, .inr (9, [.ref aG, .ref aB, .ref aH, .int (nI ch), .ref aS, .int (nI hs), .ref aI, .int (nI ty), .int ea, .int ra, .int (nI wy), .int wd, .ref aL, .int (nI ln), .int (nI th), .int (nI sp), .int (nI iw), .ref aT])), (aG, .inl (cI, 128, .inl (gN G))), (aB, .inl (cI, 128, .inl (gN B))), (aH, .inl (cI, 1024, .inl (gN Hi))), (aS, .inl (cI, 128, .inl (gN Sv))), (aI, .inl (cI, 60, .inl (gN In))), (aL, .inl (cC, 40, .inl (gN Le))), (aT, .inl (cI, 360, .inl To))] s.heap := hP
  have hl : lv_has ls 4 [(0, .ref h), (1, .int k), (2, .int d)] := hl
  have hS : va_S A s.heap s.heap [] := va_S.rf
  have in_X7 : ∀ w ∈ wsX70, w ∈ wsX7_frees := by decide +kernel
  have fl_7 := hts (.fieldLink RX7 7 "DoorDialectModel" "g" "[I") (by decide +kernel)
  obtain ⟨g_b, g_k, g_0, g_1, g_2, g_e, g_d, g_t, g_y, g_s, g_h⟩ := id hG
  refine lv_aload_n hx hb dX7_frees_0 rfl (lv_at hl 0 rfl) ?_
  refine lv_iload_n hx hb dX7_frees_1 rfl (lv_at hl 1 rfl) ?_
  refine nv_kS (va_runV (As := [.int k]) (rest := []) ⟨hx, hb, hml, hown, hts⟩ (c_X7_isKey l (k) (by omega)) (cwV 1 hts gX7_frees_X7_isKey rfl rfl rfl (by decide +kernel) ⟨Nat.le_of_ble_eq_true rfl, Nat.le_of_ble_eq_true rfl⟩) (nv_pV hK hP (va_recv hK.1 hP (ci := 9) (q0 := 0) rfl rfl)) rfl rfl hl.1 rfl (lv_room (Nat.le_of_ble_eq_true rfl)) dX7_frees_2 ⟨Nat.zero_le _, Nat.zero_le _⟩) ?_
  refine nv_ifb_eq (tgt := 16) hx hb dX7_frees_5 (by decide) (fun c1 => ?_) (fun c1 => ?_)
  · refine lv_aload_n hx hb dX7_frees_16 rfl (lv_at hl 0 rfl) ?_
    refine lv_iconst (v := nI 1) hx hb dX7_frees_17 (by decide) ?_
    refine nv_kM (va_runV (As := [.int (nI 1)]) (rest := []) ⟨hx, hb, hml, hown, hts⟩ (c_X7_fails l hD 1) (cwV 1 hts gX7_frees_X7_fails rfl rfl rfl (by decide +kernel) ⟨Nat.le_of_ble_eq_true rfl, Nat.le_of_ble_eq_true rfl⟩) (nv_pV hK hP (va_recv hK.1 hP (ci := 9) (q0 := 0) rfl rfl)) rfl rfl hl.1 rfl (lv_room (Nat.le_of_ble_eq_true rfl)) dX7_frees_18 ⟨Nat.zero_le _, Nat.zero_le _⟩) hS (fun H locs hP hS => ?_)
    have hP : va_P D vwCl [(h, .inr (9, [.ref aG, .ref aB, .ref aH, .int (nI ch), .ref aS, .int (nI hs), .ref aI, .int (nI ty), .int ea, .int ra, .int (nI wy), .int wd, .ref aL, .int (nI ln), .int (nI 1), .int (nI sp), .int (nI iw), .ref aT])), (aG, .inl (cI, 128, .inl (gN G))), (aB, .inl (cI, 128, .inl (gN B))), (aH, .inl (cI, 1024, .inl (gN Hi))), (aS, .inl (cI, 128, .inl (gN Sv))), (aI, .inl (cI, 60, .inl (gN In))), (aL, .inl (cC, 40, .inl (gN Le))), (aT, .inl (cI, 360, .inl To))] H := hP
    exact nv_retM hq hx hb hr hlocks (nar_i _) (by unfold vFree; rw [if_pos (Or.inl c1)]; rfl) hS hP (by unfold vFree; rw [if_pos (Or.inl c1)]; rfl) dX7_frees_21
  · obtain ⟨kk, h_kk, rfl⟩ := iR_of c1 (by omega)
    have et_kk : tN (nI kk) = kk := tN_nI (by omega)
    refine lv_aload_n hx hb dX7_frees_8 rfl (lv_at hl 0 rfl) ?_
    refine lv_iload_n hx hb dX7_frees_9 rfl (lv_at hl 2 rfl) ?_
    refine nv_kS (va_runV (As := [.int d]) (rest := []) ⟨hx, hb, hml, hown, hts⟩ (c_X7_isDoor l (d) (by omega)) (cwV 1 hts gX7_frees_X7_isDoor rfl rfl rfl (by decide +kernel) ⟨Nat.le_of_ble_eq_true rfl, Nat.le_of_ble_eq_true rfl⟩) (nv_pV hK hP (va_recv hK.1 hP (ci := 9) (q0 := 0) rfl rfl)) rfl rfl hl.1 rfl (lv_room (Nat.le_of_ble_eq_true rfl)) dX7_frees_10 ⟨Nat.zero_le _, Nat.zero_le _⟩) ?_
    refine nv_ifb_ne (tgt := 22) hx hb dX7_frees_13 (by decide) (fun c2 => ?_) (fun c2 => ?_)
    · obtain ⟨dk, h_dk, rfl⟩ := iR_of c2 (by omega)
      have et_dk : tN (nI dk) = dk := tN_nI (by omega)
      refine lv_aload_n hx hb dX7_frees_22 rfl (lv_at hl 0 rfl) ?_
      refine va_get (D := D) (ci := 9) (v := .ref aG) (C := RX7) (T := TX7) (N := 18) hx hb hts in_X7 hown hK.1 hP 0 rfl rfl 0 (by decide) fl_7 (fun _ h9 => h9) rfl dX7_frees_23 ?_
      refine lv_bipush (v := nI 72) hx hb dX7_frees_26 (by decide) ?_
      refine lv_iload_n hx hb dX7_frees_28 rfl (lv_at hl 2 rfl) ?_
      refine nv_iadd hx hb dX7_frees_29 ?_
      refine nv_gald (i := 72 + dk) hx hb hK.1 hP 1 0 rfl rfl (by first | omega | (simp only [gEndAt]; omega)) (by decide) dX7_frees_30 ?_
      have q3 : G (72 + dk) < 2 ^ 20 := hG.lt (k := 72 + dk) (by omega)
      refine nv_if_ne (tgt := 51) hx hb dX7_frees_31 (by decide) (by omega) (fun c4 => ?_) (fun c4 => ?_)
      · obtain ⟨w_a, w_g, w_n, w_s, w_w, w_l, w_o, w_x, w_y, w_1, w_2, w_3, w_4⟩ := hG.door (d := dk) (by omega)
        refine lv_aload_n hx hb dX7_frees_51 rfl (lv_at hl 0 rfl) ?_
        refine lv_iload_n hx hb dX7_frees_52 rfl (lv_at hl 1 rfl) ?_
        refine lv_aload_n hx hb dX7_frees_53 rfl (lv_at hl 0 rfl) ?_
        refine va_get (D := D) (ci := 9) (v := .ref aG) (C := RX7) (T := TX7) (N := 18) hx hb hts in_X7 hown hK.1 hP 0 rfl rfl 0 (by decide) fl_7 (fun _ h9 => h9) rfl dX7_frees_54 ?_
        refine lv_bipush (v := nI 32) hx hb dX7_frees_57 (by decide) ?_
        refine lv_iload_n hx hb dX7_frees_59 rfl (lv_at hl 2 rfl) ?_
        refine nv_iadd hx hb dX7_frees_60 ?_
        refine nv_gald (i := 32 + dk) hx hb hK.1 hP 1 0 rfl rfl (by first | omega | (simp only [gEndAt]; omega)) (by decide) dX7_frees_61 ?_
        have q5 : G (32 + dk) < 2 ^ 20 := hG.lt (k := 32 + dk) (by omega)
        refine lv_aload_n hx hb dX7_frees_62 rfl (lv_at hl 0 rfl) ?_
        refine va_get (D := D) (ci := 9) (v := .ref aG) (C := RX7) (T := TX7) (N := 18) hx hb hts in_X7 hown hK.1 hP 0 rfl rfl 0 (by decide) fl_7 (fun _ h9 => h9) rfl dX7_frees_63 ?_
        refine lv_bipush (v := nI 40) hx hb dX7_frees_66 (by decide) ?_
        refine lv_iload_n hx hb dX7_frees_68 rfl (lv_at hl 2 rfl) ?_
        refine nv_iadd hx hb dX7_frees_69 ?_
        refine nv_gald (i := 40 + dk) hx hb hK.1 hP 1 0 rfl rfl (by first | omega | (simp only [gEndAt]; omega)) (by decide) dX7_frees_70 ?_
        have q6 : G (40 + dk) < 2 ^ 20 := hG.lt (k := 40 + dk) (by omega)
        refine nv_kS (va_runV (As := [.int (nI kk), .int (nI (G (32 + dk))), .int (nI (G (40 + dk)))]) (rest := []) ⟨hx, hb, hml, hown, hts⟩ (c_X7_fits l hG kk (G (32 + dk)) (G (40 + dk)) (by omega) (by omega) (by omega)) (cwV 3 hts gX7_frees_X7_fits rfl rfl rfl (by decide +kernel) ⟨Nat.le_of_ble_eq_true rfl, Nat.le_of_ble_eq_true rfl⟩) (nv_pV hK hP (va_recv hK.1 hP (ci := 9) (q0 := 0) rfl rfl)) rfl rfl hl.1 rfl (lv_room (Nat.le_of_ble_eq_true rfl)) dX7_frees_71 ⟨Nat.zero_le _, Nat.zero_le _⟩) ?_
        refine lv_istore_n (lv' := [(3, .int (nI (gFit G kk (G (32 + dk)) (G (40 + dk))))), (0, .ref h), (1, .int (nI kk)), (2, .int (nI dk))]) hx hb dX7_frees_74 rfl hl (by decide) rfl (fun ls hl => ?_)
        refine lv_iload_n hx hb dX7_frees_75 rfl (lv_at hl 0 rfl) ?_
        refine lv_iconst (v := nI 2) hx hb dX7_frees_76 (by decide) ?_
        refine nv_icmp_ge (tgt := 89) hx hb dX7_frees_77 (by decide) (by first | decide | exact gFit_lt _ _ _ _) (by first | decide | exact gFit_lt _ _ _ _) (fun c7 => ?_) (fun c7 => ?_)
        · refine lv_aload_n hx hb dX7_frees_89 rfl (lv_at hl 1 rfl) ?_
          refine va_get (D := D) (ci := 9) (v := .ref aG) (C := RX7) (T := TX7) (N := 18) hx hb hts in_X7 hown hK.1 hP 0 rfl rfl 0 (by decide) fl_7 (fun _ h9 => h9) rfl dX7_frees_90 ?_
          refine lv_bipush (v := nI 72) hx hb dX7_frees_93 (by decide) ?_
          refine lv_iload_n hx hb dX7_frees_95 rfl (lv_at hl 3 rfl) ?_
          refine nv_iadd hx hb dX7_frees_96 ?_
          refine lv_iconst (v := nI 0) hx hb dX7_frees_97 (by decide) ?_
          refine nv_gast (i := 72 + dk) (v := 0) hx hb hK.1 hP (hD _ _ _ _ _ _ _ _) hS 1 0 rfl rfl (by first | omega | (simp only [gEndAt]; omega)) (by decide) dX7_frees_98 (fun H locs hP hS => ?_)
          have hP : va_P D vwCl [(h, .inr (9, [.ref aG, .ref aB, .ref aH, .int (nI ch), .ref aS, .int (nI hs), .ref aI, .int (nI ty), .int ea, .int ra, .int (nI wy), .int wd, .ref aL, .int (nI ln), .int (nI th), .int (nI sp), .int (nI iw), .ref aT])), (aG, .inl (cI, 128, .inl (gN ((va_up G (72 + dk) (0)))))), (aB, .inl (cI, 128, .inl (gN B))), (aH, .inl (cI, 1024, .inl (gN Hi))), (aS, .inl (cI, 128, .inl (gN Sv))), (aI, .inl (cI, 60, .inl (gN In))), (aL, .inl (cC, 40, .inl (gN Le))), (aT, .inl (cI, 360, .inl To))] H := hP
          refine lv_aload_n hx hb dX7_frees_99 rfl (lv_at hl 1 rfl) ?_
          refine va_get (D := D) (ci := 9) (v := .ref aG) (C := RX7) (T := TX7) (N := 18) hx hb hts in_X7 hown hK.1 hP 0 rfl rfl 0 (by decide) fl_7 (fun _ h9 => h9) rfl dX7_frees_100 ?_
          refine lv_bipush (v := nI 64) hx hb dX7_frees_103 (by decide) ?_
          refine lv_iload_n hx hb dX7_frees_105 rfl (lv_at hl 3 rfl) ?_
          refine nv_iadd hx hb dX7_frees_106 ?_
          refine lv_iconst (v := nI 0) hx hb dX7_frees_107 (by decide) ?_
          refine nv_gast (i := 64 + dk) (v := 0) hx hb hK.1 hP (hD _ _ _ _ _ _ _ _) hS 1 0 rfl rfl (by first | omega | (simp only [gEndAt]; omega)) (by decide) dX7_frees_108 (fun H locs hP hS => ?_)
          have hP : va_P D vwCl [(h, .inr (9, [.ref aG, .ref aB, .ref aH, .int (nI ch), .ref aS, .int (nI hs), .ref aI, .int (nI ty), .int ea, .int ra, .int (nI wy), .int wd, .ref aL, .int (nI ln), .int (nI th), .int (nI sp), .int (nI iw), .ref aT])), (aG, .inl (cI, 128, .inl (gN ((va_up (va_up G (72 + dk) (0)) (64 + dk) (0)))))), (aB, .inl (cI, 128, .inl (gN B))), (aH, .inl (cI, 1024, .inl (gN Hi))), (aS, .inl (cI, 128, .inl (gN Sv))), (aI, .inl (cI, 60, .inl (gN In))), (aL, .inl (cC, 40, .inl (gN Le))), (aT, .inl (cI, 360, .inl To))] H := hP
          refine lv_aload_n hx hb dX7_frees_109 rfl (lv_at hl 1 rfl) ?_
          refine va_get (D := D) (ci := 9) (v := .ref aG) (C := RX7) (T := TX7) (N := 18) hx hb hts in_X7 hown hK.1 hP 0 rfl rfl 0 (by decide) fl_7 (fun _ h9 => h9) rfl dX7_frees_110 ?_
          refine lv_bipush (v := nI 7) hx hb dX7_frees_113 (by decide) ?_
          refine lv_dup2_11 hx hb dX7_frees_115 rfl rfl ?_
          refine nv_gald (i := 7) hx hb hK.1 hP 1 0 rfl rfl (by first | omega | (simp only [gEndAt]; omega)) (by decide) dX7_frees_116 ?_
          refine lv_iconst (v := nI 1) hx hb dX7_frees_117 (by decide) ?_
          refine nv_iadd hx hb dX7_frees_118 ?_
          refine nv_gast (i := 7) (v := (va_up (va_up G (72 + dk) (0)) (64 + dk) (0)) 7 + 1) hx hb hK.1 hP (hD _ _ _ _ _ _ _ _) hS 1 0 rfl rfl (by first | omega | (simp only [gEndAt]; omega)) (by decide) dX7_frees_119 (fun H locs hP hS => ?_)
          have hP : va_P D vwCl [(h, .inr (9, [.ref aG, .ref aB, .ref aH, .int (nI ch), .ref aS, .int (nI hs), .ref aI, .int (nI ty), .int ea, .int ra, .int (nI wy), .int wd, .ref aL, .int (nI ln), .int (nI th), .int (nI sp), .int (nI iw), .ref aT])), (aG, .inl (cI, 128, .inl (gN ((va_up (va_up (va_up G (72 + dk) (0)) (64 + dk) (0)) (7) ((va_up (va_up G (72 + dk) (0)) (64 + dk) (0)) 7 + 1)))))), (aB, .inl (cI, 128, .inl (gN B))), (aH, .inl (cI, 1024, .inl (gN Hi))), (aS, .inl (cI, 128, .inl (gN Sv))), (aI, .inl (cI, 60, .inl (gN In))), (aL, .inl (cC, 40, .inl (gN Le))), (aT, .inl (cI, 360, .inl To))] H := hP
          refine lv_aload_n hx hb dX7_frees_120 rfl (lv_at hl 1 rfl) ?_
          refine lv_aload_n hx hb dX7_frees_121 rfl (lv_at hl 1 rfl) ?_
          refine lv_bipush (v := nI 72) hx hb dX7_frees_122 (by decide) ?_
          refine nv_kS (va_runV (As := [.int (nI 72)]) (rest := [.ref h]) ⟨hx, hb, hml, hown, hts⟩ (c_X7_many l 72 (by omega) (by first | omega | (show gFree G dk 0 ≤ 8; unfold gFree; rw [va_ne _ _ (by omega), va_ne _ _ (by omega), va_ne _ _ (by omega)]; omega))) (cwV 1 hts gX7_frees_X7_many rfl rfl rfl (by decide +kernel) ⟨Nat.le_of_ble_eq_true rfl, Nat.le_of_ble_eq_true rfl⟩) (nv_pV hK hP (va_recv hK.1 hP (ci := 9) (q0 := 0) rfl rfl)) rfl rfl hl.1 rfl (lv_room (Nat.le_of_ble_eq_true rfl)) dX7_frees_124 ⟨Nat.zero_le _, Nat.zero_le _⟩) ?_
          refine nv_kM (va_runV (As := [.int (nI (gMany (va_up (va_up (va_up G (72 + dk) (0)) (64 + dk) (0)) (7) ((va_up (va_up G (72 + dk) (0)) (64 + dk) (0)) 7 + 1)) 72))]) (rest := []) ⟨hx, hb, hml, hown, hts⟩ (c_X7_done l hD (nI (gMany (va_up (va_up (va_up G (72 + dk) (0)) (64 + dk) (0)) (7) ((va_up (va_up G (72 + dk) (0)) (64 + dk) (0)) 7 + 1)) 72))) (cwV 1 hts gX7_frees_X7_done rfl rfl rfl (by decide +kernel) ⟨Nat.le_of_ble_eq_true rfl, Nat.le_of_ble_eq_true rfl⟩) (nv_pV hK hP (va_recv hK.1 hP (ci := 9) (q0 := 0) rfl rfl)) rfl rfl hl.1 rfl (lv_room (Nat.le_of_ble_eq_true rfl)) dX7_frees_127 ⟨Nat.zero_le _, Nat.zero_le _⟩) hS (fun H locs hP hS => ?_)
          have hP : va_P D vwCl [(h, .inr (9, [.ref aG, .ref aB, .ref aH, .int (nI ch), .ref aS, .int (nI hs), .ref aI, .int (nI ty), .int ea, .int ra, .int (nI wy), .int wd, .ref aL, .int (nI ln), .int (nI 0), .int (nI sp), .int (nI iw), .ref aT])), (aG, .inl (cI, 128, .inl (gN ((va_up (va_up (va_up G (72 + dk) (0)) (64 + dk) (0)) (7) ((va_up (va_up G (72 + dk) (0)) (64 + dk) (0)) 7 + 1)))))), (aB, .inl (cI, 128, .inl (gN B))), (aH, .inl (cI, 1024, .inl (gN Hi))), (aS, .inl (cI, 128, .inl (gN Sv))), (aI, .inl (cI, 60, .inl (gN In))), (aL, .inl (cC, 40, .inl (gN Le))), (aT, .inl (cI, 360, .inl To))] H := hP
          exact nv_retM hq hx hb hr hlocks (nar_i _) (by unfold vFree; simp only [et_kk, et_dk]; rw [if_neg (fun q => q.elim (fun z => z c1) (fun z => z c2)), if_neg c4, if_neg (by omega)]; rfl) hS hP (by unfold vFree; simp only [et_kk, et_dk]; rw [if_neg (fun q => q.elim (fun z => z c1) (fun z => z c2)), if_neg c4, if_neg (by omega)]; rfl) dX7_frees_130
        · refine lv_aload_n hx hb dX7_frees_80 rfl (lv_at hl 1 rfl) ?_
          refine lv_bipush (v := nI 7) hx hb dX7_frees_81 (by decide) ?_
          refine lv_iload_n hx hb dX7_frees_83 rfl (lv_at hl 0 rfl) ?_
          refine lv_iconst (v := nI 2) hx hb dX7_frees_84 (by decide) ?_
          refine nv_kM (va_runV (As := [.int (nI 7), .int (nI (gFit G kk (G (32 + dk)) (G (40 + dk)))), .int (nI 2)]) (rest := []) ⟨hx, hb, hml, hown, hts⟩ (c_X7_refused l hD 7 (nI (gFit G kk (G (32 + dk)) (G (40 + dk)))) 2) (cwV 3 hts gX7_frees_X7_refused rfl rfl rfl (by decide +kernel) ⟨Nat.le_of_ble_eq_true rfl, Nat.le_of_ble_eq_true rfl⟩) (nv_pV hK hP (va_recv hK.1 hP (ci := 9) (q0 := 0) rfl rfl)) rfl rfl hl.1 rfl (lv_room (Nat.le_of_ble_eq_true rfl)) dX7_frees_85 ⟨Nat.zero_le _, Nat.zero_le _⟩) hS (fun H locs hP hS => ?_)
          have hP : va_P D vwCl [(h, .inr (9, [.ref aG, .ref aB, .ref aH, .int (nI ch), .ref aS, .int (nI hs), .ref aI, .int (nI ty), .int ea, .int ra, .int (nI 7), .int (nI (gFit G kk (G (32 + dk)) (G (40 + dk)))), .ref aL, .int (nI ln), .int (nI 2), .int (nI sp), .int (nI iw), .ref aT])), (aG, .inl (cI, 128, .inl (gN G))), (aB, .inl (cI, 128, .inl (gN B))), (aH, .inl (cI, 1024, .inl (gN Hi))), (aS, .inl (cI, 128, .inl (gN Sv))), (aI, .inl (cI, 60, .inl (gN In))), (aL, .inl (cC, 40, .inl (gN Le))), (aT, .inl (cI, 360, .inl To))] H := hP
          exact nv_retM hq hx hb hr hlocks (nar_i _) (by unfold vFree; simp only [et_kk, et_dk]; rw [if_neg (fun q => q.elim (fun z => z c1) (fun z => z c2)), if_neg c4, if_pos (by omega)]; rfl) hS hP (by unfold vFree; simp only [et_kk, et_dk]; rw [if_neg (fun q => q.elim (fun z => z c1) (fun z => z c2)), if_neg c4, if_pos (by omega)]; rfl) dX7_frees_88
      · obtain ⟨w_a, w_g, w_n, w_s, w_w, w_l, w_o, w_x, w_y, w_1, w_2, w_3, w_4⟩ := hG.door (d := dk) (by omega)
        refine lv_aload_n hx hb dX7_frees_34 rfl (lv_at hl 0 rfl) ?_
        refine lv_bipush (v := nI 6) hx hb dX7_frees_35 (by decide) ?_
        refine lv_aload_n hx hb dX7_frees_37 rfl (lv_at hl 0 rfl) ?_
        refine va_get (D := D) (ci := 9) (v := .ref aG) (C := RX7) (T := TX7) (N := 18) hx hb hts in_X7 hown hK.1 hP 0 rfl rfl 0 (by decide) fl_7 (fun _ h9 => h9) rfl dX7_frees_38 ?_
        refine lv_bipush (v := nI 64) hx hb dX7_frees_41 (by decide) ?_
        refine lv_iload_n hx hb dX7_frees_43 rfl (lv_at hl 2 rfl) ?_
        refine nv_iadd hx hb dX7_frees_44 ?_
        refine nv_gald (i := 64 + dk) hx hb hK.1 hP 1 0 rfl rfl (by first | omega | (simp only [gEndAt]; omega)) (by decide) dX7_frees_45 ?_
        have q8 : G (64 + dk) < 2 ^ 20 := hG.lt (k := 64 + dk) (by omega)
        refine lv_iconst (v := nI 2) hx hb dX7_frees_46 (by decide) ?_
        refine nv_kM (va_runV (As := [.int (nI 6), .int (nI (G (64 + dk))), .int (nI 2)]) (rest := []) ⟨hx, hb, hml, hown, hts⟩ (c_X7_refused l hD 6 (nI (G (64 + dk))) 2) (cwV 3 hts gX7_frees_X7_refused rfl rfl rfl (by decide +kernel) ⟨Nat.le_of_ble_eq_true rfl, Nat.le_of_ble_eq_true rfl⟩) (nv_pV hK hP (va_recv hK.1 hP (ci := 9) (q0 := 0) rfl rfl)) rfl rfl hl.1 rfl (lv_room (Nat.le_of_ble_eq_true rfl)) dX7_frees_47 ⟨Nat.zero_le _, Nat.zero_le _⟩) hS (fun H locs hP hS => ?_)
        have hP : va_P D vwCl [(h, .inr (9, [.ref aG, .ref aB, .ref aH, .int (nI ch), .ref aS, .int (nI hs), .ref aI, .int (nI ty), .int ea, .int ra, .int (nI 6), .int (nI (G (64 + dk))), .ref aL, .int (nI ln), .int (nI 2), .int (nI sp), .int (nI iw), .ref aT])), (aG, .inl (cI, 128, .inl (gN G))), (aB, .inl (cI, 128, .inl (gN B))), (aH, .inl (cI, 1024, .inl (gN Hi))), (aS, .inl (cI, 128, .inl (gN Sv))), (aI, .inl (cI, 60, .inl (gN In))), (aL, .inl (cC, 40, .inl (gN Le))), (aT, .inl (cI, 360, .inl To))] H := hP
        exact nv_retM hq hx hb hr hlocks (nar_i _) (by unfold vFree; simp only [et_kk, et_dk]; rw [if_neg (fun q => q.elim (fun z => z c1) (fun z => z c2)), if_pos c4]; rfl) hS hP (by unfold vFree; simp only [et_kk, et_dk]; rw [if_neg (fun q => q.elim (fun z => z c1) (fun z => z c2)), if_pos c4]; rfl) dX7_frees_50
    · refine lv_aload_n hx hb dX7_frees_16 rfl (lv_at hl 0 rfl) ?_
      refine lv_iconst (v := nI 1) hx hb dX7_frees_17 (by decide) ?_
      refine nv_kM (va_runV (As := [.int (nI 1)]) (rest := []) ⟨hx, hb, hml, hown, hts⟩ (c_X7_fails l hD 1) (cwV 1 hts gX7_frees_X7_fails rfl rfl rfl (by decide +kernel) ⟨Nat.le_of_ble_eq_true rfl, Nat.le_of_ble_eq_true rfl⟩) (nv_pV hK hP (va_recv hK.1 hP (ci := 9) (q0 := 0) rfl rfl)) rfl rfl hl.1 rfl (lv_room (Nat.le_of_ble_eq_true rfl)) dX7_frees_18 ⟨Nat.zero_le _, Nat.zero_le _⟩) hS (fun H locs hP hS => ?_)
      have hP : va_P D vwCl [(h, .inr (9, [.ref aG, .ref aB, .ref aH, .int (nI ch), .ref aS, .int (nI hs), .ref aI, .int (nI ty), .int ea, .int ra, .int (nI wy), .int wd, .ref aL, .int (nI ln), .int (nI 1), .int (nI sp), .int (nI iw), .ref aT])), (aG, .inl (cI, 128, .inl (gN G))), (aB, .inl (cI, 128, .inl (gN B))), (aH, .inl (cI, 1024, .inl (gN Hi))), (aS, .inl (cI, 128, .inl (gN Sv))), (aI, .inl (cI, 60, .inl (gN In))), (aL, .inl (cC, 40, .inl (gN Le))), (aT, .inl (cI, 360, .inl To))] H := hP
      exact nv_retM hq hx hb hr hlocks (nar_i _) (by unfold vFree; simp only [et_kk]; rw [if_pos (Or.inr c2)]; rfl) hS hP (by unfold vFree; simp only [et_kk]; rw [if_pos (Or.inr c2)]; rfl) dX7_frees_21

theorem nI_succ1 {k : Nat} : nI k + nI 1 = nI (k + 1) := nI_add k 1
theorem neg1_1 : (-1 : Int32) + nI 1 = nI 0 := by decide
theorem iR_m1 {n : Nat} : ¬ iR (-1 : Int32) n := by
  unfold iR
  rw [show (-1 : Int32).toInt = -1 from by decide]
  omega

set_option maxHeartbeats 1000000 in
set_option maxRecDepth 100000 in
theorem c_X7_sets (l : Launch) {D : va_G} {cI cC : ClassId} {h aG aB aH aS aI aL aT : Nat} {G B Hi Sv In Le : Nat → Nat} {To : Nat → Int32} {ch hs ty wy ln th sp iw : Nat} {ea ra wd : Int32} {A : Nat → Prop} (hD : ∀ (G B Hi Sv In Le : Nat → Nat) (To : Nat → Int32) (fs : List Value), va_D A [(h, .inr (9, fs)), (aG, .inl (cI, 128, .inl (gN G))), (aB, .inl (cI, 128, .inl (gN B))), (aH, .inl (cI, 1024, .inl (gN Hi))), (aS, .inl (cI, 128, .inl (gN Sv))), (aI, .inl (cI, 60, .inl (gN In))), (aL, .inl (cC, 40, .inl (gN Le))), (aT, .inl (cI, 360, .inl To))]) {b : Nat} (hG : gWf b G) (d t : Int32) : Met l yX7_sets wsX7_sets ({ frames := 2, cells := 0, slots := 0, locals := 44 }) (va_Pc [.ref h, .int d, .int t] (sPre D [(cI, .int), (cC, .char)] [] (fun H => va_P D vwCl [(h, .inr (9, [.ref aG, .ref aB, .ref aH, .int (nI ch), .ref aS, .int (nI hs), .ref aI, .int (nI ty), .int ea, .int ra, .int (nI wy), .int wd, .ref aL, .int (nI ln), .int (nI th), .int (nI sp), .int (nI iw), .ref aT])), (aG, .inl (cI, 128, .inl (gN G))), (aB, .inl (cI, 128, .inl (gN B))), (aH, .inl (cI, 1024, .inl (gN Hi))), (aS, .inl (cI, 128, .inl (gN Sv))), (aI, .inl (cI, 60, .inl (gN In))), (aL, .inl (cC, 40, .inl (gN Le))), (aT, .inl (cI, 360, .inl To))] H))) (mQ D ((vSet G d t).2.2.2.1) [(h, .inr (9, [.ref aG, .ref aB, .ref aH, .int (nI ch), .ref aS, .int (nI hs), .ref aI, .int (nI ty), .int ea, .int ra, .int (nI (vWy (vSet G d t) wy)), .int (vWd (vSet G d t) wd), .ref aL, .int (nI ln), .int (nI ((vSet G d t).1)), .int (nI sp), .int (nI iw), .ref aT])), (aG, .inl (cI, 128, .inl (gN ((vSet G d t).2.2.2.2)))), (aB, .inl (cI, 128, .inl (gN B))), (aH, .inl (cI, 1024, .inl (gN Hi))), (aS, .inl (cI, 128, .inl (gN Sv))), (aI, .inl (cI, 60, .inl (gN In))), (aL, .inl (cC, 40, .inl (gN Le))), (aT, .inl (cI, 360, .inl To))] A) 0 0 A := by
  refine nv_met (cc := cX7_sets) (maxL := 3) (ret := (some .int)) (by decide) rfl (Nat.le_of_ble_eq_true rfl) ?_
  intro p0 e0 s m0 args below meth c0 Q hq hargs hnA hpre ls hl
  obtain ⟨hx, hb, hr, hts, hown, hlocks, hml⟩ := hnA
  obtain ⟨hP, hK⟩ := hpre
  have hown : s.vm.findClass RX7 = some m0.cls := hown
  have hP : va_P D vwCl [(h, .inr (9, [.ref aG, .ref aB, .ref aH, .int (nI ch), .ref aS, .int (nI hs), .ref aI, .int (nI ty), .int ea, .int ra, .int (nI wy), .int wd, .ref aL, .int (nI ln), .int (nI th), .int (nI sp), .int (nI iw), .ref aT])), (aG, .inl (cI, 128, .inl (gN G))), (aB, .inl (cI, 128, .inl (gN B))), (aH, .inl (cI, 1024, .inl (gN Hi))), (aS, .inl (cI, 128, .inl (gN Sv))), (aI, .inl (cI, 60, .inl (gN In))), (aL, .inl (cC, 40, .inl (gN Le))), (aT, .inl (cI, 360, .inl To))] s.heap := hP
  have hl : lv_has ls 3 [(0, .ref h), (1, .int d), (2, .int t)] := hl
  have hS : va_S A s.heap s.heap [] := va_S.rf
  have in_X7 : ∀ w ∈ wsX70, w ∈ wsX7_sets := by decide +kernel
  have fl_7 := hts (.fieldLink RX7 7 "DoorDialectModel" "g" "[I") (by decide +kernel)
  obtain ⟨g_b, g_k, g_0, g_1, g_2, g_e, g_d, g_t, g_y, g_s, g_h⟩ := id hG
  refine lv_aload_n hx hb dX7_sets_0 rfl (lv_at hl 0 rfl) ?_
  refine lv_iload_n hx hb dX7_sets_1 rfl (lv_at hl 1 rfl) ?_
  refine nv_kS (va_runV (As := [.int d]) (rest := []) ⟨hx, hb, hml, hown, hts⟩ (c_X7_isDoor l (d) (by omega)) (cwV 1 hts gX7_sets_X7_isDoor rfl rfl rfl (by decide +kernel) ⟨Nat.le_of_ble_eq_true rfl, Nat.le_of_ble_eq_true rfl⟩) (nv_pV hK hP (va_recv hK.1 hP (ci := 9) (q0 := 0) rfl rfl)) rfl rfl hl.1 rfl (lv_room (Nat.le_of_ble_eq_true rfl)) dX7_sets_2 ⟨Nat.zero_le _, Nat.zero_le _⟩) ?_
  refine nv_ifb_eq (tgt := 21) hx hb dX7_sets_5 (by decide) (fun c1 => ?_) (fun c1 => ?_)
  · refine lv_aload_n hx hb dX7_sets_21 rfl (lv_at hl 0 rfl) ?_
    refine lv_iconst (v := nI 1) hx hb dX7_sets_22 (by decide) ?_
    refine nv_kM (va_runV (As := [.int (nI 1)]) (rest := []) ⟨hx, hb, hml, hown, hts⟩ (c_X7_fails l hD 1) (cwV 1 hts gX7_sets_X7_fails rfl rfl rfl (by decide +kernel) ⟨Nat.le_of_ble_eq_true rfl, Nat.le_of_ble_eq_true rfl⟩) (nv_pV hK hP (va_recv hK.1 hP (ci := 9) (q0 := 0) rfl rfl)) rfl rfl hl.1 rfl (lv_room (Nat.le_of_ble_eq_true rfl)) dX7_sets_23 ⟨Nat.zero_le _, Nat.zero_le _⟩) hS (fun H locs hP hS => ?_)
    have hP : va_P D vwCl [(h, .inr (9, [.ref aG, .ref aB, .ref aH, .int (nI ch), .ref aS, .int (nI hs), .ref aI, .int (nI ty), .int ea, .int ra, .int (nI wy), .int wd, .ref aL, .int (nI ln), .int (nI 1), .int (nI sp), .int (nI iw), .ref aT])), (aG, .inl (cI, 128, .inl (gN G))), (aB, .inl (cI, 128, .inl (gN B))), (aH, .inl (cI, 1024, .inl (gN Hi))), (aS, .inl (cI, 128, .inl (gN Sv))), (aI, .inl (cI, 60, .inl (gN In))), (aL, .inl (cC, 40, .inl (gN Le))), (aT, .inl (cI, 360, .inl To))] H := hP
    exact nv_retM hq hx hb hr hlocks (nar_i _) (by unfold vSet; rw [if_pos (Or.inl c1)]; rfl) hS hP (by unfold vSet; rw [if_pos (Or.inl c1)]; rfl) dX7_sets_26
  · obtain ⟨dk, h_dk, rfl⟩ := iR_of c1 (by omega)
    have et_dk : tN (nI dk) = dk := tN_nI (by omega)
    obtain ⟨w_a, w_g, w_n, w_s, w_w, w_l, w_o, w_x, w_y, w_1, w_2, w_3, w_4⟩ := hG.door (d := dk) (by omega)
    refine lv_iload_n hx hb dX7_sets_8 rfl (lv_at hl 2 rfl) ?_
    refine lv_iconst (v := (-1)) hx hb dX7_sets_9 (by decide) ?_
    refine lv_icmp_eq (tgt := 27) hx hb dX7_sets_10 (by decide) (fun c2 => ?_) (fun c2 => ?_)
    · subst c2
      have et_t1 : tN ((-1 : Int32) + nI 1) = 0 := by decide
      refine lv_aload_n hx hb dX7_sets_27 rfl (lv_at hl 0 rfl) ?_
      refine va_get (D := D) (ci := 9) (v := .ref aG) (C := RX7) (T := TX7) (N := 18) hx hb hts in_X7 hown hK.1 hP 0 rfl rfl 0 (by decide) fl_7 (fun _ h9 => h9) rfl dX7_sets_28 ?_
      refine lv_bipush (v := nI 56) hx hb dX7_sets_31 (by decide) ?_
      refine lv_iload_n hx hb dX7_sets_33 rfl (lv_at hl 1 rfl) ?_
      refine nv_iadd hx hb dX7_sets_34 ?_
      refine nv_gald (i := 56 + dk) hx hb hK.1 hP 1 0 rfl rfl (by first | omega | (simp only [gEndAt]; omega)) (by decide) dX7_sets_35 ?_
      have q3 : G (56 + dk) < 2 ^ 20 := hG.lt (k := 56 + dk) (by omega)
      refine lv_iload_n hx hb dX7_sets_36 rfl (lv_at hl 2 rfl) ?_
      refine lv_iconst (v := nI 1) hx hb dX7_sets_37 (by decide) ?_
      refine lv_iadd hx hb dX7_sets_38 ?_
      refine nv_to 0 neg1_1 ?_
      refine nv_icmp_ne (tgt := 50) hx hb dX7_sets_39 (by decide) (by omega) (by omega) (fun c4 => ?_) (fun c4 => ?_)
      · refine lv_aload_n hx hb dX7_sets_50 rfl (lv_at hl 0 rfl) ?_
        refine va_get (D := D) (ci := 9) (v := .ref aG) (C := RX7) (T := TX7) (N := 18) hx hb hts in_X7 hown hK.1 hP 0 rfl rfl 0 (by decide) fl_7 (fun _ h9 => h9) rfl dX7_sets_51 ?_
        refine lv_bipush (v := nI 56) hx hb dX7_sets_54 (by decide) ?_
        refine lv_iload_n hx hb dX7_sets_56 rfl (lv_at hl 1 rfl) ?_
        refine nv_iadd hx hb dX7_sets_57 ?_
        refine lv_iload_n hx hb dX7_sets_58 rfl (lv_at hl 2 rfl) ?_
        refine lv_iconst (v := nI 1) hx hb dX7_sets_59 (by decide) ?_
        refine lv_iadd hx hb dX7_sets_60 ?_
        refine nv_to 0 neg1_1 ?_
        refine nv_gast (i := 56 + dk) (v := 0) hx hb hK.1 hP (hD _ _ _ _ _ _ _ _) hS 1 0 rfl rfl (by first | omega | (simp only [gEndAt]; omega)) (by decide) dX7_sets_61 (fun H locs hP hS => ?_)
        have hP : va_P D vwCl [(h, .inr (9, [.ref aG, .ref aB, .ref aH, .int (nI ch), .ref aS, .int (nI hs), .ref aI, .int (nI ty), .int ea, .int ra, .int (nI wy), .int wd, .ref aL, .int (nI ln), .int (nI th), .int (nI sp), .int (nI iw), .ref aT])), (aG, .inl (cI, 128, .inl (gN ((va_up G (56 + dk) (0)))))), (aB, .inl (cI, 128, .inl (gN B))), (aH, .inl (cI, 1024, .inl (gN Hi))), (aS, .inl (cI, 128, .inl (gN Sv))), (aI, .inl (cI, 60, .inl (gN In))), (aL, .inl (cC, 40, .inl (gN Le))), (aT, .inl (cI, 360, .inl To))] H := hP
        refine lv_aload_n hx hb dX7_sets_62 rfl (lv_at hl 0 rfl) ?_
        refine lv_aload_n hx hb dX7_sets_63 rfl (lv_at hl 0 rfl) ?_
        refine lv_iload_n hx hb dX7_sets_64 rfl (lv_at hl 1 rfl) ?_
        refine nv_kS (va_runV (As := [.int (nI dk)]) (rest := [.ref h]) ⟨hx, hb, hml, hown, hts⟩ (c_X7_caseOf l dk (by omega) (by rw [va_same]; omega)) (cwV 1 hts gX7_sets_X7_caseOf rfl rfl rfl (by decide +kernel) ⟨Nat.le_of_ble_eq_true rfl, Nat.le_of_ble_eq_true rfl⟩) (nv_pV hK hP (va_recv hK.1 hP (ci := 9) (q0 := 0) rfl rfl)) rfl rfl hl.1 rfl (lv_room (Nat.le_of_ble_eq_true rfl)) dX7_sets_65 ⟨Nat.zero_le _, Nat.zero_le _⟩) ?_
        refine nv_kM (va_runV (As := [.int (nI (gCase (va_up G (56 + dk) (0)) dk))]) (rest := []) ⟨hx, hb, hml, hown, hts⟩ (c_X7_done l hD (nI (gCase (va_up G (56 + dk) (0)) dk))) (cwV 1 hts gX7_sets_X7_done rfl rfl rfl (by decide +kernel) ⟨Nat.le_of_ble_eq_true rfl, Nat.le_of_ble_eq_true rfl⟩) (nv_pV hK hP (va_recv hK.1 hP (ci := 9) (q0 := 0) rfl rfl)) rfl rfl hl.1 rfl (lv_room (Nat.le_of_ble_eq_true rfl)) dX7_sets_68 ⟨Nat.zero_le _, Nat.zero_le _⟩) hS (fun H locs hP hS => ?_)
        have hP : va_P D vwCl [(h, .inr (9, [.ref aG, .ref aB, .ref aH, .int (nI ch), .ref aS, .int (nI hs), .ref aI, .int (nI ty), .int ea, .int ra, .int (nI wy), .int wd, .ref aL, .int (nI ln), .int (nI 0), .int (nI sp), .int (nI iw), .ref aT])), (aG, .inl (cI, 128, .inl (gN ((va_up G (56 + dk) (0)))))), (aB, .inl (cI, 128, .inl (gN B))), (aH, .inl (cI, 1024, .inl (gN Hi))), (aS, .inl (cI, 128, .inl (gN Sv))), (aI, .inl (cI, 60, .inl (gN In))), (aL, .inl (cC, 40, .inl (gN Le))), (aT, .inl (cI, 360, .inl To))] H := hP
        exact nv_retM hq hx hb hr hlocks (nar_i _) (by unfold vSet; simp only [et_dk, et_t1]; rw [if_neg (fun q => q.elim (fun z => z c1) (fun q => q.1 (by first | trivial | rfl))), if_neg (fun q => c4 ((nI_eq (by omega) (by omega)).mp (q.trans neg1_1)))]; rfl) hS hP (by unfold vSet; simp only [et_dk, et_t1]; rw [if_neg (fun q => q.elim (fun z => z c1) (fun q => q.1 (by first | trivial | rfl))), if_neg (fun q => c4 ((nI_eq (by omega) (by omega)).mp (q.trans neg1_1)))]; rfl) dX7_sets_71
      · refine lv_aload_n hx hb dX7_sets_42 rfl (lv_at hl 0 rfl) ?_
        refine lv_iconst (v := nI 2) hx hb dX7_sets_43 (by decide) ?_
        refine lv_iload_n hx hb dX7_sets_44 rfl (lv_at hl 2 rfl) ?_
        refine lv_iconst (v := nI 2) hx hb dX7_sets_45 (by decide) ?_
        refine nv_kM (va_runV (As := [.int (nI 2), .int ((-1)), .int (nI 2)]) (rest := []) ⟨hx, hb, hml, hown, hts⟩ (c_X7_refused l hD 2 ((-1)) 2) (cwV 3 hts gX7_sets_X7_refused rfl rfl rfl (by decide +kernel) ⟨Nat.le_of_ble_eq_true rfl, Nat.le_of_ble_eq_true rfl⟩) (nv_pV hK hP (va_recv hK.1 hP (ci := 9) (q0 := 0) rfl rfl)) rfl rfl hl.1 rfl (lv_room (Nat.le_of_ble_eq_true rfl)) dX7_sets_46 ⟨Nat.zero_le _, Nat.zero_le _⟩) hS (fun H locs hP hS => ?_)
        have hP : va_P D vwCl [(h, .inr (9, [.ref aG, .ref aB, .ref aH, .int (nI ch), .ref aS, .int (nI hs), .ref aI, .int (nI ty), .int ea, .int ra, .int (nI 2), .int ((-1)), .ref aL, .int (nI ln), .int (nI 2), .int (nI sp), .int (nI iw), .ref aT])), (aG, .inl (cI, 128, .inl (gN G))), (aB, .inl (cI, 128, .inl (gN B))), (aH, .inl (cI, 1024, .inl (gN Hi))), (aS, .inl (cI, 128, .inl (gN Sv))), (aI, .inl (cI, 60, .inl (gN In))), (aL, .inl (cC, 40, .inl (gN Le))), (aT, .inl (cI, 360, .inl To))] H := hP
        exact nv_retM hq hx hb hr hlocks (nar_i _) (by unfold vSet; simp only [et_dk, et_t1]; rw [if_neg (fun q => q.elim (fun z => z c1) (fun q => q.1 (by first | trivial | rfl))), if_pos ((congrArg nI c4).trans neg1_1.symm)]; rfl) hS hP (by unfold vSet; simp only [et_dk, et_t1]; rw [if_neg (fun q => q.elim (fun z => z c1) (fun q => q.1 (by first | trivial | rfl))), if_pos ((congrArg nI c4).trans neg1_1.symm)]; rfl) dX7_sets_49
    · refine lv_aload_n hx hb dX7_sets_13 rfl (lv_at hl 0 rfl) ?_
      refine lv_iload_n hx hb dX7_sets_14 rfl (lv_at hl 2 rfl) ?_
      refine nv_kS (va_runV (As := [.int t]) (rest := []) ⟨hx, hb, hml, hown, hts⟩ (c_X7_isSill l (t) (by omega)) (cwV 1 hts gX7_sets_X7_isSill rfl rfl rfl (by decide +kernel) ⟨Nat.le_of_ble_eq_true rfl, Nat.le_of_ble_eq_true rfl⟩) (nv_pV hK hP (va_recv hK.1 hP (ci := 9) (q0 := 0) rfl rfl)) rfl rfl hl.1 rfl (lv_room (Nat.le_of_ble_eq_true rfl)) dX7_sets_15 ⟨Nat.zero_le _, Nat.zero_le _⟩) ?_
      refine nv_ifb_ne (tgt := 27) hx hb dX7_sets_18 (by decide) (fun c5 => ?_) (fun c5 => ?_)
      · obtain ⟨tk, h_tk, rfl⟩ := iR_of c5 (by omega)
        have et_tk : tN (nI tk) = tk := tN_nI (by omega)
        have et_t1 : tN (nI tk + nI 1) = tk + 1 := by rw [nI_add]; exact tN_nI (by omega)
        refine lv_aload_n hx hb dX7_sets_27 rfl (lv_at hl 0 rfl) ?_
        refine va_get (D := D) (ci := 9) (v := .ref aG) (C := RX7) (T := TX7) (N := 18) hx hb hts in_X7 hown hK.1 hP 0 rfl rfl 0 (by decide) fl_7 (fun _ h9 => h9) rfl dX7_sets_28 ?_
        refine lv_bipush (v := nI 56) hx hb dX7_sets_31 (by decide) ?_
        refine lv_iload_n hx hb dX7_sets_33 rfl (lv_at hl 1 rfl) ?_
        refine nv_iadd hx hb dX7_sets_34 ?_
        refine nv_gald (i := 56 + dk) hx hb hK.1 hP 1 0 rfl rfl (by first | omega | (simp only [gEndAt]; omega)) (by decide) dX7_sets_35 ?_
        have q6 : G (56 + dk) < 2 ^ 20 := hG.lt (k := 56 + dk) (by omega)
        refine lv_iload_n hx hb dX7_sets_36 rfl (lv_at hl 2 rfl) ?_
        refine lv_iconst (v := nI 1) hx hb dX7_sets_37 (by decide) ?_
        refine nv_iadd hx hb dX7_sets_38 ?_
        refine nv_icmp_ne (tgt := 50) hx hb dX7_sets_39 (by decide) (by omega) (by omega) (fun c7 => ?_) (fun c7 => ?_)
        · refine lv_aload_n hx hb dX7_sets_50 rfl (lv_at hl 0 rfl) ?_
          refine va_get (D := D) (ci := 9) (v := .ref aG) (C := RX7) (T := TX7) (N := 18) hx hb hts in_X7 hown hK.1 hP 0 rfl rfl 0 (by decide) fl_7 (fun _ h9 => h9) rfl dX7_sets_51 ?_
          refine lv_bipush (v := nI 56) hx hb dX7_sets_54 (by decide) ?_
          refine lv_iload_n hx hb dX7_sets_56 rfl (lv_at hl 1 rfl) ?_
          refine nv_iadd hx hb dX7_sets_57 ?_
          refine lv_iload_n hx hb dX7_sets_58 rfl (lv_at hl 2 rfl) ?_
          refine lv_iconst (v := nI 1) hx hb dX7_sets_59 (by decide) ?_
          refine nv_iadd hx hb dX7_sets_60 ?_
          refine nv_gast (i := 56 + dk) (v := tk + 1) hx hb hK.1 hP (hD _ _ _ _ _ _ _ _) hS 1 0 rfl rfl (by first | omega | (simp only [gEndAt]; omega)) (by decide) dX7_sets_61 (fun H locs hP hS => ?_)
          have hP : va_P D vwCl [(h, .inr (9, [.ref aG, .ref aB, .ref aH, .int (nI ch), .ref aS, .int (nI hs), .ref aI, .int (nI ty), .int ea, .int ra, .int (nI wy), .int wd, .ref aL, .int (nI ln), .int (nI th), .int (nI sp), .int (nI iw), .ref aT])), (aG, .inl (cI, 128, .inl (gN ((va_up G (56 + dk) (tk + 1)))))), (aB, .inl (cI, 128, .inl (gN B))), (aH, .inl (cI, 1024, .inl (gN Hi))), (aS, .inl (cI, 128, .inl (gN Sv))), (aI, .inl (cI, 60, .inl (gN In))), (aL, .inl (cC, 40, .inl (gN Le))), (aT, .inl (cI, 360, .inl To))] H := hP
          refine lv_aload_n hx hb dX7_sets_62 rfl (lv_at hl 0 rfl) ?_
          refine lv_aload_n hx hb dX7_sets_63 rfl (lv_at hl 0 rfl) ?_
          refine lv_iload_n hx hb dX7_sets_64 rfl (lv_at hl 1 rfl) ?_
          refine nv_kS (va_runV (As := [.int (nI dk)]) (rest := [.ref h]) ⟨hx, hb, hml, hown, hts⟩ (c_X7_caseOf l dk (by omega) (by rw [va_same]; omega)) (cwV 1 hts gX7_sets_X7_caseOf rfl rfl rfl (by decide +kernel) ⟨Nat.le_of_ble_eq_true rfl, Nat.le_of_ble_eq_true rfl⟩) (nv_pV hK hP (va_recv hK.1 hP (ci := 9) (q0 := 0) rfl rfl)) rfl rfl hl.1 rfl (lv_room (Nat.le_of_ble_eq_true rfl)) dX7_sets_65 ⟨Nat.zero_le _, Nat.zero_le _⟩) ?_
          refine nv_kM (va_runV (As := [.int (nI (gCase (va_up G (56 + dk) (tk + 1)) dk))]) (rest := []) ⟨hx, hb, hml, hown, hts⟩ (c_X7_done l hD (nI (gCase (va_up G (56 + dk) (tk + 1)) dk))) (cwV 1 hts gX7_sets_X7_done rfl rfl rfl (by decide +kernel) ⟨Nat.le_of_ble_eq_true rfl, Nat.le_of_ble_eq_true rfl⟩) (nv_pV hK hP (va_recv hK.1 hP (ci := 9) (q0 := 0) rfl rfl)) rfl rfl hl.1 rfl (lv_room (Nat.le_of_ble_eq_true rfl)) dX7_sets_68 ⟨Nat.zero_le _, Nat.zero_le _⟩) hS (fun H locs hP hS => ?_)
          have hP : va_P D vwCl [(h, .inr (9, [.ref aG, .ref aB, .ref aH, .int (nI ch), .ref aS, .int (nI hs), .ref aI, .int (nI ty), .int ea, .int ra, .int (nI wy), .int wd, .ref aL, .int (nI ln), .int (nI 0), .int (nI sp), .int (nI iw), .ref aT])), (aG, .inl (cI, 128, .inl (gN ((va_up G (56 + dk) (tk + 1)))))), (aB, .inl (cI, 128, .inl (gN B))), (aH, .inl (cI, 1024, .inl (gN Hi))), (aS, .inl (cI, 128, .inl (gN Sv))), (aI, .inl (cI, 60, .inl (gN In))), (aL, .inl (cC, 40, .inl (gN Le))), (aT, .inl (cI, 360, .inl To))] H := hP
          exact nv_retM hq hx hb hr hlocks (nar_i _) (by unfold vSet; simp only [et_dk, et_tk, et_t1]; rw [if_neg (fun q => q.elim (fun z => z c1) (fun q => q.2 c5)), if_neg (fun q => c7 ((nI_eq (by omega) (by omega)).mp (q.trans nI_succ1)))]; rfl) hS hP (by unfold vSet; simp only [et_dk, et_tk, et_t1]; rw [if_neg (fun q => q.elim (fun z => z c1) (fun q => q.2 c5)), if_neg (fun q => c7 ((nI_eq (by omega) (by omega)).mp (q.trans nI_succ1)))]; rfl) dX7_sets_71
        · refine lv_aload_n hx hb dX7_sets_42 rfl (lv_at hl 0 rfl) ?_
          refine lv_iconst (v := nI 2) hx hb dX7_sets_43 (by decide) ?_
          refine lv_iload_n hx hb dX7_sets_44 rfl (lv_at hl 2 rfl) ?_
          refine lv_iconst (v := nI 2) hx hb dX7_sets_45 (by decide) ?_
          refine nv_kM (va_runV (As := [.int (nI 2), .int (nI tk), .int (nI 2)]) (rest := []) ⟨hx, hb, hml, hown, hts⟩ (c_X7_refused l hD 2 (nI (tk)) 2) (cwV 3 hts gX7_sets_X7_refused rfl rfl rfl (by decide +kernel) ⟨Nat.le_of_ble_eq_true rfl, Nat.le_of_ble_eq_true rfl⟩) (nv_pV hK hP (va_recv hK.1 hP (ci := 9) (q0 := 0) rfl rfl)) rfl rfl hl.1 rfl (lv_room (Nat.le_of_ble_eq_true rfl)) dX7_sets_46 ⟨Nat.zero_le _, Nat.zero_le _⟩) hS (fun H locs hP hS => ?_)
          have hP : va_P D vwCl [(h, .inr (9, [.ref aG, .ref aB, .ref aH, .int (nI ch), .ref aS, .int (nI hs), .ref aI, .int (nI ty), .int ea, .int ra, .int (nI 2), .int (nI (tk)), .ref aL, .int (nI ln), .int (nI 2), .int (nI sp), .int (nI iw), .ref aT])), (aG, .inl (cI, 128, .inl (gN G))), (aB, .inl (cI, 128, .inl (gN B))), (aH, .inl (cI, 1024, .inl (gN Hi))), (aS, .inl (cI, 128, .inl (gN Sv))), (aI, .inl (cI, 60, .inl (gN In))), (aL, .inl (cC, 40, .inl (gN Le))), (aT, .inl (cI, 360, .inl To))] H := hP
          exact nv_retM hq hx hb hr hlocks (nar_i _) (by unfold vSet; simp only [et_dk, et_tk, et_t1]; rw [if_neg (fun q => q.elim (fun z => z c1) (fun q => q.2 c5)), if_pos ((congrArg nI c7).trans nI_succ1.symm)]; rfl) hS hP (by unfold vSet; simp only [et_dk, et_tk, et_t1]; rw [if_neg (fun q => q.elim (fun z => z c1) (fun q => q.2 c5)), if_pos ((congrArg nI c7).trans nI_succ1.symm)]; rfl) dX7_sets_49
      · refine lv_aload_n hx hb dX7_sets_21 rfl (lv_at hl 0 rfl) ?_
        refine lv_iconst (v := nI 1) hx hb dX7_sets_22 (by decide) ?_
        refine nv_kM (va_runV (As := [.int (nI 1)]) (rest := []) ⟨hx, hb, hml, hown, hts⟩ (c_X7_fails l hD 1) (cwV 1 hts gX7_sets_X7_fails rfl rfl rfl (by decide +kernel) ⟨Nat.le_of_ble_eq_true rfl, Nat.le_of_ble_eq_true rfl⟩) (nv_pV hK hP (va_recv hK.1 hP (ci := 9) (q0 := 0) rfl rfl)) rfl rfl hl.1 rfl (lv_room (Nat.le_of_ble_eq_true rfl)) dX7_sets_23 ⟨Nat.zero_le _, Nat.zero_le _⟩) hS (fun H locs hP hS => ?_)
        have hP : va_P D vwCl [(h, .inr (9, [.ref aG, .ref aB, .ref aH, .int (nI ch), .ref aS, .int (nI hs), .ref aI, .int (nI ty), .int ea, .int ra, .int (nI wy), .int wd, .ref aL, .int (nI ln), .int (nI 1), .int (nI sp), .int (nI iw), .ref aT])), (aG, .inl (cI, 128, .inl (gN G))), (aB, .inl (cI, 128, .inl (gN B))), (aH, .inl (cI, 1024, .inl (gN Hi))), (aS, .inl (cI, 128, .inl (gN Sv))), (aI, .inl (cI, 60, .inl (gN In))), (aL, .inl (cC, 40, .inl (gN Le))), (aT, .inl (cI, 360, .inl To))] H := hP
        exact nv_retM hq hx hb hr hlocks (nar_i _) (by unfold vSet; simp only [et_dk]; rw [if_pos (Or.inr ⟨c2, c5⟩)]; rfl) hS hP (by unfold vSet; simp only [et_dk]; rw [if_pos (Or.inr ⟨c2, c5⟩)]; rfl) dX7_sets_26
