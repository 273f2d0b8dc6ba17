theorem nv_z01 {z : Nat} (h : z ≤ 1) : nI (if z = 0 then 0 else 1) = nI z := by
  rcases (show z = 0 ∨ z = 1 by omega) with rfl | rfl <;> rfl
theorem nv_z10 {z : Nat} (h : z ≤ 1) : nI (if z = 0 then 0 else 1) = nI z := nv_z01 h
theorem gWay_hit {G : Nat → Nat} {a b n : Nat} (hn : ∀ j, j < n → ¬ gIt G (-1) (1 <<< a) j >>> b &&& 1 = 1) (h : ¬ gIt G (-1) (1 <<< a) n >>> b &&& 1 = 0) (h6 : n < 6) : gWay G a b = n :=
  fd_some hn (by have := Nat.and_one_is_mod (gIt G (-1) (1 <<< a) n >>> b); omega) h6
theorem gWay_none {G : Nat → Nat} {a b : Nat} (hn : ∀ j, j < 6 → ¬ gIt G (-1) (1 <<< a) j >>> b &&& 1 = 1) : gWay G a b = 6 := fd_none hn
theorem gBb_ne {G : Nat → Nat} {r : Nat} : ∀ d, d ≤ 8 → (gBb G r d = -1 ∨ ∃ k, k < d ∧ gBb G r d = nI k)
  | 0, _ => Or.inl rfl
  | d + 1, h => by
    unfold gBb
    split
    · rcases gBb_ne d (by omega) with h1 | ⟨k, h1, h2⟩
      · exact Or.inl h1
      · exact Or.inr ⟨k, by omega, h2⟩
    · exact Or.inr ⟨d, by omega, rfl⟩
def gRk (G : Nat → Nat) (k : Nat) (x : Int32) : Nat := fd (fun d => nI (gRank G k d) = x) (G 0)

set_option maxHeartbeats 1000000 in
set_option maxRecDepth 100000 in
theorem c_X7_areAlike (l : Launch) {D : va_G} {cI cC : ClassId} {h aG aB aH aS aI aL aT : Nat} {G B Hi Sv In Le : Nat → Nat} {To : Nat → Int32} {ch hs ty wy ln th sp iw : Nat} {ea ra wd : Int32} {A : Nat → Prop} (hD : ∀ (G B Hi Sv In Le : Nat → Nat) (To : Nat → Int32) (fs : List Value), va_D A [(h, .inr (9, fs)), (aG, .inl (cI, 128, .inl (gN G))), (aB, .inl (cI, 128, .inl (gN B))), (aH, .inl (cI, 1024, .inl (gN Hi))), (aS, .inl (cI, 128, .inl (gN Sv))), (aI, .inl (cI, 60, .inl (gN In))), (aL, .inl (cC, 40, .inl (gN Le))), (aT, .inl (cI, 360, .inl To))]) {b : Nat} (hG : gWf b G) (a d : Int32) (z : Nat) : Met l yX7_areAlike wsX7_areAlike ({ frames := 3, cells := 0, slots := 0, locals := 65 }) (va_Pc [.ref h, .int a, .int d, .int (nI z)] (sPre D [(cI, .int), (cC, .char)] [] (fun H => va_P D vwCl [(h, .inr (9, [.ref aG, .ref aB, .ref aH, .int (nI ch), .ref aS, .int (nI hs), .ref aI, .int (nI ty), .int ea, .int ra, .int (nI wy), .int wd, .ref aL, .int (nI ln), .int (nI th), .int (nI sp), .int (nI iw), .ref aT])), (aG, .inl (cI, 128, .inl (gN G))), (aB, .inl (cI, 128, .inl (gN B))), (aH, .inl (cI, 1024, .inl (gN Hi))), (aS, .inl (cI, 128, .inl (gN Sv))), (aI, .inl (cI, 60, .inl (gN In))), (aL, .inl (cC, 40, .inl (gN Le))), (aT, .inl (cI, 360, .inl To))] H))) (mQ D (nI (bI ((iR a (G 0) ∧ iR d (G 0)) ∧ gAlike G (tN a) (tN d)))) [(h, .inr (9, [.ref aG, .ref aB, .ref aH, .int (nI ch), .ref aS, .int (nI hs), .ref aI, .int (nI ty), .int ea, .int ra, .int (nI wy), .int wd, .ref aL, .int (nI ln), .int (nI ((if iR a (G 0) ∧ iR d (G 0) then 0 else 1))), .int (nI sp), .int (nI iw), .ref aT])), (aG, .inl (cI, 128, .inl (gN G))), (aB, .inl (cI, 128, .inl (gN B))), (aH, .inl (cI, 1024, .inl (gN Hi))), (aS, .inl (cI, 128, .inl (gN Sv))), (aI, .inl (cI, 60, .inl (gN In))), (aL, .inl (cC, 40, .inl (gN Le))), (aT, .inl (cI, 360, .inl To))] A) 0 0 A := by
  refine nv_met (cc := cX7_areAlike) (maxL := 4) (ret := (some .boolean)) (by decide) rfl (Nat.le_of_ble_eq_true rfl) ?_
  intro p0 e0 s m0 args below meth c0 Q hq hargs hnA hpre ls hl
  obtain ⟨hx, hb, hr, hts, hown, hlocks, hml⟩ := hnA
  obtain ⟨hP, hK⟩ := hpre
  have hown : s.vm.findClass RX7 = some m0.cls := hown
  have hP : va_P D vwCl [(h, .inr (9, [.ref aG, .ref aB, .ref aH, .int (nI ch), .ref aS, .int (nI hs), .ref aI, .int (nI ty), .int ea, .int ra, .int (nI wy), .int wd, .ref aL, .int (nI ln), .int (nI th), .int (nI sp), .int (nI iw), .ref aT])), (aG, .inl (cI, 128, .inl (gN G))), (aB, .inl (cI, 128, .inl (gN B))), (aH, .inl (cI, 1024, .inl (gN Hi))), (aS, .inl (cI, 128, .inl (gN Sv))), (aI, .inl (cI, 60, .inl (gN In))), (aL, .inl (cC, 40, .inl (gN Le))), (aT, .inl (cI, 360, .inl To))] s.heap := hP
  have hl : lv_has ls 4 [(0, .ref h), (1, .int a), (2, .int d), (3, .int (nI z))] := hl
  have hS : va_S A s.heap s.heap [] := va_S.rf
  have in_X7 : ∀ w ∈ wsX70, w ∈ wsX7_areAlike := by decide +kernel
  have fl_42 := hts (.fieldLink RX7 42 "DoorDialectModel" "thrown" "I") (by decide +kernel)
  obtain ⟨g_b, g_k, g_0, g_1, g_2, g_e, g_d, g_t, g_y, g_s, g_h⟩ := id hG
  refine lv_aload_n hx hb dX7_areAlike_0 rfl (lv_at hl 0 rfl) ?_
  refine lv_aload_n hx hb dX7_areAlike_1 rfl (lv_at hl 0 rfl) ?_
  refine lv_iload_n hx hb dX7_areAlike_2 rfl (lv_at hl 1 rfl) ?_
  refine nv_kS (va_runV (As := [.int a]) (rest := [.ref h]) ⟨hx, hb, hml, hown, hts⟩ (c_X7_isDoor l (a) (by omega)) (cwV 1 hts gX7_areAlike_X7_isDoor rfl rfl rfl (by decide +kernel) ⟨Nat.le_of_ble_eq_true rfl, Nat.le_of_ble_eq_true rfl⟩) (nv_pV hK hP (va_recv hK.1 hP (ci := 9) (q0 := 0) rfl rfl)) rfl rfl hl.1 rfl (lv_room (Nat.le_of_ble_eq_true rfl)) dX7_areAlike_3 ⟨Nat.zero_le _, Nat.zero_le _⟩) ?_
  refine nv_ifb_eq (tgt := 21) hx hb dX7_areAlike_6 (by decide) (fun c1 => ?_) (fun c1 => ?_)
  · refine lv_iconst (v := nI 1) hx hb dX7_areAlike_21 (by decide) ?_
    refine va_put (D := D) (ci := 9) (v := .int (nI 1)) (ty := .int) (C := RX7) (T := TX7) (N := 18) hx hb hts in_X7 tyX7 tyX7_ok nmX7 hown hK.1 hP (hD _ _ _ _ _ _ _ _) hS 0 rfl rfl 14 (by decide) fl_42 (fun _ h9 => h9) rfl (by decide +kernel) rfl rfl (Nat.le_of_ble_eq_true rfl) dX7_areAlike_22 (fun H locs hP _ hS => ?_)
    have hP : va_P D vwCl [(h, .inr (9, [.ref aG, .ref aB, .ref aH, .int (nI ch), .ref aS, .int (nI hs), .ref aI, .int (nI ty), .int ea, .int ra, .int (nI wy), .int wd, .ref aL, .int (nI ln), .int (nI 1), .int (nI sp), .int (nI iw), .ref aT])), (aG, .inl (cI, 128, .inl (gN G))), (aB, .inl (cI, 128, .inl (gN B))), (aH, .inl (cI, 1024, .inl (gN Hi))), (aS, .inl (cI, 128, .inl (gN Sv))), (aI, .inl (cI, 60, .inl (gN In))), (aL, .inl (cC, 40, .inl (gN Le))), (aT, .inl (cI, 360, .inl To))] H := hP
    refine lv_aload_n hx hb dX7_areAlike_25 rfl (lv_at hl 0 rfl) ?_
    refine va_get (D := D) (ci := 9) (v := .int (nI 1)) (C := RX7) (T := TX7) (N := 18) hx hb hts in_X7 hown hK.1 hP 0 rfl rfl 14 (by decide) fl_42 (fun _ h9 => h9) rfl dX7_areAlike_26 ?_
    refine nv_if_ne (tgt := 45) hx hb dX7_areAlike_29 (by decide) (by omega) (fun c2 => ?_) (fun c2 => ?_)
    · refine lv_iconst (v := nI 0) hx hb dX7_areAlike_45 (by decide) ?_
      exact nv_retM hq hx hb hr hlocks (nar_z (by omega)) (nv_in0 (fun q => c1 q.1.1)) hS hP (by rw [if_neg (fun q => c1 q.1)]) dX7_areAlike_46
    · exact absurd c2 (by decide)
  · obtain ⟨ak, h_ak, rfl⟩ := iR_of c1 (by omega)
    have et_ak : tN (nI ak) = ak := tN_nI (by omega)
    refine lv_aload_n hx hb dX7_areAlike_9 rfl (lv_at hl 0 rfl) ?_
    refine lv_iload_n hx hb dX7_areAlike_10 rfl (lv_at hl 2 rfl) ?_
    refine nv_kS (va_runV (As := [.int d]) (rest := [.ref h]) ⟨hx, hb, hml, hown, hts⟩ (c_X7_isDoor l (d) (by omega)) (cwV 1 hts gX7_areAlike_X7_isDoor rfl rfl rfl (by decide +kernel) ⟨Nat.le_of_ble_eq_true rfl, Nat.le_of_ble_eq_true rfl⟩) (nv_pV hK hP (va_recv hK.1 hP (ci := 9) (q0 := 0) rfl rfl)) rfl rfl hl.1 rfl (lv_room (Nat.le_of_ble_eq_true rfl)) dX7_areAlike_11 ⟨Nat.zero_le _, Nat.zero_le _⟩) ?_
    refine nv_ifb_eq (tgt := 21) hx hb dX7_areAlike_14 (by decide) (fun c3 => ?_) (fun c3 => ?_)
    · refine lv_iconst (v := nI 1) hx hb dX7_areAlike_21 (by decide) ?_
      refine va_put (D := D) (ci := 9) (v := .int (nI 1)) (ty := .int) (C := RX7) (T := TX7) (N := 18) hx hb hts in_X7 tyX7 tyX7_ok nmX7 hown hK.1 hP (hD _ _ _ _ _ _ _ _) hS 0 rfl rfl 14 (by decide) fl_42 (fun _ h9 => h9) rfl (by decide +kernel) rfl rfl (Nat.le_of_ble_eq_true rfl) dX7_areAlike_22 (fun H locs hP _ hS => ?_)
      have hP : va_P D vwCl [(h, .inr (9, [.ref aG, .ref aB, .ref aH, .int (nI ch), .ref aS, .int (nI hs), .ref aI, .int (nI ty), .int ea, .int ra, .int (nI wy), .int wd, .ref aL, .int (nI ln), .int (nI 1), .int (nI sp), .int (nI iw), .ref aT])), (aG, .inl (cI, 128, .inl (gN G))), (aB, .inl (cI, 128, .inl (gN B))), (aH, .inl (cI, 1024, .inl (gN Hi))), (aS, .inl (cI, 128, .inl (gN Sv))), (aI, .inl (cI, 60, .inl (gN In))), (aL, .inl (cC, 40, .inl (gN Le))), (aT, .inl (cI, 360, .inl To))] H := hP
      refine lv_aload_n hx hb dX7_areAlike_25 rfl (lv_at hl 0 rfl) ?_
      refine va_get (D := D) (ci := 9) (v := .int (nI 1)) (C := RX7) (T := TX7) (N := 18) hx hb hts in_X7 hown hK.1 hP 0 rfl rfl 14 (by decide) fl_42 (fun _ h9 => h9) rfl dX7_areAlike_26 ?_
      refine nv_if_ne (tgt := 45) hx hb dX7_areAlike_29 (by decide) (by omega) (fun c4 => ?_) (fun c4 => ?_)
      · refine lv_iconst (v := nI 0) hx hb dX7_areAlike_45 (by decide) ?_
        exact nv_retM hq hx hb hr hlocks (nar_z (by omega)) (nv_in0 (fun q => c3 q.1.2)) hS hP (by rw [if_neg (fun q => c3 q.2)]) dX7_areAlike_46
      · exact absurd c4 (by decide)
    · obtain ⟨dk, h_dk, rfl⟩ := iR_of c3 (by omega)
      have et_dk : tN (nI dk) = dk := tN_nI (by omega)
      refine lv_iconst (v := nI 0) hx hb dX7_areAlike_17 (by decide) ?_
      refine lv_goto (tgt := 22) hx hb dX7_areAlike_18 (by decide) ?_
      refine va_put (D := D) (ci := 9) (v := .int (nI 0)) (ty := .int) (C := RX7) (T := TX7) (N := 18) hx hb hts in_X7 tyX7 tyX7_ok nmX7 hown hK.1 hP (hD _ _ _ _ _ _ _ _) hS 0 rfl rfl 14 (by decide) fl_42 (fun _ h9 => h9) rfl (by decide +kernel) rfl rfl (Nat.le_of_ble_eq_true rfl) dX7_areAlike_22 (fun H locs hP _ hS => ?_)
      have hP : va_P D vwCl [(h, .inr (9, [.ref aG, .ref aB, .ref aH, .int (nI ch), .ref aS, .int (nI hs), .ref aI, .int (nI ty), .int ea, .int ra, .int (nI wy), .int wd, .ref aL, .int (nI ln), .int (nI 0), .int (nI sp), .int (nI iw), .ref aT])), (aG, .inl (cI, 128, .inl (gN G))), (aB, .inl (cI, 128, .inl (gN B))), (aH, .inl (cI, 1024, .inl (gN Hi))), (aS, .inl (cI, 128, .inl (gN Sv))), (aI, .inl (cI, 60, .inl (gN In))), (aL, .inl (cC, 40, .inl (gN Le))), (aT, .inl (cI, 360, .inl To))] H := hP
      refine lv_aload_n hx hb dX7_areAlike_25 rfl (lv_at hl 0 rfl) ?_
      refine va_get (D := D) (ci := 9) (v := .int (nI 0)) (C := RX7) (T := TX7) (N := 18) hx hb hts in_X7 hown hK.1 hP 0 rfl rfl 14 (by decide) fl_42 (fun _ h9 => h9) rfl dX7_areAlike_26 ?_
      refine nv_if_ne (tgt := 45) hx hb dX7_areAlike_29 (by decide) (by omega) (fun c5 => ?_) (fun c5 => ?_)
      · exact absurd c5 (by decide)
      · refine lv_aload_n hx hb dX7_areAlike_32 rfl (lv_at hl 0 rfl) ?_
        refine lv_iload_n hx hb dX7_areAlike_33 rfl (lv_at hl 1 rfl) ?_
        refine lv_iload_n hx hb dX7_areAlike_34 rfl (lv_at hl 2 rfl) ?_
        refine nv_kS (va_runV (As := [.int (nI ak), .int (nI dk)]) (rest := []) ⟨hx, hb, hml, hown, hts⟩ (c_X7_isAlike l hG ak dk (by omega) (by omega)) (cwV 2 hts gX7_areAlike_X7_isAlike rfl rfl rfl (by decide +kernel) ⟨Nat.le_of_ble_eq_true rfl, Nat.le_of_ble_eq_true rfl⟩) (nv_pV hK hP (va_recv hK.1 hP (ci := 9) (q0 := 0) rfl rfl)) rfl rfl hl.1 rfl (lv_room (Nat.le_of_ble_eq_true rfl)) dX7_areAlike_35 ⟨Nat.zero_le _, Nat.zero_le _⟩) ?_
        refine nv_jn (α := Nat) (fun r => W p0 l e0 ({ frames := 3, cells := 0, slots := 0, locals := 65 }) s m0 args below meth c0 H locs 0 0 Q (F0 m0 46 ls (.int (nI r) :: []))) (bI (gAlike G ak dk)) (fun r er => ?_) (fun hJ => ?_)
        · subst er
          exact nv_retM hq hx hb hr hlocks (nar_zb _) (congrArg nI (bI_congr ⟨fun q => ⟨⟨c1, c3⟩, by rw [et_ak, et_dk]; exact q⟩, fun q => by have q2 := q.2; rw [et_ak, et_dk] at q2; exact q2⟩)) hS hP (by rw [if_pos ⟨c1, c3⟩]) dX7_areAlike_46
        · refine nv_ifb_eq (tgt := 45) hx hb dX7_areAlike_38 (by decide) (fun c6 => ?_) (fun c6 => ?_)
          · refine lv_iconst (v := nI 0) hx hb dX7_areAlike_45 (by decide) ?_
            exact hJ _ (bI_f c6).symm
          · refine lv_iconst (v := nI 1) hx hb dX7_areAlike_41 (by decide) ?_
            refine lv_goto (tgt := 46) hx hb dX7_areAlike_42 (by decide) ?_
            exact hJ _ (bI_t c6).symm

set_option maxHeartbeats 1000000 in
set_option maxRecDepth 100000 in
theorem c_X7_ending (l : Launch) {D : va_G} {cI cC : ClassId} {h aG aB aH aS aI aL aT : Nat} {G B Hi Sv In Le : Nat → Nat} {To : Nat → Int32} {ch hs ty wy ln th sp iw : Nat} {ea ra wd : Int32} {A : Nat → Prop} (hD : ∀ (G B Hi Sv In Le : Nat → Nat) (To : Nat → Int32) (fs : List Value), va_D A [(h, .inr (9, fs)), (aG, .inl (cI, 128, .inl (gN G))), (aB, .inl (cI, 128, .inl (gN B))), (aH, .inl (cI, 1024, .inl (gN Hi))), (aS, .inl (cI, 128, .inl (gN Sv))), (aI, .inl (cI, 60, .inl (gN In))), (aL, .inl (cC, 40, .inl (gN Le))), (aT, .inl (cI, 360, .inl To))]) {b : Nat} (hG : gWf b G) (a c : Int32) (z : Nat) (hz : z ≤ 1) : Met l yX7_ending wsX7_ending ({ frames := 2, cells := 0, slots := 0, locals := 42 }) (va_Pc [.ref h, .int a, .int c, .int (nI z)] (sPre D [(cI, .int), (cC, .char)] [] (fun H => va_P D vwCl [(h, .inr (9, [.ref aG, .ref aB, .ref aH, .int (nI ch), .ref aS, .int (nI hs), .ref aI, .int (nI ty), .int ea, .int ra, .int (nI wy), .int wd, .ref aL, .int (nI ln), .int (nI th), .int (nI sp), .int (nI iw), .ref aT])), (aG, .inl (cI, 128, .inl (gN G))), (aB, .inl (cI, 128, .inl (gN B))), (aH, .inl (cI, 1024, .inl (gN Hi))), (aS, .inl (cI, 128, .inl (gN Sv))), (aI, .inl (cI, 60, .inl (gN In))), (aL, .inl (cC, 40, .inl (gN Le))), (aT, .inl (cI, 360, .inl To))] H))) (mQ D ((if iR a 3 ∧ iR c 4 then nI (97 + G (gEndAt (tN a) (tN c) z)) else 0)) [(h, .inr (9, [.ref aG, .ref aB, .ref aH, .int (nI ch), .ref aS, .int (nI hs), .ref aI, .int (nI ty), .int ea, .int ra, .int (nI wy), .int wd, .ref aL, .int (nI ln), .int (nI ((if iR a 3 ∧ iR c 4 then 0 else 1))), .int (nI sp), .int (nI iw), .ref aT])), (aG, .inl (cI, 128, .inl (gN G))), (aB, .inl (cI, 128, .inl (gN B))), (aH, .inl (cI, 1024, .inl (gN Hi))), (aS, .inl (cI, 128, .inl (gN Sv))), (aI, .inl (cI, 60, .inl (gN In))), (aL, .inl (cC, 40, .inl (gN Le))), (aT, .inl (cI, 360, .inl To))] A) 0 0 A := by
  refine nv_met (cc := cX7_ending) (maxL := 4) (ret := (some .char)) (by decide) rfl (Nat.le_of_ble_eq_true rfl) ?_
  intro p0 e0 s m0 args below meth c0 Q hq hargs hnA hpre ls hl
  obtain ⟨hx, hb, hr, hts, hown, hlocks, hml⟩ := hnA
  obtain ⟨hP, hK⟩ := hpre
  have hown : s.vm.findClass RX7 = some m0.cls := hown
  have hP : va_P D vwCl [(h, .inr (9, [.ref aG, .ref aB, .ref aH, .int (nI ch), .ref aS, .int (nI hs), .ref aI, .int (nI ty), .int ea, .int ra, .int (nI wy), .int wd, .ref aL, .int (nI ln), .int (nI th), .int (nI sp), .int (nI iw), .ref aT])), (aG, .inl (cI, 128, .inl (gN G))), (aB, .inl (cI, 128, .inl (gN B))), (aH, .inl (cI, 1024, .inl (gN Hi))), (aS, .inl (cI, 128, .inl (gN Sv))), (aI, .inl (cI, 60, .inl (gN In))), (aL, .inl (cC, 40, .inl (gN Le))), (aT, .inl (cI, 360, .inl To))] s.heap := hP
  have hl : lv_has ls 4 [(0, .ref h), (1, .int a), (2, .int c), (3, .int (nI z))] := hl
  have hS : va_S A s.heap s.heap [] := va_S.rf
  have in_X7 : ∀ w ∈ wsX70, w ∈ wsX7_ending := by decide +kernel
  have fl_7 := hts (.fieldLink RX7 7 "DoorDialectModel" "g" "[I") (by decide +kernel)
  have fl_42 := hts (.fieldLink RX7 42 "DoorDialectModel" "thrown" "I") (by decide +kernel)
  obtain ⟨g_b, g_k, g_0, g_1, g_2, g_e, g_d, g_t, g_y, g_s, g_h⟩ := id hG
  refine lv_aload_n hx hb dX7_ending_0 rfl (lv_at hl 0 rfl) ?_
  refine lv_iload_n hx hb dX7_ending_1 rfl (lv_at hl 1 rfl) ?_
  refine nv_kS (va_runS (As := [.int a]) (rest := [.ref h]) ⟨hx, hb, hml, hown, hts⟩ (c_X7_isThird l (a)) (va_cwS 1 hts gX7_ending_X7_isThird rfl rfl rfl (by decide +kernel) ⟨Nat.le_of_ble_eq_true rfl, Nat.le_of_ble_eq_true rfl⟩) (nv_pS hK trivial) rfl rfl hl.1 rfl (lv_room (Nat.le_of_ble_eq_true rfl)) dX7_ending_2 ⟨Nat.zero_le _, Nat.zero_le _⟩) ?_
  refine nv_ifb_eq (tgt := 19) hx hb dX7_ending_5 (by decide) (fun c1 => ?_) (fun c1 => ?_)
  · refine lv_iconst (v := nI 1) hx hb dX7_ending_19 (by decide) ?_
    refine va_put (D := D) (ci := 9) (v := .int (nI 1)) (ty := .int) (C := RX7) (T := TX7) (N := 18) hx hb hts in_X7 tyX7 tyX7_ok nmX7 hown hK.1 hP (hD _ _ _ _ _ _ _ _) hS 0 rfl rfl 14 (by decide) fl_42 (fun _ h9 => h9) rfl (by decide +kernel) rfl rfl (Nat.le_of_ble_eq_true rfl) dX7_ending_20 (fun H locs hP _ hS => ?_)
    have hP : va_P D vwCl [(h, .inr (9, [.ref aG, .ref aB, .ref aH, .int (nI ch), .ref aS, .int (nI hs), .ref aI, .int (nI ty), .int ea, .int ra, .int (nI wy), .int wd, .ref aL, .int (nI ln), .int (nI 1), .int (nI sp), .int (nI iw), .ref aT])), (aG, .inl (cI, 128, .inl (gN G))), (aB, .inl (cI, 128, .inl (gN B))), (aH, .inl (cI, 1024, .inl (gN Hi))), (aS, .inl (cI, 128, .inl (gN Sv))), (aI, .inl (cI, 60, .inl (gN In))), (aL, .inl (cC, 40, .inl (gN Le))), (aT, .inl (cI, 360, .inl To))] H := hP
    refine lv_aload_n hx hb dX7_ending_23 rfl (lv_at hl 0 rfl) ?_
    refine va_get (D := D) (ci := 9) (v := .int (nI 1)) (C := RX7) (T := TX7) (N := 18) hx hb hts in_X7 hown hK.1 hP 0 rfl rfl 14 (by decide) fl_42 (fun _ h9 => h9) rfl dX7_ending_24 ?_
    refine nv_if_ne (tgt := 56) hx hb dX7_ending_27 (by decide) (by omega) (fun c2 => ?_) (fun c2 => ?_)
    · refine lv_iconst (v := nI 0) hx hb dX7_ending_56 (by decide) ?_
      exact nv_retM hq hx hb hr hlocks (nar_c (by omega)) (by rw [if_neg (fun q => c1 q.1)] <;> rfl) hS hP (by rw [if_neg (fun q => c1 q.1)]) dX7_ending_57
    · exact absurd c2 (by decide)
  · obtain ⟨ak, h_ak, rfl⟩ := iR_of c1 (by decide)
    have et_ak : tN (nI ak) = ak := tN_nI (by omega)
    refine lv_iload_n hx hb dX7_ending_8 rfl (lv_at hl 2 rfl) ?_
    refine nv_kS (va_runS (As := [.int c]) (rest := [.ref h]) ⟨hx, hb, hml, hown, hts⟩ (c_X7_isCase l (c)) (va_cwS 1 hts gX7_ending_X7_isCase rfl rfl rfl (by decide +kernel) ⟨Nat.le_of_ble_eq_true rfl, Nat.le_of_ble_eq_true rfl⟩) (nv_pS hK trivial) rfl rfl hl.1 rfl (lv_room (Nat.le_of_ble_eq_true rfl)) dX7_ending_9 ⟨Nat.zero_le _, Nat.zero_le _⟩) ?_
    refine nv_ifb_eq (tgt := 19) hx hb dX7_ending_12 (by decide) (fun c3 => ?_) (fun c3 => ?_)
    · refine lv_iconst (v := nI 1) hx hb dX7_ending_19 (by decide) ?_
      refine va_put (D := D) (ci := 9) (v := .int (nI 1)) (ty := .int) (C := RX7) (T := TX7) (N := 18) hx hb hts in_X7 tyX7 tyX7_ok nmX7 hown hK.1 hP (hD _ _ _ _ _ _ _ _) hS 0 rfl rfl 14 (by decide) fl_42 (fun _ h9 => h9) rfl (by decide +kernel) rfl rfl (Nat.le_of_ble_eq_true rfl) dX7_ending_20 (fun H locs hP _ hS => ?_)
      have hP : va_P D vwCl [(h, .inr (9, [.ref aG, .ref aB, .ref aH, .int (nI ch), .ref aS, .int (nI hs), .ref aI, .int (nI ty), .int ea, .int ra, .int (nI wy), .int wd, .ref aL, .int (nI ln), .int (nI 1), .int (nI sp), .int (nI iw), .ref aT])), (aG, .inl (cI, 128, .inl (gN G))), (aB, .inl (cI, 128, .inl (gN B))), (aH, .inl (cI, 1024, .inl (gN Hi))), (aS, .inl (cI, 128, .inl (gN Sv))), (aI, .inl (cI, 60, .inl (gN In))), (aL, .inl (cC, 40, .inl (gN Le))), (aT, .inl (cI, 360, .inl To))] H := hP
      refine lv_aload_n hx hb dX7_ending_23 rfl (lv_at hl 0 rfl) ?_
      refine va_get (D := D) (ci := 9) (v := .int (nI 1)) (C := RX7) (T := TX7) (N := 18) hx hb hts in_X7 hown hK.1 hP 0 rfl rfl 14 (by decide) fl_42 (fun _ h9 => h9) rfl dX7_ending_24 ?_
      refine nv_if_ne (tgt := 56) hx hb dX7_ending_27 (by decide) (by omega) (fun c4 => ?_) (fun c4 => ?_)
      · refine lv_iconst (v := nI 0) hx hb dX7_ending_56 (by decide) ?_
        exact nv_retM hq hx hb hr hlocks (nar_c (by omega)) (by rw [if_neg (fun q => c3 q.2)] <;> rfl) hS hP (by rw [if_neg (fun q => c3 q.2)]) dX7_ending_57
      · exact absurd c4 (by decide)
    · obtain ⟨ck, h_ck, rfl⟩ := iR_of c3 (by decide)
      have et_ck : tN (nI ck) = ck := tN_nI (by omega)
      have g_at := gEnds_le hG h_ak hz _ h_ck
      refine lv_iconst (v := nI 0) hx hb dX7_ending_15 (by decide) ?_
      refine lv_goto (tgt := 20) hx hb dX7_ending_16 (by decide) ?_
      refine va_put (D := D) (ci := 9) (v := .int (nI 0)) (ty := .int) (C := RX7) (T := TX7) (N := 18) hx hb hts in_X7 tyX7 tyX7_ok nmX7 hown hK.1 hP (hD _ _ _ _ _ _ _ _) hS 0 rfl rfl 14 (by decide) fl_42 (fun _ h9 => h9) rfl (by decide +kernel) rfl rfl (Nat.le_of_ble_eq_true rfl) dX7_ending_20 (fun H locs hP _ hS => ?_)
      have hP : va_P D vwCl [(h, .inr (9, [.ref aG, .ref aB, .ref aH, .int (nI ch), .ref aS, .int (nI hs), .ref aI, .int (nI ty), .int ea, .int ra, .int (nI wy), .int wd, .ref aL, .int (nI ln), .int (nI 0), .int (nI sp), .int (nI iw), .ref aT])), (aG, .inl (cI, 128, .inl (gN G))), (aB, .inl (cI, 128, .inl (gN B))), (aH, .inl (cI, 1024, .inl (gN Hi))), (aS, .inl (cI, 128, .inl (gN Sv))), (aI, .inl (cI, 60, .inl (gN In))), (aL, .inl (cC, 40, .inl (gN Le))), (aT, .inl (cI, 360, .inl To))] H := hP
      refine lv_aload_n hx hb dX7_ending_23 rfl (lv_at hl 0 rfl) ?_
      refine va_get (D := D) (ci := 9) (v := .int (nI 0)) (C := RX7) (T := TX7) (N := 18) hx hb hts in_X7 hown hK.1 hP 0 rfl rfl 14 (by decide) fl_42 (fun _ h9 => h9) rfl dX7_ending_24 ?_
      refine nv_if_ne (tgt := 56) hx hb dX7_ending_27 (by decide) (by omega) (fun c5 => ?_) (fun c5 => ?_)
      · exact absurd c5 (by decide)
      · refine lv_bipush (v := nI 97) hx hb dX7_ending_30 (by decide) ?_
        refine lv_aload_n hx hb dX7_ending_32 rfl (lv_at hl 0 rfl) ?_
        refine va_get (D := D) (ci := 9) (v := .ref aG) (C := RX7) (T := TX7) (N := 18) hx hb hts in_X7 hown hK.1 hP 0 rfl rfl 0 (by decide) fl_7 (fun _ h9 => h9) rfl dX7_ending_33 ?_
        refine lv_iload_n hx hb dX7_ending_36 rfl (lv_at hl 1 rfl) ?_
        refine lv_iload_n hx hb dX7_ending_37 rfl (lv_at hl 2 rfl) ?_
        refine lv_iload_n hx hb dX7_ending_38 rfl (lv_at hl 3 rfl) ?_
        refine nv_jn (α := Nat) (fun r => W p0 l e0 ({ frames := 2, cells := 0, slots := 0, locals := 42 }) s m0 args below meth c0 H locs 0 0 Q (F0 m0 47 ls (.int (nI r) :: [.int (nI ck), .int (nI ak), .ref aG, .int (nI 97)]))) ((if z = 0 then 0 else 1)) (fun r er => ?_) (fun hJ => ?_)
        · subst er
          refine nv_to z (nv_z01 hz) ?_
          refine nv_kS (va_runS (As := [.int (nI ak), .int (nI ck), .int (nI z)]) (rest := [.ref aG, .int (nI 97)]) ⟨hx, hb, hml, hown, hts⟩ (c_X7_endingAt l ak ck z) (va_cwS 3 hts gX7_ending_X7_endingAt rfl rfl rfl (by decide +kernel) ⟨Nat.le_of_ble_eq_true rfl, Nat.le_of_ble_eq_true rfl⟩) (nv_pS hK trivial) rfl rfl hl.1 rfl (lv_room (Nat.le_of_ble_eq_true rfl)) dX7_ending_47 ⟨Nat.zero_le _, Nat.zero_le _⟩) ?_
          refine nv_gald (i := gEndAt ak ck z) hx hb hK.1 hP 1 0 rfl rfl (by simp only [gEndAt]; omega) (by decide) dX7_ending_50 ?_
          have q7 : G (gEndAt ak ck z) < 2 ^ 20 := hG.lt (k := gEndAt ak ck z) (by simp only [gEndAt]; omega)
          refine nv_iadd hx hb dX7_ending_51 ?_
          refine lv_i2c (v := nI (97 + (G (gEndAt ak ck z)))) hx hb dX7_ending_52 (nv_i2c (by omega)) ?_
          refine lv_goto (tgt := 57) hx hb dX7_ending_53 (by decide) ?_
          exact nv_retM hq hx hb hr hlocks (nar_c (by omega)) (by rw [if_pos ⟨c1, c3⟩, et_ak, et_ck]) hS hP (by rw [if_pos ⟨c1, c3⟩]) dX7_ending_57
        · refine nv_if_eq (tgt := 46) hx hb dX7_ending_39 (by decide) (by omega) (fun c6 => ?_) (fun c6 => ?_)
          · refine lv_iconst (v := nI 0) hx hb dX7_ending_46 (by decide) ?_
            exact hJ _ (if_pos c6).symm
          · refine lv_iconst (v := nI 1) hx hb dX7_ending_42 (by decide) ?_
            refine lv_goto (tgt := 47) hx hb dX7_ending_43 (by decide) ?_
            exact hJ _ (if_neg c6).symm

set_option maxHeartbeats 1000000 in
set_option maxRecDepth 100000 in
theorem c_X7_syncretic (l : Launch) {D : va_G} {cI cC : ClassId} {h aG aB aH aS aI aL aT : Nat} {G B Hi Sv In Le : Nat → Nat} {To : Nat → Int32} {ch hs ty wy ln th sp iw : Nat} {ea ra wd : Int32} {A : Nat → Prop} (hD : ∀ (G B Hi Sv In Le : Nat → Nat) (To : Nat → Int32) (fs : List Value), va_D A [(h, .inr (9, fs)), (aG, .inl (cI, 128, .inl (gN G))), (aB, .inl (cI, 128, .inl (gN B))), (aH, .inl (cI, 1024, .inl (gN Hi))), (aS, .inl (cI, 128, .inl (gN Sv))), (aI, .inl (cI, 60, .inl (gN In))), (aL, .inl (cC, 40, .inl (gN Le))), (aT, .inl (cI, 360, .inl To))]) {b : Nat} (hG : gWf b G) (a : Int32) : Met l yX7_syncretic wsX7_syncretic ({ frames := 2, cells := 0, slots := 0, locals := 42 }) (va_Pc [.ref h, .int a] (sPre D [(cI, .int), (cC, .char)] [] (fun H => va_P D vwCl [(h, .inr (9, [.ref aG, .ref aB, .ref aH, .int (nI ch), .ref aS, .int (nI hs), .ref aI, .int (nI ty), .int ea, .int ra, .int (nI wy), .int wd, .ref aL, .int (nI ln), .int (nI th), .int (nI sp), .int (nI iw), .ref aT])), (aG, .inl (cI, 128, .inl (gN G))), (aB, .inl (cI, 128, .inl (gN B))), (aH, .inl (cI, 1024, .inl (gN Hi))), (aS, .inl (cI, 128, .inl (gN Sv))), (aI, .inl (cI, 60, .inl (gN In))), (aL, .inl (cC, 40, .inl (gN Le))), (aT, .inl (cI, 360, .inl To))] H))) (mQ D ((if iR a 3 then nI (gSyn G (tN a)) else 0)) [(h, .inr (9, [.ref aG, .ref aB, .ref aH, .int (nI ch), .ref aS, .int (nI hs), .ref aI, .int (nI ty), .int ea, .int ra, .int (nI wy), .int wd, .ref aL, .int (nI ln), .int (nI ((if iR a 3 then 0 else 1))), .int (nI sp), .int (nI iw), .ref aT])), (aG, .inl (cI, 128, .inl (gN G))), (aB, .inl (cI, 128, .inl (gN B))), (aH, .inl (cI, 1024, .inl (gN Hi))), (aS, .inl (cI, 128, .inl (gN Sv))), (aI, .inl (cI, 60, .inl (gN In))), (aL, .inl (cC, 40, .inl (gN Le))), (aT, .inl (cI, 360, .inl To))] A) 0 0 A := by
  refine nv_met (cc := cX7_syncretic) (maxL := 5) (ret := (some .int)) (by decide) rfl (Nat.le_of_ble_eq_true rfl) ?_
  intro p0 e0 s m0 args below meth c0 Q hq hargs hnA hpre ls hl
  obtain ⟨hx, hb, hr, hts, hown, hlocks, hml⟩ := hnA
  obtain ⟨hP, hK⟩ := hpre
  have hown : s.vm.findClass RX7 = some m0.cls := hown
  have hP : va_P D vwCl [(h, .inr (9, [.ref aG, .ref aB, .ref aH, .int (nI ch), .ref aS, .int (nI hs), .ref aI, .int (nI ty), .int ea, .int ra, .int (nI wy), .int wd, .ref aL, .int (nI ln), .int (nI th), .int (nI sp), .int (nI iw), .ref aT])), (aG, .inl (cI, 128, .inl (gN G))), (aB, .inl (cI, 128, .inl (gN B))), (aH, .inl (cI, 1024, .inl (gN Hi))), (aS, .inl (cI, 128, .inl (gN Sv))), (aI, .inl (cI, 60, .inl (gN In))), (aL, .inl (cC, 40, .inl (gN Le))), (aT, .inl (cI, 360, .inl To))] s.heap := hP
  have hl : lv_has ls 5 [(0, .ref h), (1, .int a)] := hl
  have hS : va_S A s.heap s.heap [] := va_S.rf
  have in_X7 : ∀ w ∈ wsX70, w ∈ wsX7_syncretic := by decide +kernel
  have fl_7 := hts (.fieldLink RX7 7 "DoorDialectModel" "g" "[I") (by decide +kernel)
  obtain ⟨g_b, g_k, g_0, g_1, g_2, g_e, g_d, g_t, g_y, g_s, g_h⟩ := id hG
  refine lv_iload_n hx hb dX7_syncretic_0 rfl (lv_at hl 1 rfl) ?_
  refine nv_kS (va_runS (As := [.int a]) (rest := []) ⟨hx, hb, hml, hown, hts⟩ (c_X7_isThird l (a)) (va_cwS 1 hts gX7_syncretic_X7_isThird rfl rfl rfl (by decide +kernel) ⟨Nat.le_of_ble_eq_true rfl, Nat.le_of_ble_eq_true rfl⟩) (nv_pS hK trivial) rfl rfl hl.1 rfl (lv_room (Nat.le_of_ble_eq_true rfl)) dX7_syncretic_1 ⟨Nat.zero_le _, Nat.zero_le _⟩) ?_
  refine nv_ifb_ne (tgt := 13) hx hb dX7_syncretic_4 (by decide) (fun c1 => ?_) (fun c1 => ?_)
  · obtain ⟨ak, h_ak, rfl⟩ := iR_of c1 (by decide)
    have et_ak : tN (nI ak) = ak := tN_nI (by omega)
    refine lv_iconst (v := nI 0) hx hb dX7_syncretic_13 (by decide) ?_
    refine lv_istore_n (lv' := [(2, .int (nI 0)), (0, .ref h), (1, .int (nI ak))]) hx hb dX7_syncretic_14 rfl hl (by decide) rfl (fun ls hl => ?_)
    refine lv_iconst (v := nI 0) hx hb dX7_syncretic_15 (by decide) ?_
    refine lv_istore_n (lv' := [(3, .int (nI 0)), (2, .int (nI 0)), (0, .ref h), (1, .int (nI ak))]) hx hb dX7_syncretic_16 rfl hl (by decide) rfl (fun ls hl => ?_)
    have hloop2 : ∀ (nn : Nat) (i : Nat) (y : Nat), (i ≤ 4) → (y = sm (fun i => gSyn1 G ak i i) i) → 4 - i < nn → ∀ (H : Heap) (locs : List Loc), va_P D vwCl [(h, .inr (9, [.ref aG, .ref aB, .ref aH, .int (nI ch), .ref aS, .int (nI hs), .ref aI, .int (nI ty), .int ea, .int ra, .int (nI wy), .int wd, .ref aL, .int (nI ln), .int (nI th), .int (nI sp), .int (nI iw), .ref aT])), (aG, .inl (cI, 128, .inl (gN G))), (aB, .inl (cI, 128, .inl (gN B))), (aH, .inl (cI, 1024, .inl (gN Hi))), (aS, .inl (cI, 128, .inl (gN Sv))), (aI, .inl (cI, 60, .inl (gN In))), (aL, .inl (cC, 40, .inl (gN Le))), (aT, .inl (cI, 360, .inl To))] H → va_S A s.heap H locs → ∀ (ls : Array Slot), lv_has ls 5 [(3, .int (nI i)), (2, .int (nI y)), (0, .ref h), (1, .int (nI ak))] → W p0 l e0 ({ frames := 2, cells := 0, slots := 0, locals := 42 }) s m0 args below meth c0 H locs 0 0 Q (F0 m0 17 ls []) := by
      intro nn17
      induction nn17 with
      | zero => intro i y hi hy hn0 _ _ _ _ _ _; exact absurd hn0 (Nat.not_lt_zero _)
      | succ nn17 ih17 =>
        intro i y hi hy hn17 H locs hP hS ls hl
        have hP : va_P D vwCl [(h, .inr (9, [.ref aG, .ref aB, .ref aH, .int (nI ch), .ref aS, .int (nI hs), .ref aI, .int (nI ty), .int ea, .int ra, .int (nI wy), .int wd, .ref aL, .int (nI ln), .int (nI th), .int (nI sp), .int (nI iw), .ref aT])), (aG, .inl (cI, 128, .inl (gN G))), (aB, .inl (cI, 128, .inl (gN B))), (aH, .inl (cI, 1024, .inl (gN Hi))), (aS, .inl (cI, 128, .inl (gN Sv))), (aI, .inl (cI, 60, .inl (gN In))), (aL, .inl (cC, 40, .inl (gN Le))), (aT, .inl (cI, 360, .inl To))] H := hP
        refine lv_iload_n hx hb dX7_syncretic_17 rfl (lv_at hl 0 rfl) ?_
        refine lv_iconst (v := nI 4) hx hb dX7_syncretic_18 (by decide) ?_
        refine nv_icmp_ge (tgt := 111) hx hb dX7_syncretic_19 (by decide) (by omega) (by omega) (fun c3 => ?_) (fun c3 => ?_)
        · refine lv_aload_n hx hb dX7_syncretic_111 rfl (lv_at hl 2 rfl) ?_
          refine lv_iload_n hx hb dX7_syncretic_112 rfl (lv_at hl 1 rfl) ?_
          refine nv_kM (va_runV (As := [.int (nI y)]) (rest := []) ⟨hx, hb, hml, hown, hts⟩ (c_X7_done l hD (nI (y))) (cwV 1 hts gX7_syncretic_X7_done rfl rfl rfl (by decide +kernel) ⟨Nat.le_of_ble_eq_true rfl, Nat.le_of_ble_eq_true rfl⟩) (nv_pV hK hP (va_recv hK.1 hP (ci := 9) (q0 := 0) rfl rfl)) rfl rfl hl.1 rfl (lv_room (Nat.le_of_ble_eq_true rfl)) dX7_syncretic_113 ⟨Nat.zero_le _, Nat.zero_le _⟩) hS (fun H locs hP hS => ?_)
          have hP : va_P D vwCl [(h, .inr (9, [.ref aG, .ref aB, .ref aH, .int (nI ch), .ref aS, .int (nI hs), .ref aI, .int (nI ty), .int ea, .int ra, .int (nI wy), .int wd, .ref aL, .int (nI ln), .int (nI 0), .int (nI sp), .int (nI iw), .ref aT])), (aG, .inl (cI, 128, .inl (gN G))), (aB, .inl (cI, 128, .inl (gN B))), (aH, .inl (cI, 1024, .inl (gN Hi))), (aS, .inl (cI, 128, .inl (gN Sv))), (aI, .inl (cI, 60, .inl (gN In))), (aL, .inl (cC, 40, .inl (gN Le))), (aT, .inl (cI, 360, .inl To))] H := hP
          exact nv_retM hq hx hb hr hlocks (nar_i _) (by rw [if_pos c1, et_ak]; rw [hy, show i = 4 by omega] <;> rfl) hS hP (by rw [if_pos c1]) dX7_syncretic_116
        · refine lv_iconst (v := nI 0) hx hb dX7_syncretic_22 (by decide) ?_
          refine lv_istore (lv' := [(4, .int (nI 0)), (3, .int (nI i)), (2, .int (nI y)), (0, .ref h), (1, .int (nI ak))]) hx hb dX7_syncretic_23 hl (by decide) rfl (fun ls hl => ?_)
          have hloop4 : ∀ (nn : Nat) (j : Nat) (t : Nat), (j ≤ i) → (t = sm (fun i => gSyn1 G ak i i) i + gSyn1 G ak i j) → i - j < nn → ∀ (H : Heap) (locs : List Loc), va_P D vwCl [(h, .inr (9, [.ref aG, .ref aB, .ref aH, .int (nI ch), .ref aS, .int (nI hs), .ref aI, .int (nI ty), .int ea, .int ra, .int (nI wy), .int wd, .ref aL, .int (nI ln), .int (nI th), .int (nI sp), .int (nI iw), .ref aT])), (aG, .inl (cI, 128, .inl (gN G))), (aB, .inl (cI, 128, .inl (gN B))), (aH, .inl (cI, 1024, .inl (gN Hi))), (aS, .inl (cI, 128, .inl (gN Sv))), (aI, .inl (cI, 60, .inl (gN In))), (aL, .inl (cC, 40, .inl (gN Le))), (aT, .inl (cI, 360, .inl To))] H → va_S A s.heap H locs → ∀ (ls : Array Slot), lv_has ls 5 [(4, .int (nI j)), (3, .int (nI i)), (2, .int (nI t)), (0, .ref h), (1, .int (nI ak))] → W p0 l e0 ({ frames := 2, cells := 0, slots := 0, locals := 42 }) s m0 args below meth c0 H locs 0 0 Q (F0 m0 25 ls []) := by
            intro nn25
            induction nn25 with
            | zero => intro j t hj ht hn0 _ _ _ _ _ _; exact absurd hn0 (Nat.not_lt_zero _)
            | succ nn25 ih25 =>
              intro j t hj ht hn25 H locs hP hS ls hl
              have hP : va_P D vwCl [(h, .inr (9, [.ref aG, .ref aB, .ref aH, .int (nI ch), .ref aS, .int (nI hs), .ref aI, .int (nI ty), .int ea, .int ra, .int (nI wy), .int wd, .ref aL, .int (nI ln), .int (nI th), .int (nI sp), .int (nI iw), .ref aT])), (aG, .inl (cI, 128, .inl (gN G))), (aB, .inl (cI, 128, .inl (gN B))), (aH, .inl (cI, 1024, .inl (gN Hi))), (aS, .inl (cI, 128, .inl (gN Sv))), (aI, .inl (cI, 60, .inl (gN In))), (aL, .inl (cC, 40, .inl (gN Le))), (aT, .inl (cI, 360, .inl To))] H := hP
              refine lv_iload hx hb dX7_syncretic_25 (lv_at hl 0 rfl) ?_
              refine lv_iload_n hx hb dX7_syncretic_27 rfl (lv_at hl 1 rfl) ?_
              refine nv_icmp_ge (tgt := 105) hx hb dX7_syncretic_28 (by decide) (by omega) (by omega) (fun c5 => ?_) (fun c5 => ?_)
              · refine lv_iinc (v := nI (i + 1)) (lv' := [(3, .int (nI (i + 1))), (4, .int (nI j)), (2, .int (nI t)), (0, .ref h), (1, .int (nI ak))]) hx hb dX7_syncretic_105 hl (k := 1) rfl (by show nI _ + Int32.ofInt 1 = _; exact nI_add _ 1) (by decide) rfl (fun ls hl => ?_)
                refine lv_goto (tgt := 17) hx hb dX7_syncretic_108 (by decide) ?_
                exact ih17  (i + 1) t ((by omega)) ((by rw [ht, show j = i by omega]; rfl)) (by omega) _ _ hP hS ls (lv_sub hl [0, 2, 3, 4] rfl)
              · refine lv_iload_n hx hb dX7_syncretic_31 rfl (lv_at hl 2 rfl) ?_
                refine lv_aload_n hx hb dX7_syncretic_32 rfl (lv_at hl 3 rfl) ?_
                refine va_get (D := D) (ci := 9) (v := .ref aG) (C := RX7) (T := TX7) (N := 18) hx hb hts in_X7 hown hK.1 hP 0 rfl rfl 0 (by decide) fl_7 (fun _ h9 => h9) rfl dX7_syncretic_33 ?_
                refine lv_iload_n hx hb dX7_syncretic_36 rfl (lv_at hl 4 rfl) ?_
                refine lv_iload_n hx hb dX7_syncretic_37 rfl (lv_at hl 1 rfl) ?_
                refine lv_iconst (v := nI 0) hx hb dX7_syncretic_38 (by decide) ?_
                refine nv_kS (va_runS (As := [.int (nI ak), .int (nI i), .int (nI 0)]) (rest := [.ref aG, .int (nI t)]) ⟨hx, hb, hml, hown, hts⟩ (c_X7_endingAt l ak i 0) (va_cwS 3 hts gX7_syncretic_X7_endingAt rfl rfl rfl (by decide +kernel) ⟨Nat.le_of_ble_eq_true rfl, Nat.le_of_ble_eq_true rfl⟩) (nv_pS hK trivial) rfl rfl hl.1 rfl (lv_room (Nat.le_of_ble_eq_true rfl)) dX7_syncretic_39 ⟨Nat.zero_le _, Nat.zero_le _⟩) ?_
                refine nv_gald (i := gEndAt ak i 0) hx hb hK.1 hP 1 0 rfl rfl (by simp only [gEndAt]; omega) (by decide) dX7_syncretic_42 ?_
                have q6 : G (gEndAt ak i 0) < 2 ^ 20 := hG.lt (k := gEndAt ak i 0) (by simp only [gEndAt]; omega)
                refine lv_aload_n hx hb dX7_syncretic_43 rfl (lv_at hl 3 rfl) ?_
                refine va_get (D := D) (ci := 9) (v := .ref aG) (C := RX7) (T := TX7) (N := 18) hx hb hts in_X7 hown hK.1 hP 0 rfl rfl 0 (by decide) fl_7 (fun _ h9 => h9) rfl dX7_syncretic_44 ?_
                refine lv_iload_n hx hb dX7_syncretic_47 rfl (lv_at hl 4 rfl) ?_
                refine lv_iload hx hb dX7_syncretic_48 (lv_at hl 0 rfl) ?_
                refine lv_iconst (v := nI 0) hx hb dX7_syncretic_50 (by decide) ?_
                refine nv_kS (va_runS (As := [.int (nI ak), .int (nI j), .int (nI 0)]) (rest := [.ref aG, .int (nI (G (gEndAt ak i 0))), .int (nI t)]) ⟨hx, hb, hml, hown, hts⟩ (c_X7_endingAt l ak j 0) (va_cwS 3 hts gX7_syncretic_X7_endingAt rfl rfl rfl (by decide +kernel) ⟨Nat.le_of_ble_eq_true rfl, Nat.le_of_ble_eq_true rfl⟩) (nv_pS hK trivial) rfl rfl hl.1 rfl (lv_room (Nat.le_of_ble_eq_true rfl)) dX7_syncretic_51 ⟨Nat.zero_le _, Nat.zero_le _⟩) ?_
                refine nv_gald (i := gEndAt ak j 0) hx hb hK.1 hP 1 0 rfl rfl (by simp only [gEndAt]; omega) (by decide) dX7_syncretic_54 ?_
                have q7 : G (gEndAt ak j 0) < 2 ^ 20 := hG.lt (k := gEndAt ak j 0) (by simp only [gEndAt]; omega)
                refine nv_jn (α := Nat) (fun r => W p0 l e0 ({ frames := 2, cells := 0, slots := 0, locals := 42 }) s m0 args below meth c0 H locs 0 0 Q (F0 m0 63 ls (.int (nI r) :: [.int (nI t)]))) (bI (G (gEndAt ak i 0) = G (gEndAt ak j 0))) (fun r er => ?_) (fun hJ => ?_)
                · subst er
                  refine nv_iadd hx hb dX7_syncretic_63 ?_
                  refine lv_istore_n (lv' := [(2, .int (nI (t + (bI (G (gEndAt ak i 0) = G (gEndAt ak j 0)))))), (4, .int (nI j)), (3, .int (nI i)), (0, .ref h), (1, .int (nI ak))]) hx hb dX7_syncretic_64 rfl hl (by decide) rfl (fun ls hl => ?_)
                  refine lv_iload_n hx hb dX7_syncretic_65 rfl (lv_at hl 0 rfl) ?_
                  refine lv_aload_n hx hb dX7_syncretic_66 rfl (lv_at hl 3 rfl) ?_
                  refine va_get (D := D) (ci := 9) (v := .ref aG) (C := RX7) (T := TX7) (N := 18) hx hb hts in_X7 hown hK.1 hP 0 rfl rfl 0 (by decide) fl_7 (fun _ h9 => h9) rfl dX7_syncretic_67 ?_
                  refine lv_iload_n hx hb dX7_syncretic_70 rfl (lv_at hl 4 rfl) ?_
                  refine lv_iload_n hx hb dX7_syncretic_71 rfl (lv_at hl 2 rfl) ?_
                  refine lv_iconst (v := nI 1) hx hb dX7_syncretic_72 (by decide) ?_
                  refine nv_kS (va_runS (As := [.int (nI ak), .int (nI i), .int (nI 1)]) (rest := [.ref aG, .int (nI (t + (bI (G (gEndAt ak i 0) = G (gEndAt ak j 0)))))]) ⟨hx, hb, hml, hown, hts⟩ (c_X7_endingAt l ak i 1) (va_cwS 3 hts gX7_syncretic_X7_endingAt rfl rfl rfl (by decide +kernel) ⟨Nat.le_of_ble_eq_true rfl, Nat.le_of_ble_eq_true rfl⟩) (nv_pS hK trivial) rfl rfl hl.1 rfl (lv_room (Nat.le_of_ble_eq_true rfl)) dX7_syncretic_73 ⟨Nat.zero_le _, Nat.zero_le _⟩) ?_
                  refine nv_gald (i := gEndAt ak i 1) hx hb hK.1 hP 1 0 rfl rfl (by simp only [gEndAt]; omega) (by decide) dX7_syncretic_76 ?_
                  have q9 : G (gEndAt ak i 1) < 2 ^ 20 := hG.lt (k := gEndAt ak i 1) (by simp only [gEndAt]; omega)
                  refine lv_aload_n hx hb dX7_syncretic_77 rfl (lv_at hl 3 rfl) ?_
                  refine va_get (D := D) (ci := 9) (v := .ref aG) (C := RX7) (T := TX7) (N := 18) hx hb hts in_X7 hown hK.1 hP 0 rfl rfl 0 (by decide) fl_7 (fun _ h9 => h9) rfl dX7_syncretic_78 ?_
                  refine lv_iload_n hx hb dX7_syncretic_81 rfl (lv_at hl 4 rfl) ?_
                  refine lv_iload hx hb dX7_syncretic_82 (lv_at hl 1 rfl) ?_
                  refine lv_iconst (v := nI 1) hx hb dX7_syncretic_84 (by decide) ?_
                  refine nv_kS (va_runS (As := [.int (nI ak), .int (nI j), .int (nI 1)]) (rest := [.ref aG, .int (nI (G (gEndAt ak i 1))), .int (nI (t + (bI (G (gEndAt ak i 0) = G (gEndAt ak j 0)))))]) ⟨hx, hb, hml, hown, hts⟩ (c_X7_endingAt l ak j 1) (va_cwS 3 hts gX7_syncretic_X7_endingAt rfl rfl rfl (by decide +kernel) ⟨Nat.le_of_ble_eq_true rfl, Nat.le_of_ble_eq_true rfl⟩) (nv_pS hK trivial) rfl rfl hl.1 rfl (lv_room (Nat.le_of_ble_eq_true rfl)) dX7_syncretic_85 ⟨Nat.zero_le _, Nat.zero_le _⟩) ?_
                  refine nv_gald (i := gEndAt ak j 1) hx hb hK.1 hP 1 0 rfl rfl (by simp only [gEndAt]; omega) (by decide) dX7_syncretic_88 ?_
                  have q10 : G (gEndAt ak j 1) < 2 ^ 20 := hG.lt (k := gEndAt ak j 1) (by simp only [gEndAt]; omega)
                  refine nv_jn (α := Nat) (fun r => W p0 l e0 ({ frames := 2, cells := 0, slots := 0, locals := 42 }) s m0 args below meth c0 H locs 0 0 Q (F0 m0 97 ls (.int (nI r) :: [.int (nI (t + (bI (G (gEndAt ak i 0) = G (gEndAt ak j 0)))))]))) (bI (G (gEndAt ak i 1) = G (gEndAt ak j 1))) (fun r er => ?_) (fun hJ => ?_)
                  · subst er
                    refine nv_iadd hx hb dX7_syncretic_97 ?_
                    refine lv_istore_n (lv' := [(2, .int (nI (t + (bI (G (gEndAt ak i 0) = G (gEndAt ak j 0))) + (bI (G (gEndAt ak i 1) = G (gEndAt ak j 1)))))), (4, .int (nI j)), (3, .int (nI i)), (0, .ref h), (1, .int (nI ak))]) hx hb dX7_syncretic_98 rfl hl (by decide) rfl (fun ls hl => ?_)
                    refine lv_iinc (v := nI (j + 1)) (lv' := [(4, .int (nI (j + 1))), (2, .int (nI (t + (bI (G (gEndAt ak i 0) = G (gEndAt ak j 0))) + (bI (G (gEndAt ak i 1) = G (gEndAt ak j 1)))))), (3, .int (nI i)), (0, .ref h), (1, .int (nI ak))]) hx hb dX7_syncretic_99 hl (k := 1) rfl (by show nI _ + Int32.ofInt 1 = _; exact nI_add _ 1) (by decide) rfl (fun ls hl => ?_)
                    refine lv_goto (tgt := 25) hx hb dX7_syncretic_102 (by decide) ?_
                    exact ih25  (j + 1) (t + (bI (G (gEndAt ak i 0) = G (gEndAt ak j 0))) + (bI (G (gEndAt ak i 1) = G (gEndAt ak j 1)))) ((by omega)) ((by rw [ht]; simp only [gSyn1]; omega)) (by omega) _ _ hP hS ls (lv_sub hl [0, 2, 1, 3, 4] rfl)
                  · refine nv_icmp_ne (tgt := 96) hx hb dX7_syncretic_89 (by decide) (by omega) (by omega) (fun c11 => ?_) (fun c11 => ?_)
                    · refine lv_iconst (v := nI 0) hx hb dX7_syncretic_96 (by decide) ?_
                      exact hJ _ (bI_f c11).symm
                    · refine lv_iconst (v := nI 1) hx hb dX7_syncretic_92 (by decide) ?_
                      refine lv_goto (tgt := 97) hx hb dX7_syncretic_93 (by decide) ?_
                      exact hJ _ (bI_t c11).symm
                · refine nv_icmp_ne (tgt := 62) hx hb dX7_syncretic_55 (by decide) (by omega) (by omega) (fun c8 => ?_) (fun c8 => ?_)
                  · refine lv_iconst (v := nI 0) hx hb dX7_syncretic_62 (by decide) ?_
                    exact hJ _ (bI_f c8).symm
                  · refine lv_iconst (v := nI 1) hx hb dX7_syncretic_58 (by decide) ?_
                    refine lv_goto (tgt := 63) hx hb dX7_syncretic_59 (by decide) ?_
                    exact hJ _ (bI_t c8).symm
          exact hloop4 _ 0 y ((Nat.zero_le _)) ((by rw [hy]; rfl)) (Nat.lt_succ_self _) _ _ hP hS ls (lv_sub hl [0, 1, 2, 3, 4] rfl)
    exact hloop2 _ 0 0 ((Nat.zero_le _)) (rfl) (Nat.lt_succ_self _) _ _ hP hS ls (lv_sub hl [0, 1, 2, 3] rfl)
  · refine lv_aload_n hx hb dX7_syncretic_7 rfl (lv_at hl 0 rfl) ?_
    refine lv_iconst (v := nI 1) hx hb dX7_syncretic_8 (by decide) ?_
    refine nv_kM (va_runV (As := [.int (nI 1)]) (rest := []) ⟨hx, hb, hml, hown, hts⟩ (c_X7_fails l hD 1) (cwV 1 hts gX7_syncretic_X7_fails rfl rfl rfl (by decide +kernel) ⟨Nat.le_of_ble_eq_true rfl, Nat.le_of_ble_eq_true rfl⟩) (nv_pV hK hP (va_recv hK.1 hP (ci := 9) (q0 := 0) rfl rfl)) rfl rfl hl.1 rfl (lv_room (Nat.le_of_ble_eq_true rfl)) dX7_syncretic_9 ⟨Nat.zero_le _, Nat.zero_le _⟩) hS (fun H locs hP hS => ?_)
    have hP : va_P D vwCl [(h, .inr (9, [.ref aG, .ref aB, .ref aH, .int (nI ch), .ref aS, .int (nI hs), .ref aI, .int (nI ty), .int ea, .int ra, .int (nI wy), .int wd, .ref aL, .int (nI ln), .int (nI 1), .int (nI sp), .int (nI iw), .ref aT])), (aG, .inl (cI, 128, .inl (gN G))), (aB, .inl (cI, 128, .inl (gN B))), (aH, .inl (cI, 1024, .inl (gN Hi))), (aS, .inl (cI, 128, .inl (gN Sv))), (aI, .inl (cI, 60, .inl (gN In))), (aL, .inl (cC, 40, .inl (gN Le))), (aT, .inl (cI, 360, .inl To))] H := hP
    exact nv_retM hq hx hb hr hlocks (nar_i _) (by rw [if_neg c1] <;> rfl) hS hP (by rw [if_neg c1]) dX7_syncretic_12

theorem nv_a1lt (a : Nat) : a &&& 1 < 2 ^ 31 := by rw [Nat.and_one_is_mod]; omega

theorem nv_a1ne {a : Nat} (h : a &&& 1 = 0) : ¬ a &&& 1 = 1 := by omega

set_option maxHeartbeats 1000000 in
set_option maxRecDepth 100000 in
theorem c_X7_way (l : Launch) {D : va_G} {cI cC : ClassId} {h aG aB aH aS aI aL aT : Nat} {G B Hi Sv In Le : Nat → Nat} {To : Nat → Int32} {ch hs ty wy ln th sp iw : Nat} {ea ra wd : Int32} {A : Nat → Prop} (hD : ∀ (G B Hi Sv In Le : Nat → Nat) (To : Nat → Int32) (fs : List Value), va_D A [(h, .inr (9, fs)), (aG, .inl (cI, 128, .inl (gN G))), (aB, .inl (cI, 128, .inl (gN B))), (aH, .inl (cI, 1024, .inl (gN Hi))), (aS, .inl (cI, 128, .inl (gN Sv))), (aI, .inl (cI, 60, .inl (gN In))), (aL, .inl (cC, 40, .inl (gN Le))), (aT, .inl (cI, 360, .inl To))]) {bb : Nat} (hG : gWf bb G) (a b : Int32) (z : Nat) : Met l yX7_way wsX7_way ({ frames := 2, cells := 0, slots := 0, locals := 42 }) (va_Pc [.ref h, .int a, .int b, .int (nI z)] (sPre D [(cI, .int), (cC, .char)] [] (fun H => va_P D vwCl [(h, .inr (9, [.ref aG, .ref aB, .ref aH, .int (nI ch), .ref aS, .int (nI hs), .ref aI, .int (nI ty), .int ea, .int ra, .int (nI wy), .int wd, .ref aL, .int (nI ln), .int (nI th), .int (nI sp), .int (nI iw), .ref aT])), (aG, .inl (cI, 128, .inl (gN G))), (aB, .inl (cI, 128, .inl (gN B))), (aH, .inl (cI, 1024, .inl (gN Hi))), (aS, .inl (cI, 128, .inl (gN Sv))), (aI, .inl (cI, 60, .inl (gN In))), (aL, .inl (cC, 40, .inl (gN Le))), (aT, .inl (cI, 360, .inl To))] H))) (mQ D ((if iR a 6 ∧ iR b 6 then (if gWay G (tN a) (tN b) < 6 then nI (gWay G (tN a) (tN b)) else 0) else 0)) [(h, .inr (9, [.ref aG, .ref aB, .ref aH, .int (nI ch), .ref aS, .int (nI hs), .ref aI, .int (nI ty), .int ea, .int ra, .int (nI wy), .int wd, .ref aL, .int (nI ln), .int (nI ((if iR a 6 ∧ iR b 6 then (if gWay G (tN a) (tN b) < 6 then 0 else 2) else 1))), .int (nI sp), .int (nI iw), .ref aT])), (aG, .inl (cI, 128, .inl (gN G))), (aB, .inl (cI, 128, .inl (gN B))), (aH, .inl (cI, 1024, .inl (gN Hi))), (aS, .inl (cI, 128, .inl (gN Sv))), (aI, .inl (cI, 60, .inl (gN In))), (aL, .inl (cC, 40, .inl (gN Le))), (aT, .inl (cI, 360, .inl To))] A) 0 0 A := by
  refine nv_met (cc := cX7_way) (maxL := 6) (ret := (some .int)) (by decide) rfl (Nat.le_of_ble_eq_true rfl) ?_
  intro p0 e0 s m0 args below meth c0 Q hq hargs hnA hpre ls hl
  obtain ⟨hx, hb, hr, hts, hown, hlocks, hml⟩ := hnA
  obtain ⟨hP, hK⟩ := hpre
  have hown : s.vm.findClass RX7 = some m0.cls := hown
  have hP : va_P D vwCl [(h, .inr (9, [.ref aG, .ref aB, .ref aH, .int (nI ch), .ref aS, .int (nI hs), .ref aI, .int (nI ty), .int ea, .int ra, .int (nI wy), .int wd, .ref aL, .int (nI ln), .int (nI th), .int (nI sp), .int (nI iw), .ref aT])), (aG, .inl (cI, 128, .inl (gN G))), (aB, .inl (cI, 128, .inl (gN B))), (aH, .inl (cI, 1024, .inl (gN Hi))), (aS, .inl (cI, 128, .inl (gN Sv))), (aI, .inl (cI, 60, .inl (gN In))), (aL, .inl (cC, 40, .inl (gN Le))), (aT, .inl (cI, 360, .inl To))] s.heap := hP
  have hl : lv_has ls 6 [(0, .ref h), (1, .int a), (2, .int b), (3, .int (nI z))] := hl
  have hS : va_S A s.heap s.heap [] := va_S.rf
  obtain ⟨g_b, g_k, g_0, g_1, g_2, g_e, g_d, g_t, g_y, g_s, g_h⟩ := id hG
  refine lv_iload_n hx hb dX7_way_0 rfl (lv_at hl 1 rfl) ?_
  refine nv_kS (va_runS (As := [.int a]) (rest := []) ⟨hx, hb, hml, hown, hts⟩ (c_X7_isRoom l (a)) (va_cwS 1 hts gX7_way_X7_isRoom rfl rfl rfl (by decide +kernel) ⟨Nat.le_of_ble_eq_true rfl, Nat.le_of_ble_eq_true rfl⟩) (nv_pS hK trivial) rfl rfl hl.1 rfl (lv_room (Nat.le_of_ble_eq_true rfl)) dX7_way_1 ⟨Nat.zero_le _, Nat.zero_le _⟩) ?_
  refine nv_ifb_eq (tgt := 14) hx hb dX7_way_4 (by decide) (fun c1 => ?_) (fun c1 => ?_)
  · refine lv_aload_n hx hb dX7_way_14 rfl (lv_at hl 0 rfl) ?_
    refine lv_iconst (v := nI 1) hx hb dX7_way_15 (by decide) ?_
    refine nv_kM (va_runV (As := [.int (nI 1)]) (rest := []) ⟨hx, hb, hml, hown, hts⟩ (c_X7_fails l hD 1) (cwV 1 hts gX7_way_X7_fails rfl rfl rfl (by decide +kernel) ⟨Nat.le_of_ble_eq_true rfl, Nat.le_of_ble_eq_true rfl⟩) (nv_pV hK hP (va_recv hK.1 hP (ci := 9) (q0 := 0) rfl rfl)) rfl rfl hl.1 rfl (lv_room (Nat.le_of_ble_eq_true rfl)) dX7_way_16 ⟨Nat.zero_le _, Nat.zero_le _⟩) hS (fun H locs hP hS => ?_)
    have hP : va_P D vwCl [(h, .inr (9, [.ref aG, .ref aB, .ref aH, .int (nI ch), .ref aS, .int (nI hs), .ref aI, .int (nI ty), .int ea, .int ra, .int (nI wy), .int wd, .ref aL, .int (nI ln), .int (nI 1), .int (nI sp), .int (nI iw), .ref aT])), (aG, .inl (cI, 128, .inl (gN G))), (aB, .inl (cI, 128, .inl (gN B))), (aH, .inl (cI, 1024, .inl (gN Hi))), (aS, .inl (cI, 128, .inl (gN Sv))), (aI, .inl (cI, 60, .inl (gN In))), (aL, .inl (cC, 40, .inl (gN Le))), (aT, .inl (cI, 360, .inl To))] H := hP
    exact nv_retM hq hx hb hr hlocks (nar_i _) (by rw [if_neg (fun q => c1 q.1)] <;> rfl) hS hP (by rw [if_neg (fun q => c1 q.1)]) dX7_way_19
  · obtain ⟨ak, h_ak, rfl⟩ := iR_of c1 (by decide)
    have et_ak : tN (nI ak) = ak := tN_nI (by omega)
    refine lv_iload_n hx hb dX7_way_7 rfl (lv_at hl 2 rfl) ?_
    refine nv_kS (va_runS (As := [.int b]) (rest := []) ⟨hx, hb, hml, hown, hts⟩ (c_X7_isRoom l (b)) (va_cwS 1 hts gX7_way_X7_isRoom rfl rfl rfl (by decide +kernel) ⟨Nat.le_of_ble_eq_true rfl, Nat.le_of_ble_eq_true rfl⟩) (nv_pS hK trivial) rfl rfl hl.1 rfl (lv_room (Nat.le_of_ble_eq_true rfl)) dX7_way_8 ⟨Nat.zero_le _, Nat.zero_le _⟩) ?_
    refine nv_ifb_ne (tgt := 20) hx hb dX7_way_11 (by decide) (fun c2 => ?_) (fun c2 => ?_)
    · obtain ⟨bk, h_bk, rfl⟩ := iR_of c2 (by decide)
      have et_bk : tN (nI bk) = bk := tN_nI (by omega)
      refine lv_iconst (v := nI 1) hx hb dX7_way_20 (by decide) ?_
      refine lv_iload_n hx hb dX7_way_21 rfl (lv_at hl 1 rfl) ?_
      refine lv_ishl hx hb dX7_way_22 ?_
      refine nv_to (1 <<< ak) (nv_1shl (by omega)) ?_
      refine lv_istore (lv' := [(4, .int (nI (1 <<< ak))), (0, .ref h), (1, .int (nI ak)), (2, .int (nI bk)), (3, .int (nI z))]) hx hb dX7_way_23 hl (by decide) rfl (fun ls hl => ?_)
      refine lv_iconst (v := nI 0) hx hb dX7_way_25 (by decide) ?_
      refine lv_istore (lv' := [(5, .int (nI 0)), (4, .int (nI (1 <<< ak))), (0, .ref h), (1, .int (nI ak)), (2, .int (nI bk)), (3, .int (nI z))]) hx hb dX7_way_26 hl (by decide) rfl (fun ls hl => ?_)
      have hloop3 : ∀ (nn : Nat) (n : Nat), (n ≤ 6) → (∀ j, j < n → ¬ gIt G (-1) (1 <<< ak) j >>> bk &&& 1 = 1) → 6 - n < nn → ∀ (H : Heap) (locs : List Loc), va_P D vwCl [(h, .inr (9, [.ref aG, .ref aB, .ref aH, .int (nI ch), .ref aS, .int (nI hs), .ref aI, .int (nI ty), .int ea, .int ra, .int (nI wy), .int wd, .ref aL, .int (nI ln), .int (nI th), .int (nI sp), .int (nI iw), .ref aT])), (aG, .inl (cI, 128, .inl (gN G))), (aB, .inl (cI, 128, .inl (gN B))), (aH, .inl (cI, 1024, .inl (gN Hi))), (aS, .inl (cI, 128, .inl (gN Sv))), (aI, .inl (cI, 60, .inl (gN In))), (aL, .inl (cC, 40, .inl (gN Le))), (aT, .inl (cI, 360, .inl To))] H → va_S A s.heap H locs → ∀ (ls : Array Slot), lv_has ls 6 [(5, .int (nI n)), (4, .int (nI (gIt G (-1) (1 <<< ak) n))), (0, .ref h), (1, .int (nI ak)), (2, .int (nI bk)), (3, .int (nI z))] → W p0 l e0 ({ frames := 2, cells := 0, slots := 0, locals := 42 }) s m0 args below meth c0 H locs 0 0 Q (F0 m0 28 ls []) := by
        intro nn28
        induction nn28 with
        | zero => intro n hn6 hn hn0 _ _ _ _ _ _; exact absurd hn0 (Nat.not_lt_zero _)
        | succ nn28 ih28 =>
          intro n hn6 hn hn28 H locs hP hS ls hl
          have hP : va_P D vwCl [(h, .inr (9, [.ref aG, .ref aB, .ref aH, .int (nI ch), .ref aS, .int (nI hs), .ref aI, .int (nI ty), .int ea, .int ra, .int (nI wy), .int wd, .ref aL, .int (nI ln), .int (nI th), .int (nI sp), .int (nI iw), .ref aT])), (aG, .inl (cI, 128, .inl (gN G))), (aB, .inl (cI, 128, .inl (gN B))), (aH, .inl (cI, 1024, .inl (gN Hi))), (aS, .inl (cI, 128, .inl (gN Sv))), (aI, .inl (cI, 60, .inl (gN In))), (aL, .inl (cC, 40, .inl (gN Le))), (aT, .inl (cI, 360, .inl To))] H := hP
          have hz := gIt_lt hG (shl1_lt h_ak) (-1) n
          refine lv_iload hx hb dX7_way_28 (lv_at hl 0 rfl) ?_
          refine lv_bipush (v := nI 6) hx hb dX7_way_30 (by decide) ?_
          refine nv_icmp_ge (tgt := 59) hx hb dX7_way_32 (by decide) (by first | omega | exact nv_a1lt _) (by first | omega | exact nv_a1lt _) (fun c4 => ?_) (fun c4 => ?_)
          · refine lv_iload hx hb dX7_way_59 (lv_at hl 0 rfl) ?_
            refine lv_bipush (v := nI 6) hx hb dX7_way_61 (by decide) ?_
            refine nv_icmp_ne (tgt := 74) hx hb dX7_way_63 (by decide) (by first | omega | exact nv_a1lt _) (by first | omega | exact nv_a1lt _) (fun c5 => ?_) (fun c5 => ?_)
            · exfalso; omega
            · refine lv_aload_n hx hb dX7_way_66 rfl (lv_at hl 2 rfl) ?_
              refine lv_iconst (v := nI 2) hx hb dX7_way_67 (by decide) ?_
              refine nv_kM (va_runV (As := [.int (nI 2)]) (rest := []) ⟨hx, hb, hml, hown, hts⟩ (c_X7_fails l hD 2) (cwV 1 hts gX7_way_X7_fails rfl rfl rfl (by decide +kernel) ⟨Nat.le_of_ble_eq_true rfl, Nat.le_of_ble_eq_true rfl⟩) (nv_pV hK hP (va_recv hK.1 hP (ci := 9) (q0 := 0) rfl rfl)) rfl rfl hl.1 rfl (lv_room (Nat.le_of_ble_eq_true rfl)) dX7_way_68 ⟨Nat.zero_le _, Nat.zero_le _⟩) hS (fun H locs hP hS => ?_)
              have hP : va_P D vwCl [(h, .inr (9, [.ref aG, .ref aB, .ref aH, .int (nI ch), .ref aS, .int (nI hs), .ref aI, .int (nI ty), .int ea, .int ra, .int (nI wy), .int wd, .ref aL, .int (nI ln), .int (nI 2), .int (nI sp), .int (nI iw), .ref aT])), (aG, .inl (cI, 128, .inl (gN G))), (aB, .inl (cI, 128, .inl (gN B))), (aH, .inl (cI, 1024, .inl (gN Hi))), (aS, .inl (cI, 128, .inl (gN Sv))), (aI, .inl (cI, 60, .inl (gN In))), (aL, .inl (cC, 40, .inl (gN Le))), (aT, .inl (cI, 360, .inl To))] H := hP
              refine lv_goto (tgt := 80) hx hb dX7_way_71 (by decide) ?_
              exact nv_retM hq hx hb hr hlocks (nar_i _) (by rw [if_pos ⟨c1, c2⟩, et_ak, et_bk, show gWay G ak bk = 6 from (gWay_none (fun j hj => hn j (by omega))), if_neg (by decide)]; rfl) hS hP (by rw [if_pos ⟨c1, c2⟩, et_ak, et_bk, show gWay G ak bk = 6 from (gWay_none (fun j hj => hn j (by omega))), if_neg (by decide)]) dX7_way_80
          · refine lv_iload hx hb dX7_way_35 (lv_at hl 1 rfl) ?_
            refine lv_iload_n hx hb dX7_way_37 rfl (lv_at hl 4 rfl) ?_
            refine lv_ishr hx hb dX7_way_38 ?_
            refine nv_to ((gIt G (-1) (1 <<< ak) n) >>> bk) (nb_shr (by omega) (by omega)) ?_
            refine lv_iconst (v := nI 1) hx hb dX7_way_39 (by decide) ?_
            refine lv_iand hx hb dX7_way_40 ?_
            refine nv_to ((gIt G (-1) (1 <<< ak) n) >>> bk &&& 1) (nb_and1 (nv_shlt (by omega))) ?_
            refine nv_if_ne (tgt := 59) hx hb dX7_way_41 (by decide) (by first | omega | exact nv_a1lt _) (fun c6 => ?_) (fun c6 => ?_)
            · refine lv_iload hx hb dX7_way_59 (lv_at hl 0 rfl) ?_
              refine lv_bipush (v := nI 6) hx hb dX7_way_61 (by decide) ?_
              refine nv_icmp_ne (tgt := 74) hx hb dX7_way_63 (by decide) (by first | omega | exact nv_a1lt _) (by first | omega | exact nv_a1lt _) (fun c7 => ?_) (fun c7 => ?_)
              · refine lv_aload_n hx hb dX7_way_74 rfl (lv_at hl 2 rfl) ?_
                refine lv_iload hx hb dX7_way_75 (lv_at hl 0 rfl) ?_
                refine nv_kM (va_runV (As := [.int (nI n)]) (rest := []) ⟨hx, hb, hml, hown, hts⟩ (c_X7_done l hD (nI (n))) (cwV 1 hts gX7_way_X7_done rfl rfl rfl (by decide +kernel) ⟨Nat.le_of_ble_eq_true rfl, Nat.le_of_ble_eq_true rfl⟩) (nv_pV hK hP (va_recv hK.1 hP (ci := 9) (q0 := 0) rfl rfl)) rfl rfl hl.1 rfl (lv_room (Nat.le_of_ble_eq_true rfl)) dX7_way_77 ⟨Nat.zero_le _, Nat.zero_le _⟩) hS (fun H locs hP hS => ?_)
                have hP : va_P D vwCl [(h, .inr (9, [.ref aG, .ref aB, .ref aH, .int (nI ch), .ref aS, .int (nI hs), .ref aI, .int (nI ty), .int ea, .int ra, .int (nI wy), .int wd, .ref aL, .int (nI ln), .int (nI 0), .int (nI sp), .int (nI iw), .ref aT])), (aG, .inl (cI, 128, .inl (gN G))), (aB, .inl (cI, 128, .inl (gN B))), (aH, .inl (cI, 1024, .inl (gN Hi))), (aS, .inl (cI, 128, .inl (gN Sv))), (aI, .inl (cI, 60, .inl (gN In))), (aL, .inl (cC, 40, .inl (gN Le))), (aT, .inl (cI, 360, .inl To))] H := hP
                exact nv_retM hq hx hb hr hlocks (nar_i _) (by rw [if_pos ⟨c1, c2⟩, et_ak, et_bk, show gWay G ak bk = n from (gWay_hit hn c6 (by omega)), if_pos (by omega)]) hS hP (by rw [if_pos ⟨c1, c2⟩, et_ak, et_bk, show gWay G ak bk = n from (gWay_hit hn c6 (by omega)), if_pos (by omega)]) dX7_way_80
              · exfalso; omega
            · refine lv_aload_n hx hb dX7_way_44 rfl (lv_at hl 2 rfl) ?_
              refine lv_iload hx hb dX7_way_45 (lv_at hl 1 rfl) ?_
              refine lv_iconst (v := (-1)) hx hb dX7_way_47 (by decide) ?_
              refine nv_kS (va_runV (As := [.int (nI (gIt G (-1) (1 <<< ak) n)), .int ((-1))]) (rest := []) ⟨hx, hb, hml, hown, hts⟩ (c_X7_next l hG (gIt G (-1) (1 <<< ak) n) ((-1)) hz) (cwV 2 hts gX7_way_X7_next rfl rfl rfl (by decide +kernel) ⟨Nat.le_of_ble_eq_true rfl, Nat.le_of_ble_eq_true rfl⟩) (nv_pV hK hP (va_recv hK.1 hP (ci := 9) (q0 := 0) rfl rfl)) rfl rfl hl.1 rfl (lv_room (Nat.le_of_ble_eq_true rfl)) dX7_way_48 ⟨Nat.zero_le _, Nat.zero_le _⟩) ?_
              refine lv_istore (lv' := [(4, .int (nI (gNx G (gIt G (-1) (1 <<< ak) n) ((-1)) (G 0)))), (5, .int (nI n)), (0, .ref h), (1, .int (nI ak)), (2, .int (nI bk)), (3, .int (nI z))]) hx hb dX7_way_51 hl (by decide) rfl (fun ls hl => ?_)
              refine lv_iinc (v := nI (n + 1)) (lv' := [(5, .int (nI (n + 1))), (4, .int (nI (gNx G (gIt G (-1) (1 <<< ak) n) ((-1)) (G 0)))), (0, .ref h), (1, .int (nI ak)), (2, .int (nI bk)), (3, .int (nI z))]) hx hb dX7_way_53 hl (k := 1) rfl (by show nI _ + Int32.ofInt 1 = _; exact nI_add _ 1) (by decide) rfl (fun ls hl => ?_)
              refine lv_goto (tgt := 28) hx hb dX7_way_56 (by decide) ?_
              exact ih28  (n + 1) ((by omega)) ((fun j hj => by rcases (show j < n ∨ j = n by omega) with h | h; exact hn j h; subst h; exact nv_a1ne c6)) (by omega) _ _ hP hS ls (lv_sub hl [0, 1, 2, 3, 4, 5] rfl)
      exact hloop3 _ 0 ((Nat.zero_le _)) ((fun j hj => absurd hj (Nat.not_lt_zero j))) (Nat.lt_succ_self _) _ _ hP hS ls (lv_sub hl [0, 1, 2, 3, 4, 5] rfl)
    · refine lv_aload_n hx hb dX7_way_14 rfl (lv_at hl 0 rfl) ?_
      refine lv_iconst (v := nI 1) hx hb dX7_way_15 (by decide) ?_
      refine nv_kM (va_runV (As := [.int (nI 1)]) (rest := []) ⟨hx, hb, hml, hown, hts⟩ (c_X7_fails l hD 1) (cwV 1 hts gX7_way_X7_fails rfl rfl rfl (by decide +kernel) ⟨Nat.le_of_ble_eq_true rfl, Nat.le_of_ble_eq_true rfl⟩) (nv_pV hK hP (va_recv hK.1 hP (ci := 9) (q0 := 0) rfl rfl)) rfl rfl hl.1 rfl (lv_room (Nat.le_of_ble_eq_true rfl)) dX7_way_16 ⟨Nat.zero_le _, Nat.zero_le _⟩) hS (fun H locs hP hS => ?_)
      have hP : va_P D vwCl [(h, .inr (9, [.ref aG, .ref aB, .ref aH, .int (nI ch), .ref aS, .int (nI hs), .ref aI, .int (nI ty), .int ea, .int ra, .int (nI wy), .int wd, .ref aL, .int (nI ln), .int (nI 1), .int (nI sp), .int (nI iw), .ref aT])), (aG, .inl (cI, 128, .inl (gN G))), (aB, .inl (cI, 128, .inl (gN B))), (aH, .inl (cI, 1024, .inl (gN Hi))), (aS, .inl (cI, 128, .inl (gN Sv))), (aI, .inl (cI, 60, .inl (gN In))), (aL, .inl (cC, 40, .inl (gN Le))), (aT, .inl (cI, 360, .inl To))] H := hP
      exact nv_retM hq hx hb hr hlocks (nar_i _) (by rw [if_neg (fun q => c2 q.2)] <;> rfl) hS hP (by rw [if_neg (fun q => c2 q.2)]) dX7_way_19

set_option maxHeartbeats 1000000 in
set_option maxRecDepth 100000 in
theorem c_X7_best (l : Launch) {D : va_G} {cI cC : ClassId} {h aG aB aH aS aI aL aT : Nat} {G B Hi Sv In Le : Nat → Nat} {To : Nat → Int32} {ch hs ty wy ln th sp iw : Nat} {ea ra wd : Int32} {A : Nat → Prop} (hD : ∀ (G B Hi Sv In Le : Nat → Nat) (To : Nat → Int32) (fs : List Value), va_D A [(h, .inr (9, fs)), (aG, .inl (cI, 128, .inl (gN G))), (aB, .inl (cI, 128, .inl (gN B))), (aH, .inl (cI, 1024, .inl (gN Hi))), (aS, .inl (cI, 128, .inl (gN Sv))), (aI, .inl (cI, 60, .inl (gN In))), (aL, .inl (cC, 40, .inl (gN Le))), (aT, .inl (cI, 360, .inl To))]) {b : Nat} (hG : gWf b G) (r : Int32) : Met l yX7_best wsX7_best ({ frames := 2, cells := 0, slots := 0, locals := 48 }) (va_Pc [.ref h, .int r] (sPre D [(cI, .int), (cC, .char)] [] (fun H => va_P D vwCl [(h, .inr (9, [.ref aG, .ref aB, .ref aH, .int (nI ch), .ref aS, .int (nI hs), .ref aI, .int (nI ty), .int ea, .int ra, .int (nI wy), .int wd, .ref aL, .int (nI ln), .int (nI th), .int (nI sp), .int (nI iw), .ref aT])), (aG, .inl (cI, 128, .inl (gN G))), (aB, .inl (cI, 128, .inl (gN B))), (aH, .inl (cI, 1024, .inl (gN Hi))), (aS, .inl (cI, 128, .inl (gN Sv))), (aI, .inl (cI, 60, .inl (gN In))), (aL, .inl (cC, 40, .inl (gN Le))), (aT, .inl (cI, 360, .inl To))] H))) (mQ D ((if iR r 6 then (if gBb G (tN r) (G 0) = -1 then 0 else gBb G (tN r) (G 0)) else 0)) [(h, .inr (9, [.ref aG, .ref aB, .ref aH, .int (nI ch), .ref aS, .int (nI hs), .ref aI, .int (nI ty), .int ea, .int ra, .int (nI wy), .int wd, .ref aL, .int (nI ln), .int (nI ((if iR r 6 then (if gBb G (tN r) (G 0) = -1 then 2 else 0) else 1))), .int (nI sp), .int (nI iw), .ref aT])), (aG, .inl (cI, 128, .inl (gN G))), (aB, .inl (cI, 128, .inl (gN B))), (aH, .inl (cI, 1024, .inl (gN Hi))), (aS, .inl (cI, 128, .inl (gN Sv))), (aI, .inl (cI, 60, .inl (gN In))), (aL, .inl (cC, 40, .inl (gN Le))), (aT, .inl (cI, 360, .inl To))] A) 0 0 A := by
  refine nv_met (cc := cX7_best) (maxL := 6) (ret := (some .int)) (by decide) rfl (Nat.le_of_ble_eq_true rfl) ?_
  intro p0 e0 s m0 args below meth c0 Q hq hargs hnA hpre ls hl
  obtain ⟨hx, hb, hr, hts, hown, hlocks, hml⟩ := hnA
  obtain ⟨hP, hK⟩ := hpre
  have hown : s.vm.findClass RX7 = some m0.cls := hown
  have hP : va_P D vwCl [(h, .inr (9, [.ref aG, .ref aB, .ref aH, .int (nI ch), .ref aS, .int (nI hs), .ref aI, .int (nI ty), .int ea, .int ra, .int (nI wy), .int wd, .ref aL, .int (nI ln), .int (nI th), .int (nI sp), .int (nI iw), .ref aT])), (aG, .inl (cI, 128, .inl (gN G))), (aB, .inl (cI, 128, .inl (gN B))), (aH, .inl (cI, 1024, .inl (gN Hi))), (aS, .inl (cI, 128, .inl (gN Sv))), (aI, .inl (cI, 60, .inl (gN In))), (aL, .inl (cC, 40, .inl (gN Le))), (aT, .inl (cI, 360, .inl To))] s.heap := hP
  have hl : lv_has ls 6 [(0, .ref h), (1, .int r)] := hl
  have hS : va_S A s.heap s.heap [] := va_S.rf
  have in_X7 : ∀ w ∈ wsX70, w ∈ wsX7_best := by decide +kernel
  have fl_7 := hts (.fieldLink RX7 7 "DoorDialectModel" "g" "[I") (by decide +kernel)
  obtain ⟨g_b, g_k, g_0, g_1, g_2, g_e, g_d, g_t, g_y, g_s, g_h⟩ := id hG
  refine lv_iload_n hx hb dX7_best_0 rfl (lv_at hl 1 rfl) ?_
  refine nv_kS (va_runS (As := [.int r]) (rest := []) ⟨hx, hb, hml, hown, hts⟩ (c_X7_isRoom l (r)) (va_cwS 1 hts gX7_best_X7_isRoom rfl rfl rfl (by decide +kernel) ⟨Nat.le_of_ble_eq_true rfl, Nat.le_of_ble_eq_true rfl⟩) (nv_pS hK trivial) rfl rfl hl.1 rfl (lv_room (Nat.le_of_ble_eq_true rfl)) dX7_best_1 ⟨Nat.zero_le _, Nat.zero_le _⟩) ?_
  refine nv_ifb_ne (tgt := 13) hx hb dX7_best_4 (by decide) (fun c1 => ?_) (fun c1 => ?_)
  · obtain ⟨rk, h_rk, rfl⟩ := iR_of c1 (by decide)
    have et_rk : tN (nI rk) = rk := tN_nI (by omega)
    refine lv_iconst (v := (-1)) hx hb dX7_best_13 (by decide) ?_
    refine lv_istore_n (lv' := [(2, .int ((-1))), (0, .ref h), (1, .int (nI rk))]) hx hb dX7_best_14 rfl hl (by decide) rfl (fun ls hl => ?_)
    refine lv_aload_n hx hb dX7_best_15 rfl (lv_at hl 1 rfl) ?_
    refine lv_iload_n hx hb dX7_best_16 rfl (lv_at hl 2 rfl) ?_
    refine lv_iconst (v := (-1)) hx hb dX7_best_17 (by decide) ?_
    refine nv_kS (va_runV (As := [.int (nI rk), .int ((-1))]) (rest := []) ⟨hx, hb, hml, hown, hts⟩ (c_X7_reachedWith l hG rk ((-1)) (by omega)) (cwV 2 hts gX7_best_X7_reachedWith rfl rfl rfl (by decide +kernel) ⟨Nat.le_of_ble_eq_true rfl, Nat.le_of_ble_eq_true rfl⟩) (nv_pV hK hP (va_recv hK.1 hP (ci := 9) (q0 := 0) rfl rfl)) rfl rfl hl.1 rfl (lv_room (Nat.le_of_ble_eq_true rfl)) dX7_best_18 ⟨Nat.zero_le _, Nat.zero_le _⟩) ?_
    refine nv_kS (va_runS (As := [.int (nI (gRw G rk ((-1))))]) (rest := []) ⟨hx, hb, hml, hown, hts⟩ (c_X7_bits l (gRw G rk ((-1))) (Nat.lt_trans (gRw_lt hG (by omega) _) (by decide))) (va_cwS 1 hts gX7_best_X7_bits rfl rfl rfl (by decide +kernel) ⟨Nat.le_of_ble_eq_true rfl, Nat.le_of_ble_eq_true rfl⟩) (nv_pS hK trivial) rfl rfl hl.1 rfl (lv_room (Nat.le_of_ble_eq_true rfl)) dX7_best_21 ⟨Nat.zero_le _, Nat.zero_le _⟩) ?_
    refine lv_istore_n (lv' := [(3, .int (nI (gBits (gRw G rk ((-1)))))), (2, .int ((-1))), (0, .ref h), (1, .int (nI rk))]) hx hb dX7_best_24 rfl hl (by decide) rfl (fun ls hl => ?_)
    refine lv_iconst (v := nI 0) hx hb dX7_best_25 (by decide) ?_
    refine lv_istore (lv' := [(4, .int (nI 0)), (3, .int (nI (gBits (gRw G rk ((-1)))))), (2, .int ((-1))), (0, .ref h), (1, .int (nI rk))]) hx hb dX7_best_26 hl (by decide) rfl (fun ls hl => ?_)
    have hloop2 : ∀ (nn : Nat) (d : Nat), (d ≤ G 0) → G 0 - d < nn → ∀ (H : Heap) (locs : List Loc), va_P D vwCl [(h, .inr (9, [.ref aG, .ref aB, .ref aH, .int (nI ch), .ref aS, .int (nI hs), .ref aI, .int (nI ty), .int ea, .int ra, .int (nI wy), .int wd, .ref aL, .int (nI ln), .int (nI th), .int (nI sp), .int (nI iw), .ref aT])), (aG, .inl (cI, 128, .inl (gN G))), (aB, .inl (cI, 128, .inl (gN B))), (aH, .inl (cI, 1024, .inl (gN Hi))), (aS, .inl (cI, 128, .inl (gN Sv))), (aI, .inl (cI, 60, .inl (gN In))), (aL, .inl (cC, 40, .inl (gN Le))), (aT, .inl (cI, 360, .inl To))] H → va_S A s.heap H locs → ∀ (ls : Array Slot), lv_has ls 6 [(4, .int (nI d)), (3, .int (nI (gBm G rk d))), (2, .int (gBb G rk d)), (0, .ref h), (1, .int (nI rk))] → W p0 l e0 ({ frames := 2, cells := 0, slots := 0, locals := 48 }) s m0 args below meth c0 H locs 0 0 Q (F0 m0 28 ls []) := by
      intro nn28
      induction nn28 with
      | zero => intro d hd hn0 _ _ _ _ _ _; exact absurd hn0 (Nat.not_lt_zero _)
      | succ nn28 ih28 =>
        intro d hd hn28 H locs hP hS ls hl
        have hP : va_P D vwCl [(h, .inr (9, [.ref aG, .ref aB, .ref aH, .int (nI ch), .ref aS, .int (nI hs), .ref aI, .int (nI ty), .int ea, .int ra, .int (nI wy), .int wd, .ref aL, .int (nI ln), .int (nI th), .int (nI sp), .int (nI iw), .ref aT])), (aG, .inl (cI, 128, .inl (gN G))), (aB, .inl (cI, 128, .inl (gN B))), (aH, .inl (cI, 1024, .inl (gN Hi))), (aS, .inl (cI, 128, .inl (gN Sv))), (aI, .inl (cI, 60, .inl (gN In))), (aL, .inl (cC, 40, .inl (gN Le))), (aT, .inl (cI, 360, .inl To))] H := hP
        refine lv_iload hx hb dX7_best_28 (lv_at hl 0 rfl) ?_
        refine lv_aload_n hx hb dX7_best_30 rfl (lv_at hl 3 rfl) ?_
        refine va_get (D := D) (ci := 9) (v := .ref aG) (C := RX7) (T := TX7) (N := 18) hx hb hts in_X7 hown hK.1 hP 0 rfl rfl 0 (by decide) fl_7 (fun _ h9 => h9) rfl dX7_best_31 ?_
        refine lv_iconst (v := nI 0) hx hb dX7_best_34 (by decide) ?_
        refine nv_gald (i := 0) hx hb hK.1 hP 1 0 rfl rfl (by first | omega | (simp only [gEndAt]; omega)) (by decide) dX7_best_35 ?_
        have q3 : G 0 < 2 ^ 20 := hG.lt (k := 0) (by omega)
        refine nv_icmp_ge (tgt := 83) hx hb dX7_best_36 (by decide) (by omega) (by omega) (fun c4 => ?_) (fun c4 => ?_)
        · refine lv_iload_n hx hb dX7_best_83 rfl (lv_at hl 2 rfl) ?_
          refine lv_iconst (v := (-1)) hx hb dX7_best_84 (by decide) ?_
          refine lv_icmp_ne (tgt := 96) hx hb dX7_best_85 (by decide) (fun c5 => ?_) (fun c5 => ?_)
          · refine lv_aload_n hx hb dX7_best_96 rfl (lv_at hl 3 rfl) ?_
            refine lv_iload_n hx hb dX7_best_97 rfl (lv_at hl 2 rfl) ?_
            refine nv_kM (va_runV (As := [.int (gBb G rk d)]) (rest := []) ⟨hx, hb, hml, hown, hts⟩ (c_X7_done l hD (gBb G rk d)) (cwV 1 hts gX7_best_X7_done rfl rfl rfl (by decide +kernel) ⟨Nat.le_of_ble_eq_true rfl, Nat.le_of_ble_eq_true rfl⟩) (nv_pV hK hP (va_recv hK.1 hP (ci := 9) (q0 := 0) rfl rfl)) rfl rfl hl.1 rfl (lv_room (Nat.le_of_ble_eq_true rfl)) dX7_best_98 ⟨Nat.zero_le _, Nat.zero_le _⟩) hS (fun H locs hP hS => ?_)
            have hP : va_P D vwCl [(h, .inr (9, [.ref aG, .ref aB, .ref aH, .int (nI ch), .ref aS, .int (nI hs), .ref aI, .int (nI ty), .int ea, .int ra, .int (nI wy), .int wd, .ref aL, .int (nI ln), .int (nI 0), .int (nI sp), .int (nI iw), .ref aT])), (aG, .inl (cI, 128, .inl (gN G))), (aB, .inl (cI, 128, .inl (gN B))), (aH, .inl (cI, 1024, .inl (gN Hi))), (aS, .inl (cI, 128, .inl (gN Sv))), (aI, .inl (cI, 60, .inl (gN In))), (aL, .inl (cC, 40, .inl (gN Le))), (aT, .inl (cI, 360, .inl To))] H := hP
            exact nv_retM hq hx hb hr hlocks (nar_i _) (by rw [if_pos c1, et_rk, show G 0 = d by omega, if_neg c5]) hS hP (by rw [if_pos c1, et_rk, show G 0 = d by omega, if_neg c5]) dX7_best_101
          · refine lv_aload_n hx hb dX7_best_88 rfl (lv_at hl 3 rfl) ?_
            refine lv_iconst (v := nI 2) hx hb dX7_best_89 (by decide) ?_
            refine nv_kM (va_runV (As := [.int (nI 2)]) (rest := []) ⟨hx, hb, hml, hown, hts⟩ (c_X7_fails l hD 2) (cwV 1 hts gX7_best_X7_fails rfl rfl rfl (by decide +kernel) ⟨Nat.le_of_ble_eq_true rfl, Nat.le_of_ble_eq_true rfl⟩) (nv_pV hK hP (va_recv hK.1 hP (ci := 9) (q0 := 0) rfl rfl)) rfl rfl hl.1 rfl (lv_room (Nat.le_of_ble_eq_true rfl)) dX7_best_90 ⟨Nat.zero_le _, Nat.zero_le _⟩) hS (fun H locs hP hS => ?_)
            have hP : va_P D vwCl [(h, .inr (9, [.ref aG, .ref aB, .ref aH, .int (nI ch), .ref aS, .int (nI hs), .ref aI, .int (nI ty), .int ea, .int ra, .int (nI wy), .int wd, .ref aL, .int (nI ln), .int (nI 2), .int (nI sp), .int (nI iw), .ref aT])), (aG, .inl (cI, 128, .inl (gN G))), (aB, .inl (cI, 128, .inl (gN B))), (aH, .inl (cI, 1024, .inl (gN Hi))), (aS, .inl (cI, 128, .inl (gN Sv))), (aI, .inl (cI, 60, .inl (gN In))), (aL, .inl (cC, 40, .inl (gN Le))), (aT, .inl (cI, 360, .inl To))] H := hP
            refine lv_goto (tgt := 101) hx hb dX7_best_93 (by decide) ?_
            exact nv_retM hq hx hb hr hlocks (nar_i _) (by rw [if_pos c1, et_rk, show G 0 = d by omega, if_pos c5]; rfl) hS hP (by rw [if_pos c1, et_rk, show G 0 = d by omega, if_pos c5]) dX7_best_101
        · refine lv_aload_n hx hb dX7_best_39 rfl (lv_at hl 3 rfl) ?_
          refine lv_iload_n hx hb dX7_best_40 rfl (lv_at hl 4 rfl) ?_
          refine lv_iload hx hb dX7_best_41 (lv_at hl 0 rfl) ?_
          refine nv_kS (va_runV (As := [.int (nI rk), .int (nI d)]) (rest := []) ⟨hx, hb, hml, hown, hts⟩ (c_X7_reachedWith l hG rk (nI (d)) (by omega)) (cwV 2 hts gX7_best_X7_reachedWith rfl rfl rfl (by decide +kernel) ⟨Nat.le_of_ble_eq_true rfl, Nat.le_of_ble_eq_true rfl⟩) (nv_pV hK hP (va_recv hK.1 hP (ci := 9) (q0 := 0) rfl rfl)) rfl rfl hl.1 rfl (lv_room (Nat.le_of_ble_eq_true rfl)) dX7_best_43 ⟨Nat.zero_le _, Nat.zero_le _⟩) ?_
          refine nv_kS (va_runS (As := [.int (nI (gRw G rk (nI (d))))]) (rest := []) ⟨hx, hb, hml, hown, hts⟩ (c_X7_bits l (gRw G rk (nI (d))) (Nat.lt_trans (gRw_lt hG (by omega) _) (by decide))) (va_cwS 1 hts gX7_best_X7_bits rfl rfl rfl (by decide +kernel) ⟨Nat.le_of_ble_eq_true rfl, Nat.le_of_ble_eq_true rfl⟩) (nv_pS hK trivial) rfl rfl hl.1 rfl (lv_room (Nat.le_of_ble_eq_true rfl)) dX7_best_46 ⟨Nat.zero_le _, Nat.zero_le _⟩) ?_
          refine lv_istore (lv' := [(5, .int (nI (gBits (gRw G rk (nI (d)))))), (4, .int (nI d)), (3, .int (nI (gBm G rk d))), (2, .int (gBb G rk d)), (0, .ref h), (1, .int (nI rk))]) hx hb dX7_best_49 hl (by decide) rfl (fun ls hl => ?_)
          refine lv_iload hx hb dX7_best_51 (lv_at hl 0 rfl) ?_
          refine lv_iload_n hx hb dX7_best_53 rfl (lv_at hl 2 rfl) ?_
          refine nv_jn (α := Int32) (fun r => W p0 l e0 ({ frames := 2, cells := 0, slots := 0, locals := 48 }) s m0 args below meth c0 H locs 0 0 Q (F0 m0 63 ls (.int r :: []))) ((if gBits (gRw G rk (nI (d))) ≤ gBm G rk d then gBb G rk d else nI (d))) (fun r er => ?_) (fun hJ => ?_)
          · subst er
            refine lv_istore_n (lv' := [(2, .int ((if gBits (gRw G rk (nI (d))) ≤ gBm G rk d then gBb G rk d else nI (d)))), (5, .int (nI (gBits (gRw G rk (nI (d)))))), (4, .int (nI d)), (3, .int (nI (gBm G rk d))), (0, .ref h), (1, .int (nI rk))]) hx hb dX7_best_63 rfl hl (by decide) rfl (fun ls hl => ?_)
            refine lv_iload hx hb dX7_best_64 (lv_at hl 1 rfl) ?_
            refine lv_iload_n hx hb dX7_best_66 rfl (lv_at hl 3 rfl) ?_
            refine nv_jn (α := Nat) (fun r => W p0 l e0 ({ frames := 2, cells := 0, slots := 0, locals := 48 }) s m0 args below meth c0 H locs 0 0 Q (F0 m0 76 ls (.int (nI r) :: []))) ((if gBits (gRw G rk (nI (d))) ≤ gBm G rk d then gBm G rk d else gBits (gRw G rk (nI (d))))) (fun r er => ?_) (fun hJ => ?_)
            · subst er
              refine lv_istore_n (lv' := [(3, .int (nI ((if gBits (gRw G rk (nI (d))) ≤ gBm G rk d then gBm G rk d else gBits (gRw G rk (nI (d))))))), (2, .int ((if gBits (gRw G rk (nI (d))) ≤ gBm G rk d then gBb G rk d else nI (d)))), (5, .int (nI (gBits (gRw G rk (nI (d)))))), (4, .int (nI d)), (0, .ref h), (1, .int (nI rk))]) hx hb dX7_best_76 rfl hl (by decide) rfl (fun ls hl => ?_)
              refine lv_iinc (v := nI (d + 1)) (lv' := [(4, .int (nI (d + 1))), (3, .int (nI ((if gBits (gRw G rk (nI (d))) ≤ gBm G rk d then gBm G rk d else gBits (gRw G rk (nI (d))))))), (2, .int ((if gBits (gRw G rk (nI (d))) ≤ gBm G rk d then gBb G rk d else nI (d)))), (5, .int (nI (gBits (gRw G rk (nI (d)))))), (0, .ref h), (1, .int (nI rk))]) hx hb dX7_best_77 hl (k := 3) rfl (by show nI _ + Int32.ofInt 1 = _; exact nI_add _ 1) (by decide) rfl (fun ls hl => ?_)
              refine lv_goto (tgt := 28) hx hb dX7_best_80 (by decide) ?_
              exact ih28  (d + 1) ((by omega)) (by omega) _ _ hP hS ls (lv_sub hl [0, 1, 2, 4, 5] rfl)
            · refine nv_icmp_le (tgt := 75) hx hb dX7_best_67 (by decide) (by first | exact Nat.lt_of_le_of_lt (gBits_le _) (by decide) | exact Nat.lt_of_le_of_lt (gBm_le _ _ _) (by decide)) (by first | exact Nat.lt_of_le_of_lt (gBits_le _) (by decide) | exact Nat.lt_of_le_of_lt (gBm_le _ _ _) (by decide)) (fun c7 => ?_) (fun c7 => ?_)
              · refine lv_iload_n hx hb dX7_best_75 rfl (lv_at hl 3 rfl) ?_
                exact hJ _ (if_pos c7).symm
              · refine lv_iload hx hb dX7_best_70 (lv_at hl 1 rfl) ?_
                refine lv_goto (tgt := 76) hx hb dX7_best_72 (by decide) ?_
                exact hJ _ (if_neg c7).symm
          · refine nv_icmp_le (tgt := 62) hx hb dX7_best_54 (by decide) (by first | exact Nat.lt_of_le_of_lt (gBits_le _) (by decide) | exact Nat.lt_of_le_of_lt (gBm_le _ _ _) (by decide)) (by first | exact Nat.lt_of_le_of_lt (gBits_le _) (by decide) | exact Nat.lt_of_le_of_lt (gBm_le _ _ _) (by decide)) (fun c6 => ?_) (fun c6 => ?_)
            · refine lv_iload_n hx hb dX7_best_62 rfl (lv_at hl 3 rfl) ?_
              exact hJ _ (if_pos c6).symm
            · refine lv_iload hx hb dX7_best_57 (lv_at hl 1 rfl) ?_
              refine lv_goto (tgt := 63) hx hb dX7_best_59 (by decide) ?_
              exact hJ _ (if_neg c6).symm
    exact hloop2 _ 0 ((Nat.zero_le _)) (Nat.lt_succ_self _) _ _ hP hS ls (lv_sub hl [0, 1, 2, 3, 4] rfl)
  · refine lv_aload_n hx hb dX7_best_7 rfl (lv_at hl 0 rfl) ?_
    refine lv_iconst (v := nI 1) hx hb dX7_best_8 (by decide) ?_
    refine nv_kM (va_runV (As := [.int (nI 1)]) (rest := []) ⟨hx, hb, hml, hown, hts⟩ (c_X7_fails l hD 1) (cwV 1 hts gX7_best_X7_fails rfl rfl rfl (by decide +kernel) ⟨Nat.le_of_ble_eq_true rfl, Nat.le_of_ble_eq_true rfl⟩) (nv_pV hK hP (va_recv hK.1 hP (ci := 9) (q0 := 0) rfl rfl)) rfl rfl hl.1 rfl (lv_room (Nat.le_of_ble_eq_true rfl)) dX7_best_9 ⟨Nat.zero_le _, Nat.zero_le _⟩) hS (fun H locs hP hS => ?_)
    have hP : va_P D vwCl [(h, .inr (9, [.ref aG, .ref aB, .ref aH, .int (nI ch), .ref aS, .int (nI hs), .ref aI, .int (nI ty), .int ea, .int ra, .int (nI wy), .int wd, .ref aL, .int (nI ln), .int (nI 1), .int (nI sp), .int (nI iw), .ref aT])), (aG, .inl (cI, 128, .inl (gN G))), (aB, .inl (cI, 128, .inl (gN B))), (aH, .inl (cI, 1024, .inl (gN Hi))), (aS, .inl (cI, 128, .inl (gN Sv))), (aI, .inl (cI, 60, .inl (gN In))), (aL, .inl (cC, 40, .inl (gN Le))), (aT, .inl (cI, 360, .inl To))] H := hP
    exact nv_retM hq hx hb hr hlocks (nar_i _) (by rw [if_neg c1] <;> rfl) hS hP (by rw [if_neg c1]) dX7_best_12

set_option maxHeartbeats 1000000 in
set_option maxRecDepth 100000 in
theorem c_X7_ranked (l : Launch) {D : va_G} {cI cC : ClassId} {h aG aB aH aS aI aL aT : Nat} {G B Hi Sv In Le : Nat → Nat} {To : Nat → Int32} {ch hs ty wy ln th sp iw : Nat} {ea ra wd : Int32} {A : Nat → Prop} (hD : ∀ (G B Hi Sv In Le : Nat → Nat) (To : Nat → Int32) (fs : List Value), va_D A [(h, .inr (9, fs)), (aG, .inl (cI, 128, .inl (gN G))), (aB, .inl (cI, 128, .inl (gN B))), (aH, .inl (cI, 1024, .inl (gN Hi))), (aS, .inl (cI, 128, .inl (gN Sv))), (aI, .inl (cI, 60, .inl (gN In))), (aL, .inl (cC, 40, .inl (gN Le))), (aT, .inl (cI, 360, .inl To))]) {b : Nat} (hG : gWf b G) (m x : Int32) : Met l yX7_ranked wsX7_ranked ({ frames := 1, cells := 0, slots := 0, locals := 22 }) (va_Pc [.ref h, .int m, .int x] (sPre D [(cI, .int), (cC, .char)] [] (fun H => va_P D vwCl [(h, .inr (9, [.ref aG, .ref aB, .ref aH, .int (nI ch), .ref aS, .int (nI hs), .ref aI, .int (nI ty), .int ea, .int ra, .int (nI wy), .int wd, .ref aL, .int (nI ln), .int (nI th), .int (nI sp), .int (nI iw), .ref aT])), (aG, .inl (cI, 128, .inl (gN G))), (aB, .inl (cI, 128, .inl (gN B))), (aH, .inl (cI, 1024, .inl (gN Hi))), (aS, .inl (cI, 128, .inl (gN Sv))), (aI, .inl (cI, 60, .inl (gN In))), (aL, .inl (cC, 40, .inl (gN Le))), (aT, .inl (cI, 360, .inl To))] H))) (mQ D ((if iR m 2 then (if gRk G (if tN m = 0 then 104 else 64) x < G 0 then nI (gRk G (if tN m = 0 then 104 else 64) x) else 0) else 0)) [(h, .inr (9, [.ref aG, .ref aB, .ref aH, .int (nI ch), .ref aS, .int (nI hs), .ref aI, .int (nI ty), .int ea, .int ra, .int (nI wy), .int wd, .ref aL, .int (nI ln), .int (nI ((if iR m 2 then (if gRk G (if tN m = 0 then 104 else 64) x < G 0 then 0 else 2) else 1))), .int (nI sp), .int (nI iw), .ref aT])), (aG, .inl (cI, 128, .inl (gN G))), (aB, .inl (cI, 128, .inl (gN B))), (aH, .inl (cI, 1024, .inl (gN Hi))), (aS, .inl (cI, 128, .inl (gN Sv))), (aI, .inl (cI, 60, .inl (gN In))), (aL, .inl (cC, 40, .inl (gN Le))), (aT, .inl (cI, 360, .inl To))] A) 0 0 A := by
  refine nv_met (cc := cX7_ranked) (maxL := 8) (ret := (some .int)) (by decide) rfl (Nat.le_of_ble_eq_true rfl) ?_
  intro p0 e0 s m0 args below meth c0 Q hq hargs hnA hpre ls hl
  obtain ⟨hx, hb, hr, hts, hown, hlocks, hml⟩ := hnA
  obtain ⟨hP, hK⟩ := hpre
  have hown : s.vm.findClass RX7 = some m0.cls := hown
  have hP : va_P D vwCl [(h, .inr (9, [.ref aG, .ref aB, .ref aH, .int (nI ch), .ref aS, .int (nI hs), .ref aI, .int (nI ty), .int ea, .int ra, .int (nI wy), .int wd, .ref aL, .int (nI ln), .int (nI th), .int (nI sp), .int (nI iw), .ref aT])), (aG, .inl (cI, 128, .inl (gN G))), (aB, .inl (cI, 128, .inl (gN B))), (aH, .inl (cI, 1024, .inl (gN Hi))), (aS, .inl (cI, 128, .inl (gN Sv))), (aI, .inl (cI, 60, .inl (gN In))), (aL, .inl (cC, 40, .inl (gN Le))), (aT, .inl (cI, 360, .inl To))] s.heap := hP
  have hl : lv_has ls 8 [(0, .ref h), (1, .int m), (2, .int x)] := hl
  have hS : va_S A s.heap s.heap [] := va_S.rf
  have in_X7 : ∀ w ∈ wsX70, w ∈ wsX7_ranked := by decide +kernel
  have fl_7 := hts (.fieldLink RX7 7 "DoorDialectModel" "g" "[I") (by decide +kernel)
  obtain ⟨g_b, g_k, g_0, g_1, g_2, g_e, g_d, g_t, g_y, g_s, g_h⟩ := id hG
  refine lv_iload_n hx hb dX7_ranked_0 rfl (lv_at hl 1 rfl) ?_
  refine lv_iconst (v := nI 0) hx hb dX7_ranked_1 (by decide) ?_
  refine lv_iconst (v := nI 1) hx hb dX7_ranked_2 (by decide) ?_
  refine nv_kS (va_runS (As := [.int m, .int (nI 0), .int (nI 1)]) (rest := []) ⟨hx, hb, hml, hown, hts⟩ (c_X7_in l (m) (nI (0)) (nI (1))) (va_cwS 3 hts gX7_ranked_X7_in rfl rfl rfl (by decide +kernel) ⟨Nat.le_of_ble_eq_true rfl, Nat.le_of_ble_eq_true rfl⟩) (nv_pS hK trivial) rfl rfl hl.1 rfl (lv_room (Nat.le_of_ble_eq_true rfl)) dX7_ranked_3 ⟨Nat.zero_le _, Nat.zero_le _⟩) ?_
  refine nv_ifb_ne (tgt := 15) hx hb dX7_ranked_6 (by decide) (fun c1 => ?_) (fun c1 => ?_)
  · have c1 := (iR_in2 (n := 1) (by decide)).mp c1
    obtain ⟨mk, h_mk, rfl⟩ := iR_of c1 (by decide)
    have et_mk : tN (nI mk) = mk := tN_nI (by omega)
    refine lv_iload_n hx hb dX7_ranked_15 rfl (lv_at hl 1 rfl) ?_
    refine nv_jn (α := Nat) (fun r => W p0 l e0 ({ frames := 1, cells := 0, slots := 0, locals := 22 }) s m0 args below meth c0 s.heap [] 0 0 Q (F0 m0 26 ls (.int (nI r) :: []))) ((if mk = 0 then 104 else 64)) (fun kk e_kk => ?_) (fun hJ => ?_)
    · have hkk : kk = 104 ∨ kk = 64 := by rw [e_kk]; split; exact Or.inl rfl; exact Or.inr rfl
      refine lv_istore_n (lv' := [(3, .int (nI kk)), (0, .ref h), (1, .int (nI mk)), (2, .int x)]) hx hb dX7_ranked_26 rfl hl (by decide) rfl (fun ls hl => ?_)
      refine lv_iconst (v := nI 0) hx hb dX7_ranked_27 (by decide) ?_
      refine lv_istore (lv' := [(4, .int (nI 0)), (3, .int (nI kk)), (0, .ref h), (1, .int (nI mk)), (2, .int x)]) hx hb dX7_ranked_28 hl (by decide) rfl (fun ls hl => ?_)
      have hloop3 : ∀ (nn : Nat) (d : Nat), (d ≤ G 0) → (∀ j, j < d → ¬ nI (gRank G kk j) = x) → G 0 - d < nn → ∀ (H : Heap) (locs : List Loc), va_P D vwCl [(h, .inr (9, [.ref aG, .ref aB, .ref aH, .int (nI ch), .ref aS, .int (nI hs), .ref aI, .int (nI ty), .int ea, .int ra, .int (nI wy), .int wd, .ref aL, .int (nI ln), .int (nI th), .int (nI sp), .int (nI iw), .ref aT])), (aG, .inl (cI, 128, .inl (gN G))), (aB, .inl (cI, 128, .inl (gN B))), (aH, .inl (cI, 1024, .inl (gN Hi))), (aS, .inl (cI, 128, .inl (gN Sv))), (aI, .inl (cI, 60, .inl (gN In))), (aL, .inl (cC, 40, .inl (gN Le))), (aT, .inl (cI, 360, .inl To))] H → va_S A s.heap H locs → ∀ (ls : Array Slot), lv_has ls 8 [(4, .int (nI d)), (3, .int (nI kk)), (0, .ref h), (1, .int (nI mk)), (2, .int x)] → W p0 l e0 ({ frames := 1, cells := 0, slots := 0, locals := 22 }) s m0 args below meth c0 H locs 0 0 Q (F0 m0 30 ls []) := by
        intro nn30
        induction nn30 with
        | zero => intro d hd hn hn0 _ _ _ _ _ _; exact absurd hn0 (Nat.not_lt_zero _)
        | succ nn30 ih30 =>
          intro d hd hn hn30 H locs hP hS ls hl
          have hP : va_P D vwCl [(h, .inr (9, [.ref aG, .ref aB, .ref aH, .int (nI ch), .ref aS, .int (nI hs), .ref aI, .int (nI ty), .int ea, .int ra, .int (nI wy), .int wd, .ref aL, .int (nI ln), .int (nI th), .int (nI sp), .int (nI iw), .ref aT])), (aG, .inl (cI, 128, .inl (gN G))), (aB, .inl (cI, 128, .inl (gN B))), (aH, .inl (cI, 1024, .inl (gN Hi))), (aS, .inl (cI, 128, .inl (gN Sv))), (aI, .inl (cI, 60, .inl (gN In))), (aL, .inl (cC, 40, .inl (gN Le))), (aT, .inl (cI, 360, .inl To))] H := hP
          refine lv_iload hx hb dX7_ranked_30 (lv_at hl 0 rfl) ?_
          refine lv_aload_n hx hb dX7_ranked_32 rfl (lv_at hl 2 rfl) ?_
          refine va_get (D := D) (ci := 9) (v := .ref aG) (C := RX7) (T := TX7) (N := 18) hx hb hts in_X7 hown hK.1 hP 0 rfl rfl 0 (by decide) fl_7 (fun _ h9 => h9) rfl dX7_ranked_33 ?_
          refine lv_iconst (v := nI 0) hx hb dX7_ranked_36 (by decide) ?_
          refine nv_gald (i := 0) hx hb hK.1 hP 1 0 rfl rfl (by first | omega | (simp only [gEndAt]; omega)) (by decide) dX7_ranked_37 ?_
          have q4 : G 0 < 2 ^ 20 := hG.lt (k := 0) (by omega)
          refine nv_icmp_ge (tgt := 131) hx hb dX7_ranked_38 (by decide) (by omega) (by omega) (fun c5 => ?_) (fun c5 => ?_)
          · refine lv_aload_n hx hb dX7_ranked_131 rfl (lv_at hl 2 rfl) ?_
            refine lv_iconst (v := nI 2) hx hb dX7_ranked_132 (by decide) ?_
            refine nv_kM (va_runV (As := [.int (nI 2)]) (rest := []) ⟨hx, hb, hml, hown, hts⟩ (c_X7_fails l hD 2) (cwV 1 hts gX7_ranked_X7_fails rfl rfl rfl (by decide +kernel) ⟨Nat.le_of_ble_eq_true rfl, Nat.le_of_ble_eq_true rfl⟩) (nv_pV hK hP (va_recv hK.1 hP (ci := 9) (q0 := 0) rfl rfl)) rfl rfl hl.1 rfl (lv_room (Nat.le_of_ble_eq_true rfl)) dX7_ranked_133 ⟨Nat.zero_le _, Nat.zero_le _⟩) hS (fun H locs hP hS => ?_)
            have hP : va_P D vwCl [(h, .inr (9, [.ref aG, .ref aB, .ref aH, .int (nI ch), .ref aS, .int (nI hs), .ref aI, .int (nI ty), .int ea, .int ra, .int (nI wy), .int wd, .ref aL, .int (nI ln), .int (nI 2), .int (nI sp), .int (nI iw), .ref aT])), (aG, .inl (cI, 128, .inl (gN G))), (aB, .inl (cI, 128, .inl (gN B))), (aH, .inl (cI, 1024, .inl (gN Hi))), (aS, .inl (cI, 128, .inl (gN Sv))), (aI, .inl (cI, 60, .inl (gN In))), (aL, .inl (cC, 40, .inl (gN Le))), (aT, .inl (cI, 360, .inl To))] H := hP
            exact nv_retM hq hx hb hr hlocks (nar_i _) (by rw [if_pos c1, et_mk, ← e_kk, show gRk G kk x = G 0 from (fd_none (fun j hj => hn j (by omega))), if_neg (by omega)]; rfl) hS hP (by rw [if_pos c1, et_mk, ← e_kk, show gRk G kk x = G 0 from (fd_none (fun j hj => hn j (by omega))), if_neg (by omega)]) dX7_ranked_136
          · refine lv_iconst (v := nI 0) hx hb dX7_ranked_41 (by decide) ?_
            refine lv_istore (lv' := [(5, .int (nI 0)), (4, .int (nI d)), (3, .int (nI kk)), (0, .ref h), (1, .int (nI mk)), (2, .int x)]) hx hb dX7_ranked_42 hl (by decide) rfl (fun ls hl => ?_)
            refine lv_iconst (v := nI 0) hx hb dX7_ranked_44 (by decide) ?_
            refine lv_istore (lv' := [(6, .int (nI 0)), (5, .int (nI 0)), (4, .int (nI d)), (3, .int (nI kk)), (0, .ref h), (1, .int (nI mk)), (2, .int x)]) hx hb dX7_ranked_45 hl (by decide) rfl (fun ls hl => ?_)
            have hloop6 : ∀ (nn : Nat) (o : Nat), (o ≤ G 0) → G 0 - o < nn → ∀ (H : Heap) (locs : List Loc), va_P D vwCl [(h, .inr (9, [.ref aG, .ref aB, .ref aH, .int (nI ch), .ref aS, .int (nI hs), .ref aI, .int (nI ty), .int ea, .int ra, .int (nI wy), .int wd, .ref aL, .int (nI ln), .int (nI th), .int (nI sp), .int (nI iw), .ref aT])), (aG, .inl (cI, 128, .inl (gN G))), (aB, .inl (cI, 128, .inl (gN B))), (aH, .inl (cI, 1024, .inl (gN Hi))), (aS, .inl (cI, 128, .inl (gN Sv))), (aI, .inl (cI, 60, .inl (gN In))), (aL, .inl (cC, 40, .inl (gN Le))), (aT, .inl (cI, 360, .inl To))] H → va_S A s.heap H locs → ∀ (ls : Array Slot), lv_has ls 8 [(6, .int (nI o)), (5, .int (nI (sm (fun o => bI (G (kk + d) < G (kk + o) ∨ (G (kk + o) = G (kk + d) ∧ o < d))) o))), (4, .int (nI d)), (3, .int (nI kk)), (0, .ref h), (1, .int (nI mk)), (2, .int x)] → W p0 l e0 ({ frames := 1, cells := 0, slots := 0, locals := 22 }) s m0 args below meth c0 H locs 0 0 Q (F0 m0 47 ls []) := by
              intro nn47
              induction nn47 with
              | zero => intro o ho hn0 _ _ _ _ _ _; exact absurd hn0 (Nat.not_lt_zero _)
              | succ nn47 ih47 =>
                intro o ho hn47 H locs hP hS ls hl
                have hP : va_P D vwCl [(h, .inr (9, [.ref aG, .ref aB, .ref aH, .int (nI ch), .ref aS, .int (nI hs), .ref aI, .int (nI ty), .int ea, .int ra, .int (nI wy), .int wd, .ref aL, .int (nI ln), .int (nI th), .int (nI sp), .int (nI iw), .ref aT])), (aG, .inl (cI, 128, .inl (gN G))), (aB, .inl (cI, 128, .inl (gN B))), (aH, .inl (cI, 1024, .inl (gN Hi))), (aS, .inl (cI, 128, .inl (gN Sv))), (aI, .inl (cI, 60, .inl (gN In))), (aL, .inl (cC, 40, .inl (gN Le))), (aT, .inl (cI, 360, .inl To))] H := hP
                refine lv_iload hx hb dX7_ranked_47 (lv_at hl 0 rfl) ?_
                refine lv_aload_n hx hb dX7_ranked_49 rfl (lv_at hl 4 rfl) ?_
                refine va_get (D := D) (ci := 9) (v := .ref aG) (C := RX7) (T := TX7) (N := 18) hx hb hts in_X7 hown hK.1 hP 0 rfl rfl 0 (by decide) fl_7 (fun _ h9 => h9) rfl dX7_ranked_50 ?_
                refine lv_iconst (v := nI 0) hx hb dX7_ranked_53 (by decide) ?_
                refine nv_gald (i := 0) hx hb hK.1 hP 1 0 rfl rfl (by first | omega | (simp only [gEndAt]; omega)) (by decide) dX7_ranked_54 ?_
                have q7 : G 0 < 2 ^ 20 := hG.lt (k := 0) (by omega)
                refine nv_icmp_ge (tgt := 112) hx hb dX7_ranked_55 (by decide) (by omega) (by omega) (fun c8 => ?_) (fun c8 => ?_)
                · refine lv_iload hx hb dX7_ranked_112 (lv_at hl 1 rfl) ?_
                  refine lv_iload_n hx hb dX7_ranked_114 rfl (lv_at hl 6 rfl) ?_
                  refine lv_icmp_ne (tgt := 125) hx hb dX7_ranked_115 (by decide) (fun c9 => ?_) (fun c9 => ?_)
                  · rw [show o = G 0 by omega] at c9
                    refine lv_iinc (v := nI (d + 1)) (lv' := [(4, .int (nI (d + 1))), (6, .int (nI o)), (5, .int (nI (sm (fun o => bI (G (kk + d) < G (kk + o) ∨ (G (kk + o) = G (kk + d) ∧ o < d))) o))), (3, .int (nI kk)), (0, .ref h), (1, .int (nI mk)), (2, .int x)]) hx hb dX7_ranked_125 hl (k := 2) rfl (by show nI _ + Int32.ofInt 1 = _; exact nI_add _ 1) (by decide) rfl (fun ls hl => ?_)
                    refine lv_goto (tgt := 30) hx hb dX7_ranked_128 (by decide) ?_
                    exact ih30  (d + 1) ((by omega)) ((fun j hj => by rcases (show j < d ∨ j = d by omega) with h | h; exact hn j h; subst h; exact c9)) (by omega) _ _ hP hS ls (lv_sub hl [0, 3, 4, 5, 6] rfl)
                  · rw [show o = G 0 by omega] at c9
                    refine lv_aload_n hx hb dX7_ranked_118 rfl (lv_at hl 4 rfl) ?_
                    refine lv_iload hx hb dX7_ranked_119 (lv_at hl 2 rfl) ?_
                    refine nv_kM (va_runV (As := [.int (nI d)]) (rest := []) ⟨hx, hb, hml, hown, hts⟩ (c_X7_done l hD (nI (d))) (cwV 1 hts gX7_ranked_X7_done rfl rfl rfl (by decide +kernel) ⟨Nat.le_of_ble_eq_true rfl, Nat.le_of_ble_eq_true rfl⟩) (nv_pV hK hP (va_recv hK.1 hP (ci := 9) (q0 := 0) rfl rfl)) rfl rfl hl.1 rfl (lv_room (Nat.le_of_ble_eq_true rfl)) dX7_ranked_121 ⟨Nat.zero_le _, Nat.zero_le _⟩) hS (fun H locs hP hS => ?_)
                    have hP : va_P D vwCl [(h, .inr (9, [.ref aG, .ref aB, .ref aH, .int (nI ch), .ref aS, .int (nI hs), .ref aI, .int (nI ty), .int ea, .int ra, .int (nI wy), .int wd, .ref aL, .int (nI ln), .int (nI 0), .int (nI sp), .int (nI iw), .ref aT])), (aG, .inl (cI, 128, .inl (gN G))), (aB, .inl (cI, 128, .inl (gN B))), (aH, .inl (cI, 1024, .inl (gN Hi))), (aS, .inl (cI, 128, .inl (gN Sv))), (aI, .inl (cI, 60, .inl (gN In))), (aL, .inl (cC, 40, .inl (gN Le))), (aT, .inl (cI, 360, .inl To))] H := hP
                    exact nv_retM hq hx hb hr hlocks (nar_i _) (by rw [if_pos c1, et_mk, ← e_kk, show gRk G kk x = d from (fd_some hn c9 (by omega)), if_pos (by omega)]) hS hP (by rw [if_pos c1, et_mk, ← e_kk, show gRk G kk x = d from (fd_some hn c9 (by omega)), if_pos (by omega)]) dX7_ranked_124
                · refine lv_aload_n hx hb dX7_ranked_58 rfl (lv_at hl 4 rfl) ?_
                  refine va_get (D := D) (ci := 9) (v := .ref aG) (C := RX7) (T := TX7) (N := 18) hx hb hts in_X7 hown hK.1 hP 0 rfl rfl 0 (by decide) fl_7 (fun _ h9 => h9) rfl dX7_ranked_59 ?_
                  refine lv_iload_n hx hb dX7_ranked_62 rfl (lv_at hl 3 rfl) ?_
                  refine lv_iload hx hb dX7_ranked_63 (lv_at hl 0 rfl) ?_
                  refine nv_iadd hx hb dX7_ranked_65 ?_
                  refine nv_gald (i := kk + o) hx hb hK.1 hP 1 0 rfl rfl (by first | omega | (simp only [gEndAt]; omega)) (by decide) dX7_ranked_66 ?_
                  have q10 : G (kk + o) < 2 ^ 20 := hG.lt (k := kk + o) (by omega)
                  refine lv_aload_n hx hb dX7_ranked_67 rfl (lv_at hl 4 rfl) ?_
                  refine va_get (D := D) (ci := 9) (v := .ref aG) (C := RX7) (T := TX7) (N := 18) hx hb hts in_X7 hown hK.1 hP 0 rfl rfl 0 (by decide) fl_7 (fun _ h9 => h9) rfl dX7_ranked_68 ?_
                  refine lv_iload_n hx hb dX7_ranked_71 rfl (lv_at hl 3 rfl) ?_
                  refine lv_iload hx hb dX7_ranked_72 (lv_at hl 2 rfl) ?_
                  refine nv_iadd hx hb dX7_ranked_74 ?_
                  refine nv_gald (i := kk + d) hx hb hK.1 hP 1 0 rfl rfl (by first | omega | (simp only [gEndAt]; omega)) (by decide) dX7_ranked_75 ?_
                  have q11 : G (kk + d) < 2 ^ 20 := hG.lt (k := kk + d) (by omega)
                  refine lv_isub hx hb dX7_ranked_76 ?_
                  refine lv_istore (lv' := [(7, .int ((nI (G (kk + o))) - (nI (G (kk + d))))), (6, .int (nI o)), (5, .int (nI (sm (fun o => bI (G (kk + d) < G (kk + o) ∨ (G (kk + o) = G (kk + d) ∧ o < d))) o))), (4, .int (nI d)), (3, .int (nI kk)), (0, .ref h), (1, .int (nI mk)), (2, .int x)]) hx hb dX7_ranked_77 hl (by decide) rfl (fun ls hl => ?_)
                  refine lv_iload hx hb dX7_ranked_79 (lv_at hl 2 rfl) ?_
                  refine lv_iload hx hb dX7_ranked_81 (lv_at hl 0 rfl) ?_
                  refine nv_jn (α := Nat) (fun r => W p0 l e0 ({ frames := 1, cells := 0, slots := 0, locals := 22 }) s m0 args below meth c0 H locs 0 0 Q (F0 m0 103 ls (.int (nI r) :: [.int (nI (sm (fun o => bI (G (kk + d) < G (kk + o) ∨ (G (kk + o) = G (kk + d) ∧ o < d))) o))]))) ((if 0 < (nI (G (kk + o))) - (nI (G (kk + d))) then 1 else (if (nI (G (kk + o))) - (nI (G (kk + d))) = 0 then (if d ≤ o then 0 else 1) else 0))) (fun r er => ?_) (fun hJ => ?_)
                  · subst er
                    refine nv_to (bI (G (kk + d) < G (kk + o) ∨ (G (kk + o) = G (kk + d) ∧ o < d))) (congrArg nI (nv_rank (hG.lt (by omega)) (hG.lt (by omega)))) ?_
                    refine nv_iadd hx hb dX7_ranked_103 ?_
                    refine lv_istore (lv' := [(5, .int (nI (sm (fun o => bI (G (kk + d) < G (kk + o) ∨ (G (kk + o) = G (kk + d) ∧ o < d))) o + (bI (G (kk + d) < G (kk + o) ∨ (G (kk + o) = G (kk + d) ∧ o < d)))))), (7, .int ((nI (G (kk + o))) - (nI (G (kk + d))))), (6, .int (nI o)), (4, .int (nI d)), (3, .int (nI kk)), (0, .ref h), (1, .int (nI mk)), (2, .int x)]) hx hb dX7_ranked_104 hl (by decide) rfl (fun ls hl => ?_)
                    refine lv_iinc (v := nI (o + 1)) (lv' := [(6, .int (nI (o + 1))), (5, .int (nI (sm (fun o => bI (G (kk + d) < G (kk + o) ∨ (G (kk + o) = G (kk + d) ∧ o < d))) o + (bI (G (kk + d) < G (kk + o) ∨ (G (kk + o) = G (kk + d) ∧ o < d)))))), (7, .int ((nI (G (kk + o))) - (nI (G (kk + d))))), (4, .int (nI d)), (3, .int (nI kk)), (0, .ref h), (1, .int (nI mk)), (2, .int x)]) hx hb dX7_ranked_106 hl (k := 2) rfl (by show nI _ + Int32.ofInt 1 = _; exact nI_add _ 1) (by decide) rfl (fun ls hl => ?_)
                    refine lv_goto (tgt := 47) hx hb dX7_ranked_109 (by decide) ?_
                    exact ih47  (o + 1) ((by omega)) (by omega) _ _ hP hS ls (lv_sub hl [0, 1, 3, 4, 5, 6, 7] rfl)
                  · refine lv_if_gt (tgt := 98) hx hb dX7_ranked_83 (by decide) (fun c12 => ?_) (fun c12 => ?_)
                    · refine lv_iconst (v := nI 1) hx hb dX7_ranked_98 (by decide) ?_
                      refine lv_goto (tgt := 103) hx hb dX7_ranked_99 (by decide) ?_
                      exact hJ _ (if_pos c12).symm
                    · refine lv_iload hx hb dX7_ranked_86 (lv_at hl 0 rfl) ?_
                      refine lv_if_ne (tgt := 102) hx hb dX7_ranked_88 (by decide) (fun c13 => ?_) (fun c13 => ?_)
                      · refine lv_iconst (v := nI 0) hx hb dX7_ranked_102 (by decide) ?_
                        exact hJ _ (by rw [if_neg c12, if_neg c13])
                      · refine lv_iload hx hb dX7_ranked_91 (lv_at hl 1 rfl) ?_
                        refine lv_iload hx hb dX7_ranked_93 (lv_at hl 3 rfl) ?_
                        refine nv_icmp_ge (tgt := 102) hx hb dX7_ranked_95 (by decide) (by omega) (by omega) (fun c14 => ?_) (fun c14 => ?_)
                        · refine lv_iconst (v := nI 0) hx hb dX7_ranked_102 (by decide) ?_
                          exact hJ _ (by rw [if_neg c12, if_pos c13, if_pos c14])
                        · refine lv_iconst (v := nI 1) hx hb dX7_ranked_98 (by decide) ?_
                          refine lv_goto (tgt := 103) hx hb dX7_ranked_99 (by decide) ?_
                          exact hJ _ (by rw [if_neg c12, if_pos c13, if_neg c14])
            exact hloop6 _ 0 ((Nat.zero_le _)) (Nat.lt_succ_self _) _ _ hP hS ls (lv_sub hl [0, 1, 2, 3, 4, 5, 6] rfl)
      exact hloop3 _ 0 ((Nat.zero_le _)) ((fun j hj => absurd hj (Nat.not_lt_zero j))) (Nat.lt_succ_self _) _ _ hP hS ls (lv_sub hl [0, 1, 2, 3, 4] rfl)
    · refine nv_if_ne (tgt := 24) hx hb dX7_ranked_16 (by decide) (by omega) (fun c2 => ?_) (fun c2 => ?_)
      · refine lv_bipush (v := nI 64) hx hb dX7_ranked_24 (by decide) ?_
        exact hJ _ (if_neg c2).symm
      · refine lv_bipush (v := nI 104) hx hb dX7_ranked_19 (by decide) ?_
        refine lv_goto (tgt := 26) hx hb dX7_ranked_21 (by decide) ?_
        exact hJ _ (if_pos c2).symm
  · refine lv_aload_n hx hb dX7_ranked_9 rfl (lv_at hl 0 rfl) ?_
    refine lv_iconst (v := nI 1) hx hb dX7_ranked_10 (by decide) ?_
    refine nv_kM (va_runV (As := [.int (nI 1)]) (rest := []) ⟨hx, hb, hml, hown, hts⟩ (c_X7_fails l hD 1) (cwV 1 hts gX7_ranked_X7_fails rfl rfl rfl (by decide +kernel) ⟨Nat.le_of_ble_eq_true rfl, Nat.le_of_ble_eq_true rfl⟩) (nv_pV hK hP (va_recv hK.1 hP (ci := 9) (q0 := 0) rfl rfl)) rfl rfl hl.1 rfl (lv_room (Nat.le_of_ble_eq_true rfl)) dX7_ranked_11 ⟨Nat.zero_le _, Nat.zero_le _⟩) hS (fun H locs hP hS => ?_)
    have hP : va_P D vwCl [(h, .inr (9, [.ref aG, .ref aB, .ref aH, .int (nI ch), .ref aS, .int (nI hs), .ref aI, .int (nI ty), .int ea, .int ra, .int (nI wy), .int wd, .ref aL, .int (nI ln), .int (nI 1), .int (nI sp), .int (nI iw), .ref aT])), (aG, .inl (cI, 128, .inl (gN G))), (aB, .inl (cI, 128, .inl (gN B))), (aH, .inl (cI, 1024, .inl (gN Hi))), (aS, .inl (cI, 128, .inl (gN Sv))), (aI, .inl (cI, 60, .inl (gN In))), (aL, .inl (cC, 40, .inl (gN Le))), (aT, .inl (cI, 360, .inl To))] H := hP
    exact nv_retM hq hx hb hr hlocks (nar_i _) (by rw [if_neg (fun q => c1 ((iR_in2 (n := 1) (by decide)).mpr q))] <;> rfl) hS hP (by rw [if_neg (fun q => c1 ((iR_in2 (n := 1) (by decide)).mpr q))] <;> rfl) dX7_ranked_14

set_option maxHeartbeats 1000000 in
set_option maxRecDepth 100000 in
theorem c_X7_isRight (l : Launch) {D : va_G} {cI cC : ClassId} {h aG aB aH aS aI aL aT : Nat} {G B Hi Sv In Le : Nat → Nat} {To : Nat → Int32} {ch hs ty wy ln th sp iw : Nat} {ea ra wd : Int32} {A : Nat → Prop} (hD : ∀ (G B Hi Sv In Le : Nat → Nat) (To : Nat → Int32) (fs : List Value), va_D A [(h, .inr (9, fs)), (aG, .inl (cI, 128, .inl (gN G))), (aB, .inl (cI, 128, .inl (gN B))), (aH, .inl (cI, 1024, .inl (gN Hi))), (aS, .inl (cI, 128, .inl (gN Sv))), (aI, .inl (cI, 60, .inl (gN In))), (aL, .inl (cC, 40, .inl (gN Le))), (aT, .inl (cI, 360, .inl To))])  : Met l yX7_isRight wsX7_isRight ({ frames := 0, cells := 0, slots := 0, locals := 0 }) (va_Pc [.ref h] (sPre D [(cI, .int), (cC, .char)] [] (fun H => va_P D vwCl [(h, .inr (9, [.ref aG, .ref aB, .ref aH, .int (nI ch), .ref aS, .int (nI hs), .ref aI, .int (nI ty), .int ea, .int ra, .int (nI wy), .int wd, .ref aL, .int (nI ln), .int (nI th), .int (nI sp), .int (nI iw), .ref aT])), (aG, .inl (cI, 128, .inl (gN G))), (aB, .inl (cI, 128, .inl (gN B))), (aH, .inl (cI, 1024, .inl (gN Hi))), (aS, .inl (cI, 128, .inl (gN Sv))), (aI, .inl (cI, 60, .inl (gN In))), (aL, .inl (cC, 40, .inl (gN Le))), (aT, .inl (cI, 360, .inl To))] H))) (mQ D (nI (1)) [(h, .inr (9, [.ref aG, .ref aB, .ref aH, .int (nI ch), .ref aS, .int (nI hs), .ref aI, .int (nI ty), .int ea, .int ra, .int (nI wy), .int wd, .ref aL, .int (nI ln), .int (nI 0), .int (nI sp), .int (nI iw), .ref aT])), (aG, .inl (cI, 128, .inl (gN G))), (aB, .inl (cI, 128, .inl (gN B))), (aH, .inl (cI, 1024, .inl (gN Hi))), (aS, .inl (cI, 128, .inl (gN Sv))), (aI, .inl (cI, 60, .inl (gN In))), (aL, .inl (cC, 40, .inl (gN Le))), (aT, .inl (cI, 360, .inl To))] A) 0 0 A := by
  refine nv_met (cc := cX7_isRight) (maxL := 1) (ret := (some .boolean)) (by decide) rfl (Nat.le_of_ble_eq_true rfl) ?_
  intro p0 e0 s m0 args below meth c0 Q hq hargs hnA hpre ls hl
  obtain ⟨hx, hb, hr, hts, hown, hlocks, hml⟩ := hnA
  obtain ⟨hP, hK⟩ := hpre
  have hown : s.vm.findClass RX7 = some m0.cls := hown
  have hP : va_P D vwCl [(h, .inr (9, [.ref aG, .ref aB, .ref aH, .int (nI ch), .ref aS, .int (nI hs), .ref aI, .int (nI ty), .int ea, .int ra, .int (nI wy), .int wd, .ref aL, .int (nI ln), .int (nI th), .int (nI sp), .int (nI iw), .ref aT])), (aG, .inl (cI, 128, .inl (gN G))), (aB, .inl (cI, 128, .inl (gN B))), (aH, .inl (cI, 1024, .inl (gN Hi))), (aS, .inl (cI, 128, .inl (gN Sv))), (aI, .inl (cI, 60, .inl (gN In))), (aL, .inl (cC, 40, .inl (gN Le))), (aT, .inl (cI, 360, .inl To))] s.heap := hP
  have hl : lv_has ls 1 [(0, .ref h)] := hl
  have hS : va_S A s.heap s.heap [] := va_S.rf
  have in_X7 : ∀ w ∈ wsX70, w ∈ wsX7_isRight := by decide +kernel
  have fl_42 := hts (.fieldLink RX7 42 "DoorDialectModel" "thrown" "I") (by decide +kernel)
  refine lv_aload_n hx hb dX7_isRight_0 rfl (lv_at hl 0 rfl) ?_
  refine lv_iconst (v := nI 0) hx hb dX7_isRight_1 (by decide) ?_
  refine va_put (D := D) (ci := 9) (v := .int (nI 0)) (ty := .int) (C := RX7) (T := TX7) (N := 18) hx hb hts in_X7 tyX7 tyX7_ok nmX7 hown hK.1 hP (hD _ _ _ _ _ _ _ _) hS 0 rfl rfl 14 (by decide) fl_42 (fun _ h9 => h9) rfl (by decide +kernel) rfl rfl (Nat.le_of_ble_eq_true rfl) dX7_isRight_2 (fun H locs hP _ hS => ?_)
  have hP : va_P D vwCl [(h, .inr (9, [.ref aG, .ref aB, .ref aH, .int (nI ch), .ref aS, .int (nI hs), .ref aI, .int (nI ty), .int ea, .int ra, .int (nI wy), .int wd, .ref aL, .int (nI ln), .int (nI 0), .int (nI sp), .int (nI iw), .ref aT])), (aG, .inl (cI, 128, .inl (gN G))), (aB, .inl (cI, 128, .inl (gN B))), (aH, .inl (cI, 1024, .inl (gN Hi))), (aS, .inl (cI, 128, .inl (gN Sv))), (aI, .inl (cI, 60, .inl (gN In))), (aL, .inl (cC, 40, .inl (gN Le))), (aT, .inl (cI, 360, .inl To))] H := hP
  refine lv_iconst (v := nI 1) hx hb dX7_isRight_5 (by decide) ?_
  exact nv_retM hq hx hb hr hlocks (nar_z (by omega)) (rfl) hS hP (rfl) dX7_isRight_6
